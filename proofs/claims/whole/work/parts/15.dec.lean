theorem dX10_appendLetter_0 : decode cX10_appendLetter 0 = .ok (.iload_n 1, 1) := by decide +kernel
theorem dX10_appendLetter_1 : decode cX10_appendLetter 1 = .ok (.bipush 97, 2) := by decide +kernel
theorem dX10_appendLetter_3 : decode cX10_appendLetter 3 = .ok (.if_icmp .lt 9, 3) := by decide +kernel
theorem dX10_appendLetter_6 : decode cX10_appendLetter 6 = .ok (.iload_n 1, 1) := by decide +kernel
theorem dX10_appendLetter_7 : decode cX10_appendLetter 7 = .ok (.bipush 122, 2) := by decide +kernel
theorem dX10_appendLetter_9 : decode cX10_appendLetter 9 = .ok (.if_icmp .le 13, 3) := by decide +kernel
theorem dX10_appendLetter_12 : decode cX10_appendLetter 12 = .ok (.new 70, 3) := by decide +kernel
theorem dX10_appendLetter_15 : decode cX10_appendLetter 15 = .ok (.dup, 1) := by decide +kernel
theorem dX10_appendLetter_16 : decode cX10_appendLetter 16 = .ok (.ldc 72, 2) := by decide +kernel
theorem dX10_appendLetter_18 : decode cX10_appendLetter 18 = .ok (.invokespecial 74, 3) := by decide +kernel
theorem dX10_appendLetter_21 : decode cX10_appendLetter 21 = .ok (.athrow, 1) := by decide +kernel
theorem dX10_appendLetter_22 : decode cX10_appendLetter 22 = .ok (.aload_n 0, 1) := by decide +kernel
theorem dX10_appendLetter_23 : decode cX10_appendLetter 23 = .ok (.getfield 12, 3) := by decide +kernel
theorem dX10_appendLetter_26 : decode cX10_appendLetter 26 = .ok (.getfield 77, 3) := by decide +kernel
theorem dX10_appendLetter_29 : decode cX10_appendLetter 29 = .ok (.bipush 8, 2) := by decide +kernel
theorem dX10_appendLetter_31 : decode cX10_appendLetter 31 = .ok (.if_icmp .lt 13, 3) := by decide +kernel
theorem dX10_appendLetter_44 : decode cX10_appendLetter 44 = .ok (.aload_n 0, 1) := by decide +kernel
theorem dX10_appendLetter_45 : decode cX10_appendLetter 45 = .ok (.getfield 12, 3) := by decide +kernel
theorem dX10_appendLetter_48 : decode cX10_appendLetter 48 = .ok (.getfield 85, 3) := by decide +kernel
theorem dX10_appendLetter_51 : decode cX10_appendLetter 51 = .ok (.aload_n 0, 1) := by decide +kernel
theorem dX10_appendLetter_52 : decode cX10_appendLetter 52 = .ok (.getfield 12, 3) := by decide +kernel
theorem dX10_appendLetter_55 : decode cX10_appendLetter 55 = .ok (.getfield 77, 3) := by decide +kernel
theorem dX10_appendLetter_58 : decode cX10_appendLetter 58 = .ok (.iload_n 1, 1) := by decide +kernel
theorem dX10_appendLetter_59 : decode cX10_appendLetter 59 = .ok (.iastore, 1) := by decide +kernel
theorem dX10_appendLetter_60 : decode cX10_appendLetter 60 = .ok (.aload_n 0, 1) := by decide +kernel
theorem dX10_appendLetter_61 : decode cX10_appendLetter 61 = .ok (.getfield 12, 3) := by decide +kernel
theorem dX10_appendLetter_64 : decode cX10_appendLetter 64 = .ok (.dup, 1) := by decide +kernel
theorem dX10_appendLetter_65 : decode cX10_appendLetter 65 = .ok (.getfield 77, 3) := by decide +kernel
theorem dX10_appendLetter_68 : decode cX10_appendLetter 68 = .ok (.iconst 1, 1) := by decide +kernel
theorem dX10_appendLetter_69 : decode cX10_appendLetter 69 = .ok (.iadd, 1) := by decide +kernel
theorem dX10_appendLetter_70 : decode cX10_appendLetter 70 = .ok (.putfield 77, 3) := by decide +kernel
theorem dX10_appendLetter_73 : decode cX10_appendLetter 73 = .ok (.aload_n 0, 1) := by decide +kernel
theorem dX10_appendLetter_74 : decode cX10_appendLetter 74 = .ok (.invokevirtual 88, 3) := by decide +kernel
theorem dX10_appendLetter_77 : decode cX10_appendLetter 77 = .ok (.aload_n 0, 1) := by decide +kernel
theorem dX10_appendLetter_78 : decode cX10_appendLetter 78 = .ok (.getfield 12, 3) := by decide +kernel
theorem dX10_appendLetter_81 : decode cX10_appendLetter 81 = .ok (.getfield 77, 3) := by decide +kernel
theorem dX10_appendLetter_84 : decode cX10_appendLetter 84 = .ok (.ireturn, 1) := by decide +kernel
theorem dX10_clearDocument_0 : decode cX10_clearDocument 0 = .ok (.aload_n 0, 1) := by decide +kernel
theorem dX10_clearDocument_1 : decode cX10_clearDocument 1 = .ok (.getfield 12, 3) := by decide +kernel
theorem dX10_clearDocument_4 : decode cX10_clearDocument 4 = .ok (.getfield 77, 3) := by decide +kernel
theorem dX10_clearDocument_7 : decode cX10_clearDocument 7 = .ok (.istore_n 1, 1) := by decide +kernel
theorem dX10_clearDocument_8 : decode cX10_clearDocument 8 = .ok (.aload_n 0, 1) := by decide +kernel
theorem dX10_clearDocument_9 : decode cX10_clearDocument 9 = .ok (.getfield 12, 3) := by decide +kernel
theorem dX10_clearDocument_12 : decode cX10_clearDocument 12 = .ok (.iconst 0, 1) := by decide +kernel
theorem dX10_clearDocument_13 : decode cX10_clearDocument 13 = .ok (.putfield 77, 3) := by decide +kernel
theorem dX10_clearDocument_16 : decode cX10_clearDocument 16 = .ok (.aload_n 0, 1) := by decide +kernel
theorem dX10_clearDocument_17 : decode cX10_clearDocument 17 = .ok (.invokevirtual 88, 3) := by decide +kernel
theorem dX10_clearDocument_20 : decode cX10_clearDocument 20 = .ok (.iload_n 1, 1) := by decide +kernel
theorem dX10_clearDocument_21 : decode cX10_clearDocument 21 = .ok (.ireturn, 1) := by decide +kernel
theorem dX10_letter_0 : decode cX10_letter 0 = .ok (.iload_n 1, 1) := by decide +kernel
theorem dX10_letter_1 : decode cX10_letter 1 = .ok (.ifCond .lt 14, 3) := by decide +kernel
theorem dX10_letter_4 : decode cX10_letter 4 = .ok (.iload_n 1, 1) := by decide +kernel
theorem dX10_letter_5 : decode cX10_letter 5 = .ok (.aload_n 0, 1) := by decide +kernel
theorem dX10_letter_6 : decode cX10_letter 6 = .ok (.getfield 12, 3) := by decide +kernel
theorem dX10_letter_9 : decode cX10_letter 9 = .ok (.getfield 77, 3) := by decide +kernel
theorem dX10_letter_12 : decode cX10_letter 12 = .ok (.if_icmp .lt 13, 3) := by decide +kernel
theorem dX10_letter_15 : decode cX10_letter 15 = .ok (.new 91, 3) := by decide +kernel
theorem dX10_letter_18 : decode cX10_letter 18 = .ok (.dup, 1) := by decide +kernel
theorem dX10_letter_19 : decode cX10_letter 19 = .ok (.ldc 93, 2) := by decide +kernel
theorem dX10_letter_21 : decode cX10_letter 21 = .ok (.invokespecial 95, 3) := by decide +kernel
theorem dX10_letter_24 : decode cX10_letter 24 = .ok (.athrow, 1) := by decide +kernel
theorem dX10_emptyAllSlots_0 : decode cX10_emptyAllSlots 0 = .ok (.iconst 0, 1) := by decide +kernel
theorem dX10_emptyAllSlots_1 : decode cX10_emptyAllSlots 1 = .ok (.istore_n 1, 1) := by decide +kernel
theorem dX10_emptyAllSlots_2 : decode cX10_emptyAllSlots 2 = .ok (.iload_n 1, 1) := by decide +kernel
theorem dX10_emptyAllSlots_3 : decode cX10_emptyAllSlots 3 = .ok (.bipush 6, 2) := by decide +kernel
theorem dX10_emptyAllSlots_5 : decode cX10_emptyAllSlots 5 = .ok (.if_icmp .ge 19, 3) := by decide +kernel
theorem dX10_emptyAllSlots_8 : decode cX10_emptyAllSlots 8 = .ok (.aload_n 0, 1) := by decide +kernel
theorem dX10_emptyAllSlots_9 : decode cX10_emptyAllSlots 9 = .ok (.getfield 12, 3) := by decide +kernel
theorem dX10_emptyAllSlots_12 : decode cX10_emptyAllSlots 12 = .ok (.getfield 96, 3) := by decide +kernel
theorem dX10_emptyAllSlots_15 : decode cX10_emptyAllSlots 15 = .ok (.iload_n 1, 1) := by decide +kernel
theorem dX10_emptyAllSlots_16 : decode cX10_emptyAllSlots 16 = .ok (.iconst 0, 1) := by decide +kernel
theorem dX10_emptyAllSlots_17 : decode cX10_emptyAllSlots 17 = .ok (.bastore, 1) := by decide +kernel
theorem dX10_emptyAllSlots_18 : decode cX10_emptyAllSlots 18 = .ok (.iinc 1 1, 3) := by decide +kernel
theorem dX10_emptyAllSlots_21 : decode cX10_emptyAllSlots 21 = .ok (.goto (-19), 3) := by decide +kernel
theorem dX10_emptyAllSlots_24 : decode cX10_emptyAllSlots 24 = .ok (.aload_n 0, 1) := by decide +kernel
theorem dX10_emptyAllSlots_25 : decode cX10_emptyAllSlots 25 = .ok (.iconst (-1), 1) := by decide +kernel
theorem dX10_emptyAllSlots_26 : decode cX10_emptyAllSlots 26 = .ok (.putfield 34, 3) := by decide +kernel
theorem dX10_emptyAllSlots_29 : decode cX10_emptyAllSlots 29 = .ok (.return_, 1) := by decide +kernel
theorem dX10_appendCharacter_0 : decode cX10_appendCharacter 0 = .ok (.iload_n 1, 1) := by decide +kernel
theorem dX10_appendCharacter_1 : decode cX10_appendCharacter 1 = .ok (.bipush 33, 2) := by decide +kernel
theorem dX10_appendCharacter_3 : decode cX10_appendCharacter 3 = .ok (.if_icmp .lt 9, 3) := by decide +kernel
theorem dX10_appendCharacter_6 : decode cX10_appendCharacter 6 = .ok (.iload_n 1, 1) := by decide +kernel
theorem dX10_appendCharacter_7 : decode cX10_appendCharacter 7 = .ok (.bipush 126, 2) := by decide +kernel
theorem dX10_appendCharacter_9 : decode cX10_appendCharacter 9 = .ok (.if_icmp .le 13, 3) := by decide +kernel
theorem dX10_appendCharacter_12 : decode cX10_appendCharacter 12 = .ok (.new 70, 3) := by decide +kernel
theorem dX10_appendCharacter_15 : decode cX10_appendCharacter 15 = .ok (.dup, 1) := by decide +kernel
theorem dX10_appendCharacter_16 : decode cX10_appendCharacter 16 = .ok (.ldc 100, 2) := by decide +kernel
theorem dX10_appendCharacter_18 : decode cX10_appendCharacter 18 = .ok (.invokespecial 74, 3) := by decide +kernel
theorem dX10_appendCharacter_21 : decode cX10_appendCharacter 21 = .ok (.athrow, 1) := by decide +kernel
theorem dX10_appendCharacter_22 : decode cX10_appendCharacter 22 = .ok (.aload_n 0, 1) := by decide +kernel
theorem dX10_appendCharacter_23 : decode cX10_appendCharacter 23 = .ok (.getfield 27, 3) := by decide +kernel
theorem dX10_appendCharacter_26 : decode cX10_appendCharacter 26 = .ok (.bipush 40, 2) := by decide +kernel
theorem dX10_appendCharacter_28 : decode cX10_appendCharacter 28 = .ok (.if_icmp .lt 13, 3) := by decide +kernel
theorem dX10_appendCharacter_41 : decode cX10_appendCharacter 41 = .ok (.aload_n 0, 1) := by decide +kernel
theorem dX10_appendCharacter_42 : decode cX10_appendCharacter 42 = .ok (.getfield 23, 3) := by decide +kernel
theorem dX10_appendCharacter_45 : decode cX10_appendCharacter 45 = .ok (.aload_n 0, 1) := by decide +kernel
theorem dX10_appendCharacter_46 : decode cX10_appendCharacter 46 = .ok (.getfield 27, 3) := by decide +kernel
theorem dX10_appendCharacter_49 : decode cX10_appendCharacter 49 = .ok (.iload_n 1, 1) := by decide +kernel
theorem dX10_appendCharacter_50 : decode cX10_appendCharacter 50 = .ok (.iastore, 1) := by decide +kernel
theorem dX10_appendCharacter_51 : decode cX10_appendCharacter 51 = .ok (.aload_n 0, 1) := by decide +kernel
theorem dX10_appendCharacter_52 : decode cX10_appendCharacter 52 = .ok (.dup, 1) := by decide +kernel
theorem dX10_appendCharacter_53 : decode cX10_appendCharacter 53 = .ok (.getfield 27, 3) := by decide +kernel
theorem dX10_appendCharacter_56 : decode cX10_appendCharacter 56 = .ok (.iconst 1, 1) := by decide +kernel
theorem dX10_appendCharacter_57 : decode cX10_appendCharacter 57 = .ok (.iadd, 1) := by decide +kernel
theorem dX10_appendCharacter_58 : decode cX10_appendCharacter 58 = .ok (.putfield 27, 3) := by decide +kernel
theorem dX10_appendCharacter_61 : decode cX10_appendCharacter 61 = .ok (.aload_n 0, 1) := by decide +kernel
theorem dX10_appendCharacter_62 : decode cX10_appendCharacter 62 = .ok (.getfield 27, 3) := by decide +kernel
theorem dX10_appendCharacter_65 : decode cX10_appendCharacter 65 = .ok (.ireturn, 1) := by decide +kernel
theorem dX10_errorPosition_0 : decode cX10_errorPosition 0 = .ok (.aload_n 0, 1) := by decide +kernel
theorem dX10_errorPosition_1 : decode cX10_errorPosition 1 = .ok (.getfield 31, 3) := by decide +kernel
theorem dX10_errorPosition_4 : decode cX10_errorPosition 4 = .ok (.ireturn, 1) := by decide +kernel
theorem dX10_formulaVariables_0 : decode cX10_formulaVariables 0 = .ok (.aload_n 0, 1) := by decide +kernel
theorem dX10_formulaVariables_1 : decode cX10_formulaVariables 1 = .ok (.invokevirtual 125, 3) := by decide +kernel
theorem dX10_formulaKind_0 : decode cX10_formulaKind 0 = .ok (.aload_n 0, 1) := by decide +kernel
theorem dX10_formulaKind_1 : decode cX10_formulaKind 1 = .ok (.invokevirtual 125, 3) := by decide +kernel
theorem dX10_currentFormula_0 : decode cX10_currentFormula 0 = .ok (.aload_n 0, 1) := by decide +kernel
theorem dX10_currentFormula_1 : decode cX10_currentFormula 1 = .ok (.getfield 12, 3) := by decide +kernel
theorem dX10_currentFormula_4 : decode cX10_currentFormula 4 = .ok (.getfield 121, 3) := by decide +kernel
theorem dX10_currentFormula_7 : decode cX10_currentFormula 7 = .ok (.astore_n 1, 1) := by decide +kernel
theorem dX10_currentFormula_8 : decode cX10_currentFormula 8 = .ok (.aload_n 1, 1) := by decide +kernel
theorem dX10_currentFormula_9 : decode cX10_currentFormula 9 = .ok (.ifnonnull 13, 3) := by decide +kernel
theorem dX10_currentFormula_12 : decode cX10_currentFormula 12 = .ok (.new 80, 3) := by decide +kernel
theorem dX10_currentFormula_15 : decode cX10_currentFormula 15 = .ok (.dup, 1) := by decide +kernel
theorem dX10_currentFormula_16 : decode cX10_currentFormula 16 = .ok (.ldc 136, 2) := by decide +kernel
theorem dX10_currentFormula_18 : decode cX10_currentFormula 18 = .ok (.invokespecial 84, 3) := by decide +kernel
theorem dX10_currentFormula_21 : decode cX10_currentFormula 21 = .ok (.athrow, 1) := by decide +kernel
theorem dX10_extract_0 : decode cX10_extract 0 = .ok (.iload_n 1, 1) := by decide +kernel
theorem dX10_extract_1 : decode cX10_extract 1 = .ok (.invokestatic 138, 3) := by decide +kernel
theorem dX10_extract_4 : decode cX10_extract 4 = .ok (.aload_n 0, 1) := by decide +kernel
theorem dX10_extract_5 : decode cX10_extract 5 = .ok (.invokevirtual 125, 3) := by decide +kernel
theorem dX10_size_0 : decode cX10_size 0 = .ok (.aload_n 0, 1) := by decide +kernel
theorem dX10_size_1 : decode cX10_size 1 = .ok (.iload_n 1, 1) := by decide +kernel
theorem dX10_size_2 : decode cX10_size 2 = .ok (.invokevirtual 153, 3) := by decide +kernel
theorem dX10_start_0 : decode cX10_start 0 = .ok (.aload_n 0, 1) := by decide +kernel
theorem dX10_start_1 : decode cX10_start 1 = .ok (.iload_n 1, 1) := by decide +kernel
theorem dX10_start_2 : decode cX10_start 2 = .ok (.iload_n 2, 1) := by decide +kernel
theorem dX10_start_3 : decode cX10_start 3 = .ok (.iload_n 3, 1) := by decide +kernel
theorem dX10_start_4 : decode cX10_start 4 = .ok (.invokevirtual 160, 3) := by decide +kernel
theorem dX10_end_0 : decode cX10_end 0 = .ok (.aload_n 0, 1) := by decide +kernel
theorem dX10_end_1 : decode cX10_end 1 = .ok (.iload_n 1, 1) := by decide +kernel
theorem dX10_end_2 : decode cX10_end 2 = .ok (.iload_n 2, 1) := by decide +kernel
theorem dX10_end_3 : decode cX10_end 3 = .ok (.iload_n 3, 1) := by decide +kernel
theorem dX10_end_4 : decode cX10_end 4 = .ok (.invokevirtual 160, 3) := by decide +kernel
theorem dX10_domain_0 : decode cX10_domain 0 = .ok (.aload_n 0, 1) := by decide +kernel
theorem dX10_domain_1 : decode cX10_domain 1 = .ok (.iload_n 1, 1) := by decide +kernel
theorem dX10_domain_2 : decode cX10_domain 2 = .ok (.invokevirtual 153, 3) := by decide +kernel
theorem dX10_clear_0 : decode cX10_clear 0 = .ok (.iload_n 1, 1) := by decide +kernel
theorem dX10_clear_1 : decode cX10_clear 1 = .ok (.invokestatic 138, 3) := by decide +kernel
theorem dX10_clear_4 : decode cX10_clear 4 = .ok (.aload_n 0, 1) := by decide +kernel
theorem dX10_clear_5 : decode cX10_clear 5 = .ok (.getfield 12, 3) := by decide +kernel
theorem dX10_clear_8 : decode cX10_clear 8 = .ok (.getfield 96, 3) := by decide +kernel
theorem dX10_clear_11 : decode cX10_clear 11 = .ok (.iload_n 1, 1) := by decide +kernel
theorem dX10_clear_12 : decode cX10_clear 12 = .ok (.baload, 1) := by decide +kernel
theorem dX10_clear_13 : decode cX10_clear 13 = .ok (.ifCond .eq 18, 3) := by decide +kernel
theorem dX10_clear_31 : decode cX10_clear 31 = .ok (.iconst (-1), 1) := by decide +kernel
theorem dX10_clear_32 : decode cX10_clear 32 = .ok (.istore_n 2, 1) := by decide +kernel
theorem dX10_clear_33 : decode cX10_clear 33 = .ok (.aload_n 0, 1) := by decide +kernel
theorem dX10_clear_34 : decode cX10_clear 34 = .ok (.getfield 12, 3) := by decide +kernel
theorem dX10_clear_37 : decode cX10_clear 37 = .ok (.getfield 96, 3) := by decide +kernel
theorem dX10_clear_40 : decode cX10_clear 40 = .ok (.iload_n 1, 1) := by decide +kernel
theorem dX10_clear_41 : decode cX10_clear 41 = .ok (.iconst 0, 1) := by decide +kernel
theorem dX10_clear_42 : decode cX10_clear 42 = .ok (.bastore, 1) := by decide +kernel
theorem dX10_clear_43 : decode cX10_clear 43 = .ok (.aload_n 0, 1) := by decide +kernel
theorem dX10_clear_44 : decode cX10_clear 44 = .ok (.iload_n 1, 1) := by decide +kernel
theorem dX10_clear_45 : decode cX10_clear 45 = .ok (.invokevirtual 182, 3) := by decide +kernel
theorem dX10_clear_48 : decode cX10_clear 48 = .ok (.iload_n 2, 1) := by decide +kernel
theorem dX10_clear_49 : decode cX10_clear 49 = .ok (.ireturn, 1) := by decide +kernel
theorem dX10_spanAt_0 : decode cX10_spanAt 0 = .ok (.aload_n 0, 1) := by decide +kernel
theorem dX10_spanAt_1 : decode cX10_spanAt 1 = .ok (.iload_n 1, 1) := by decide +kernel
theorem dX10_spanAt_2 : decode cX10_spanAt 2 = .ok (.invokevirtual 153, 3) := by decide +kernel
theorem dX10_checkSlot_0 : decode cX10_checkSlot 0 = .ok (.iload_n 0, 1) := by decide +kernel
theorem dX10_checkSlot_1 : decode cX10_checkSlot 1 = .ok (.ifCond .lt 9, 3) := by decide +kernel
theorem dX10_checkSlot_4 : decode cX10_checkSlot 4 = .ok (.iload_n 0, 1) := by decide +kernel
theorem dX10_checkSlot_5 : decode cX10_checkSlot 5 = .ok (.bipush 6, 2) := by decide +kernel
theorem dX10_checkSlot_7 : decode cX10_checkSlot 7 = .ok (.if_icmp .lt 13, 3) := by decide +kernel
theorem dX10_checkSlot_10 : decode cX10_checkSlot 10 = .ok (.new 91, 3) := by decide +kernel
theorem dX10_checkSlot_13 : decode cX10_checkSlot 13 = .ok (.dup, 1) := by decide +kernel
theorem dX10_checkSlot_14 : decode cX10_checkSlot 14 = .ok (.ldc 196, 2) := by decide +kernel
theorem dX10_checkSlot_16 : decode cX10_checkSlot 16 = .ok (.invokespecial 95, 3) := by decide +kernel
theorem dX10_checkSlot_19 : decode cX10_checkSlot 19 = .ok (.athrow, 1) := by decide +kernel
theorem dX10_checkSlot_20 : decode cX10_checkSlot 20 = .ok (.return_, 1) := by decide +kernel
theorem dX10_checkVariable_0 : decode cX10_checkVariable 0 = .ok (.iload_n 0, 1) := by decide +kernel
theorem dX10_checkVariable_1 : decode cX10_checkVariable 1 = .ok (.ifCond .lt 8, 3) := by decide +kernel
theorem dX10_checkVariable_4 : decode cX10_checkVariable 4 = .ok (.iload_n 0, 1) := by decide +kernel
theorem dX10_checkVariable_5 : decode cX10_checkVariable 5 = .ok (.iconst 3, 1) := by decide +kernel
theorem dX10_checkVariable_6 : decode cX10_checkVariable 6 = .ok (.if_icmp .lt 13, 3) := by decide +kernel
theorem dX10_checkVariable_9 : decode cX10_checkVariable 9 = .ok (.new 91, 3) := by decide +kernel
theorem dX10_checkVariable_12 : decode cX10_checkVariable 12 = .ok (.dup, 1) := by decide +kernel
theorem dX10_checkVariable_13 : decode cX10_checkVariable 13 = .ok (.ldc 198, 2) := by decide +kernel
theorem dX10_checkVariable_15 : decode cX10_checkVariable 15 = .ok (.invokespecial 95, 3) := by decide +kernel
theorem dX10_checkVariable_18 : decode cX10_checkVariable 18 = .ok (.athrow, 1) := by decide +kernel
theorem dX10_checkVariable_19 : decode cX10_checkVariable 19 = .ok (.return_, 1) := by decide +kernel
theorem dX10_tableIn_0 : decode cX10_tableIn 0 = .ok (.iload_n 1, 1) := by decide +kernel
theorem dX10_tableIn_1 : decode cX10_tableIn 1 = .ok (.invokestatic 138, 3) := by decide +kernel
theorem dX10_tableIn_4 : decode cX10_tableIn 4 = .ok (.aload_n 0, 1) := by decide +kernel
theorem dX10_tableIn_5 : decode cX10_tableIn 5 = .ok (.getfield 12, 3) := by decide +kernel
theorem dX10_tableIn_8 : decode cX10_tableIn 8 = .ok (.getfield 96, 3) := by decide +kernel
theorem dX10_tableIn_11 : decode cX10_tableIn 11 = .ok (.iload_n 1, 1) := by decide +kernel
theorem dX10_tableIn_12 : decode cX10_tableIn 12 = .ok (.baload, 1) := by decide +kernel
theorem dX10_tableIn_13 : decode cX10_tableIn 13 = .ok (.ifCond .ne 13, 3) := by decide +kernel
theorem dX10_tableIn_16 : decode cX10_tableIn 16 = .ok (.new 80, 3) := by decide +kernel
theorem dX10_tableIn_19 : decode cX10_tableIn 19 = .ok (.dup, 1) := by decide +kernel
theorem dX10_tableIn_20 : decode cX10_tableIn 20 = .ok (.ldc 202, 2) := by decide +kernel
theorem dX10_tableIn_22 : decode cX10_tableIn 22 = .ok (.invokespecial 84, 3) := by decide +kernel
theorem dX10_tableIn_25 : decode cX10_tableIn 25 = .ok (.athrow, 1) := by decide +kernel
theorem dX10_leaveSlot_0 : decode cX10_leaveSlot 0 = .ok (.aload_n 0, 1) := by decide +kernel
theorem dX10_leaveSlot_1 : decode cX10_leaveSlot 1 = .ok (.getfield 34, 3) := by decide +kernel
theorem dX10_leaveSlot_4 : decode cX10_leaveSlot 4 = .ok (.iload_n 1, 1) := by decide +kernel
theorem dX10_leaveSlot_5 : decode cX10_leaveSlot 5 = .ok (.if_icmp .ne 8, 3) := by decide +kernel
theorem dX10_leaveSlot_8 : decode cX10_leaveSlot 8 = .ok (.aload_n 0, 1) := by decide +kernel
theorem dX10_leaveSlot_9 : decode cX10_leaveSlot 9 = .ok (.iconst (-1), 1) := by decide +kernel
theorem dX10_leaveSlot_10 : decode cX10_leaveSlot 10 = .ok (.putfield 34, 3) := by decide +kernel
theorem dX10_leaveSlot_13 : decode cX10_leaveSlot 13 = .ok (.return_, 1) := by decide +kernel
theorem dX10_union_0 : decode cX10_union 0 = .ok (.iload_n 1, 1) := by decide +kernel
theorem dX10_union_1 : decode cX10_union 1 = .ok (.iload_n 2, 1) := by decide +kernel
theorem dX10_union_2 : decode cX10_union 2 = .ok (.iload_n 3, 1) := by decide +kernel
theorem dX10_union_3 : decode cX10_union 3 = .ok (.invokestatic 213, 3) := by decide +kernel
theorem dX10_union_6 : decode cX10_union 6 = .ok (.aload_n 0, 1) := by decide +kernel
theorem dX10_union_7 : decode cX10_union 7 = .ok (.iload_n 1, 1) := by decide +kernel
theorem dX10_union_8 : decode cX10_union 8 = .ok (.invokevirtual 153, 3) := by decide +kernel
theorem dX10_join_0 : decode cX10_join 0 = .ok (.iload_n 1, 1) := by decide +kernel
theorem dX10_join_1 : decode cX10_join 1 = .ok (.iload_n 2, 1) := by decide +kernel
theorem dX10_join_2 : decode cX10_join 2 = .ok (.iload_n 3, 1) := by decide +kernel
theorem dX10_join_3 : decode cX10_join 3 = .ok (.invokestatic 213, 3) := by decide +kernel
theorem dX10_join_6 : decode cX10_join 6 = .ok (.aload_n 0, 1) := by decide +kernel
theorem dX10_join_7 : decode cX10_join 7 = .ok (.iload_n 1, 1) := by decide +kernel
theorem dX10_join_8 : decode cX10_join 8 = .ok (.invokevirtual 153, 3) := by decide +kernel
theorem dX10_minus_0 : decode cX10_minus 0 = .ok (.iload_n 1, 1) := by decide +kernel
theorem dX10_minus_1 : decode cX10_minus 1 = .ok (.iload_n 2, 1) := by decide +kernel
theorem dX10_minus_2 : decode cX10_minus 2 = .ok (.iload_n 3, 1) := by decide +kernel
theorem dX10_minus_3 : decode cX10_minus 3 = .ok (.invokestatic 213, 3) := by decide +kernel
theorem dX10_minus_6 : decode cX10_minus 6 = .ok (.aload_n 0, 1) := by decide +kernel
theorem dX10_minus_7 : decode cX10_minus 7 = .ok (.iload_n 1, 1) := by decide +kernel
theorem dX10_minus_8 : decode cX10_minus 8 = .ok (.invokevirtual 153, 3) := by decide +kernel
theorem dX10_antijoin_0 : decode cX10_antijoin 0 = .ok (.iload_n 1, 1) := by decide +kernel
theorem dX10_antijoin_1 : decode cX10_antijoin 1 = .ok (.iload_n 2, 1) := by decide +kernel
theorem dX10_antijoin_2 : decode cX10_antijoin 2 = .ok (.iload_n 3, 1) := by decide +kernel
theorem dX10_antijoin_3 : decode cX10_antijoin 3 = .ok (.invokestatic 213, 3) := by decide +kernel
theorem dX10_antijoin_6 : decode cX10_antijoin 6 = .ok (.aload_n 0, 1) := by decide +kernel
theorem dX10_antijoin_7 : decode cX10_antijoin 7 = .ok (.iload_n 1, 1) := by decide +kernel
theorem dX10_antijoin_8 : decode cX10_antijoin 8 = .ok (.invokevirtual 153, 3) := by decide +kernel
theorem dX10_checkSlots_0 : decode cX10_checkSlots 0 = .ok (.iload_n 0, 1) := by decide +kernel
theorem dX10_checkSlots_1 : decode cX10_checkSlots 1 = .ok (.invokestatic 138, 3) := by decide +kernel
theorem dX10_checkSlots_4 : decode cX10_checkSlots 4 = .ok (.iload_n 1, 1) := by decide +kernel
theorem dX10_checkSlots_5 : decode cX10_checkSlots 5 = .ok (.invokestatic 138, 3) := by decide +kernel
theorem dX10_checkSlots_8 : decode cX10_checkSlots 8 = .ok (.iload_n 2, 1) := by decide +kernel
theorem dX10_checkSlots_9 : decode cX10_checkSlots 9 = .ok (.invokestatic 138, 3) := by decide +kernel
theorem dX10_checkSlots_12 : decode cX10_checkSlots 12 = .ok (.return_, 1) := by decide +kernel
theorem dX10_project_0 : decode cX10_project 0 = .ok (.iload_n 1, 1) := by decide +kernel
theorem dX10_project_1 : decode cX10_project 1 = .ok (.invokestatic 138, 3) := by decide +kernel
theorem dX10_project_4 : decode cX10_project 4 = .ok (.iload_n 3, 1) := by decide +kernel
theorem dX10_project_5 : decode cX10_project 5 = .ok (.invokestatic 138, 3) := by decide +kernel
theorem dX10_project_8 : decode cX10_project 8 = .ok (.iload_n 2, 1) := by decide +kernel
theorem dX10_project_9 : decode cX10_project 9 = .ok (.ifCond .lt 9, 3) := by decide +kernel
theorem dX10_project_12 : decode cX10_project 12 = .ok (.iload_n 2, 1) := by decide +kernel
theorem dX10_project_13 : decode cX10_project 13 = .ok (.bipush 8, 2) := by decide +kernel
theorem dX10_project_15 : decode cX10_project 15 = .ok (.if_icmp .lt 13, 3) := by decide +kernel
theorem dX10_project_18 : decode cX10_project 18 = .ok (.new 70, 3) := by decide +kernel
theorem dX10_project_21 : decode cX10_project 21 = .ok (.dup, 1) := by decide +kernel
theorem dX10_project_22 : decode cX10_project 22 = .ok (.ldc 236, 2) := by decide +kernel
theorem dX10_project_24 : decode cX10_project 24 = .ok (.invokespecial 74, 3) := by decide +kernel
theorem dX10_project_27 : decode cX10_project 27 = .ok (.athrow, 1) := by decide +kernel
theorem dX10_project_28 : decode cX10_project 28 = .ok (.aload_n 0, 1) := by decide +kernel
theorem dX10_project_29 : decode cX10_project 29 = .ok (.iload_n 1, 1) := by decide +kernel
theorem dX10_project_30 : decode cX10_project 30 = .ok (.invokevirtual 153, 3) := by decide +kernel
theorem dX10_exchange_0 : decode cX10_exchange 0 = .ok (.iload_n 1, 1) := by decide +kernel
theorem dX10_exchange_1 : decode cX10_exchange 1 = .ok (.iload_n 2, 1) := by decide +kernel
theorem dX10_exchange_2 : decode cX10_exchange 2 = .ok (.iload_n 3, 1) := by decide +kernel
theorem dX10_exchange_3 : decode cX10_exchange 3 = .ok (.iload 4, 2) := by decide +kernel
theorem dX10_exchange_5 : decode cX10_exchange 5 = .ok (.invokestatic 241, 3) := by decide +kernel
theorem dX10_exchange_8 : decode cX10_exchange 8 = .ok (.aload_n 0, 1) := by decide +kernel
theorem dX10_exchange_9 : decode cX10_exchange 9 = .ok (.iload_n 1, 1) := by decide +kernel
theorem dX10_exchange_10 : decode cX10_exchange 10 = .ok (.invokevirtual 153, 3) := by decide +kernel
theorem dX10_selectEqual_0 : decode cX10_selectEqual 0 = .ok (.iload_n 1, 1) := by decide +kernel
theorem dX10_selectEqual_1 : decode cX10_selectEqual 1 = .ok (.iload_n 2, 1) := by decide +kernel
theorem dX10_selectEqual_2 : decode cX10_selectEqual 2 = .ok (.iload_n 3, 1) := by decide +kernel
theorem dX10_selectEqual_3 : decode cX10_selectEqual 3 = .ok (.iload 4, 2) := by decide +kernel
theorem dX10_selectEqual_5 : decode cX10_selectEqual 5 = .ok (.invokestatic 241, 3) := by decide +kernel
theorem dX10_selectEqual_8 : decode cX10_selectEqual 8 = .ok (.aload_n 0, 1) := by decide +kernel
theorem dX10_selectEqual_9 : decode cX10_selectEqual 9 = .ok (.iload_n 1, 1) := by decide +kernel
theorem dX10_selectEqual_10 : decode cX10_selectEqual 10 = .ok (.invokevirtual 153, 3) := by decide +kernel
theorem dX10_selectLength_0 : decode cX10_selectLength 0 = .ok (.iload_n 1, 1) := by decide +kernel
theorem dX10_selectLength_1 : decode cX10_selectLength 1 = .ok (.iload_n 2, 1) := by decide +kernel
theorem dX10_selectLength_2 : decode cX10_selectLength 2 = .ok (.iload_n 2, 1) := by decide +kernel
theorem dX10_selectLength_3 : decode cX10_selectLength 3 = .ok (.iload 5, 2) := by decide +kernel
theorem dX10_selectLength_5 : decode cX10_selectLength 5 = .ok (.invokestatic 241, 3) := by decide +kernel
theorem dX10_selectLength_8 : decode cX10_selectLength 8 = .ok (.aload_n 0, 1) := by decide +kernel
theorem dX10_selectLength_9 : decode cX10_selectLength 9 = .ok (.iload_n 1, 1) := by decide +kernel
theorem dX10_selectLength_10 : decode cX10_selectLength 10 = .ok (.invokevirtual 153, 3) := by decide +kernel
theorem dX10_selectRelation_0 : decode cX10_selectRelation 0 = .ok (.iload_n 1, 1) := by decide +kernel
theorem dX10_selectRelation_1 : decode cX10_selectRelation 1 = .ok (.iload_n 2, 1) := by decide +kernel
theorem dX10_selectRelation_2 : decode cX10_selectRelation 2 = .ok (.iload_n 3, 1) := by decide +kernel
theorem dX10_selectRelation_3 : decode cX10_selectRelation 3 = .ok (.iload 5, 2) := by decide +kernel
theorem dX10_selectRelation_5 : decode cX10_selectRelation 5 = .ok (.invokestatic 241, 3) := by decide +kernel
theorem dX10_selectRelation_8 : decode cX10_selectRelation 8 = .ok (.iload 4, 2) := by decide +kernel
theorem dX10_selectRelation_10 : decode cX10_selectRelation 10 = .ok (.ifCond .lt 9, 3) := by decide +kernel
theorem dX10_selectRelation_13 : decode cX10_selectRelation 13 = .ok (.iload 4, 2) := by decide +kernel
theorem dX10_selectRelation_15 : decode cX10_selectRelation 15 = .ok (.iconst 4, 1) := by decide +kernel
theorem dX10_selectRelation_16 : decode cX10_selectRelation 16 = .ok (.if_icmp .lt 14, 3) := by decide +kernel
theorem dX10_selectRelation_19 : decode cX10_selectRelation 19 = .ok (.new 70, 3) := by decide +kernel
theorem dX10_selectRelation_22 : decode cX10_selectRelation 22 = .ok (.dup, 1) := by decide +kernel
theorem dX10_selectRelation_23 : decode cX10_selectRelation 23 = .ok (.ldc_w 258, 3) := by decide +kernel
theorem dX10_selectRelation_26 : decode cX10_selectRelation 26 = .ok (.invokespecial 74, 3) := by decide +kernel
theorem dX10_selectRelation_29 : decode cX10_selectRelation 29 = .ok (.athrow, 1) := by decide +kernel
theorem dX10_selectRelation_30 : decode cX10_selectRelation 30 = .ok (.aload_n 0, 1) := by decide +kernel
theorem dX10_selectRelation_31 : decode cX10_selectRelation 31 = .ok (.iload_n 1, 1) := by decide +kernel
theorem dX10_selectRelation_32 : decode cX10_selectRelation 32 = .ok (.invokevirtual 153, 3) := by decide +kernel
theorem dX10_checkSelection_0 : decode cX10_checkSelection 0 = .ok (.iload_n 0, 1) := by decide +kernel
theorem dX10_checkSelection_1 : decode cX10_checkSelection 1 = .ok (.invokestatic 138, 3) := by decide +kernel
theorem dX10_checkSelection_4 : decode cX10_checkSelection 4 = .ok (.iload_n 3, 1) := by decide +kernel
theorem dX10_checkSelection_5 : decode cX10_checkSelection 5 = .ok (.invokestatic 138, 3) := by decide +kernel
theorem dX10_checkSelection_8 : decode cX10_checkSelection 8 = .ok (.iload_n 1, 1) := by decide +kernel
theorem dX10_checkSelection_9 : decode cX10_checkSelection 9 = .ok (.invokestatic 189, 3) := by decide +kernel
theorem dX10_checkSelection_12 : decode cX10_checkSelection 12 = .ok (.iload_n 2, 1) := by decide +kernel
theorem dX10_checkSelection_13 : decode cX10_checkSelection 13 = .ok (.invokestatic 189, 3) := by decide +kernel
theorem dX10_checkSelection_16 : decode cX10_checkSelection 16 = .ok (.return_, 1) := by decide +kernel
theorem dX10_contained_0 : decode cX10_contained 0 = .ok (.iload_n 1, 1) := by decide +kernel
theorem dX10_contained_1 : decode cX10_contained 1 = .ok (.invokestatic 138, 3) := by decide +kernel
theorem dX10_contained_4 : decode cX10_contained 4 = .ok (.iload_n 2, 1) := by decide +kernel
theorem dX10_contained_5 : decode cX10_contained 5 = .ok (.invokestatic 138, 3) := by decide +kernel
theorem dX10_contained_8 : decode cX10_contained 8 = .ok (.aload_n 0, 1) := by decide +kernel
theorem dX10_contained_9 : decode cX10_contained 9 = .ok (.iload_n 1, 1) := by decide +kernel
theorem dX10_contained_10 : decode cX10_contained 10 = .ok (.invokevirtual 153, 3) := by decide +kernel
theorem dX10_disjoint_0 : decode cX10_disjoint 0 = .ok (.aload_n 0, 1) := by decide +kernel
theorem dX10_disjoint_1 : decode cX10_disjoint 1 = .ok (.iload_n 1, 1) := by decide +kernel
theorem dX10_disjoint_2 : decode cX10_disjoint 2 = .ok (.invokevirtual 153, 3) := by decide +kernel
theorem dX10_extractSplit_0 : decode cX10_extractSplit 0 = .ok (.iload_n 1, 1) := by decide +kernel
theorem dX10_extractSplit_1 : decode cX10_extractSplit 1 = .ok (.invokestatic 138, 3) := by decide +kernel
theorem dX10_extractSplit_4 : decode cX10_extractSplit 4 = .ok (.iload_n 2, 1) := by decide +kernel
theorem dX10_extractSplit_5 : decode cX10_extractSplit 5 = .ok (.invokestatic 138, 3) := by decide +kernel
theorem dX10_extractSplit_8 : decode cX10_extractSplit 8 = .ok (.aload_n 0, 1) := by decide +kernel
theorem dX10_extractSplit_9 : decode cX10_extractSplit 9 = .ok (.iload_n 1, 1) := by decide +kernel
theorem dX10_extractSplit_10 : decode cX10_extractSplit 10 = .ok (.invokevirtual 153, 3) := by decide +kernel
theorem dX10_splitCorrect_0 : decode cX10_splitCorrect 0 = .ok (.aload_n 0, 1) := by decide +kernel
theorem dX10_splitCorrect_1 : decode cX10_splitCorrect 1 = .ok (.iload_n 1, 1) := by decide +kernel
theorem dX10_splitCorrect_2 : decode cX10_splitCorrect 2 = .ok (.invokevirtual 153, 3) := by decide +kernel
theorem dX10_openCursor_0 : decode cX10_openCursor 0 = .ok (.aload_n 0, 1) := by decide +kernel
theorem dX10_openCursor_1 : decode cX10_openCursor 1 = .ok (.iload_n 1, 1) := by decide +kernel
theorem dX10_openCursor_2 : decode cX10_openCursor 2 = .ok (.invokevirtual 153, 3) := by decide +kernel
theorem dX10_cursorRow_0 : decode cX10_cursorRow 0 = .ok (.aload_n 0, 1) := by decide +kernel
theorem dX10_cursorRow_1 : decode cX10_cursorRow 1 = .ok (.aload_n 0, 1) := by decide +kernel
theorem dX10_cursorRow_2 : decode cX10_cursorRow 2 = .ok (.invokevirtual 278, 3) := by decide +kernel
theorem dX10_advance_0 : decode cX10_advance 0 = .ok (.iload_n 1, 1) := by decide +kernel
theorem dX10_advance_1 : decode cX10_advance 1 = .ok (.ifCond .ge 14, 3) := by decide +kernel
theorem dX10_advance_4 : decode cX10_advance 4 = .ok (.new 70, 3) := by decide +kernel
theorem dX10_advance_7 : decode cX10_advance 7 = .ok (.dup, 1) := by decide +kernel
theorem dX10_advance_8 : decode cX10_advance 8 = .ok (.ldc_w 286, 3) := by decide +kernel
theorem dX10_advance_11 : decode cX10_advance 11 = .ok (.invokespecial 74, 3) := by decide +kernel
theorem dX10_advance_14 : decode cX10_advance 14 = .ok (.athrow, 1) := by decide +kernel
theorem dX10_advance_15 : decode cX10_advance 15 = .ok (.aload_n 0, 1) := by decide +kernel
theorem dX10_advance_16 : decode cX10_advance 16 = .ok (.invokevirtual 278, 3) := by decide +kernel
theorem dX10_skipTo_0 : decode cX10_skipTo 0 = .ok (.aload_n 0, 1) := by decide +kernel
theorem dX10_skipTo_1 : decode cX10_skipTo 1 = .ok (.invokevirtual 278, 3) := by decide +kernel
theorem dX10_cursorTable_0 : decode cX10_cursorTable 0 = .ok (.aload_n 0, 1) := by decide +kernel
theorem dX10_cursorTable_1 : decode cX10_cursorTable 1 = .ok (.getfield 34, 3) := by decide +kernel
theorem dX10_cursorTable_4 : decode cX10_cursorTable 4 = .ok (.iconst (-1), 1) := by decide +kernel
theorem dX10_cursorTable_5 : decode cX10_cursorTable 5 = .ok (.if_icmp .ne 14, 3) := by decide +kernel
theorem dX10_cursorTable_8 : decode cX10_cursorTable 8 = .ok (.new 80, 3) := by decide +kernel
theorem dX10_cursorTable_11 : decode cX10_cursorTable 11 = .ok (.dup, 1) := by decide +kernel
theorem dX10_cursorTable_12 : decode cX10_cursorTable 12 = .ok (.ldc_w 291, 3) := by decide +kernel
theorem dX10_cursorTable_15 : decode cX10_cursorTable 15 = .ok (.invokespecial 84, 3) := by decide +kernel
theorem dX10_cursorTable_18 : decode cX10_cursorTable 18 = .ok (.athrow, 1) := by decide +kernel
theorem dX10_setWeight_0 : decode cX10_setWeight 0 = .ok (.iload_n 1, 1) := by decide +kernel
theorem dX10_setWeight_1 : decode cX10_setWeight 1 = .ok (.invokestatic 189, 3) := by decide +kernel
theorem dX10_setWeight_4 : decode cX10_setWeight 4 = .ok (.aload_n 0, 1) := by decide +kernel
theorem dX10_setWeight_5 : decode cX10_setWeight 5 = .ok (.getfield 12, 3) := by decide +kernel
theorem dX10_setWeight_8 : decode cX10_setWeight 8 = .ok (.getfield 293, 3) := by decide +kernel
theorem dX10_setWeight_11 : decode cX10_setWeight 11 = .ok (.iload_n 1, 1) := by decide +kernel
theorem dX10_setWeight_12 : decode cX10_setWeight 12 = .ok (.iaload, 1) := by decide +kernel
theorem dX10_setWeight_13 : decode cX10_setWeight 13 = .ok (.istore_n 3, 1) := by decide +kernel
theorem dX10_setWeight_14 : decode cX10_setWeight 14 = .ok (.aload_n 0, 1) := by decide +kernel
theorem dX10_setWeight_15 : decode cX10_setWeight 15 = .ok (.getfield 12, 3) := by decide +kernel
theorem dX10_setWeight_18 : decode cX10_setWeight 18 = .ok (.getfield 293, 3) := by decide +kernel
theorem dX10_setWeight_21 : decode cX10_setWeight 21 = .ok (.iload_n 1, 1) := by decide +kernel
theorem dX10_setWeight_22 : decode cX10_setWeight 22 = .ok (.iload_n 2, 1) := by decide +kernel
theorem dX10_setWeight_23 : decode cX10_setWeight 23 = .ok (.iastore, 1) := by decide +kernel
theorem dX10_setWeight_24 : decode cX10_setWeight 24 = .ok (.iload_n 3, 1) := by decide +kernel
theorem dX10_setWeight_25 : decode cX10_setWeight 25 = .ok (.ireturn, 1) := by decide +kernel
theorem dX10_score_0 : decode cX10_score 0 = .ok (.aload_n 0, 1) := by decide +kernel
theorem dX10_score_1 : decode cX10_score 1 = .ok (.iload_n 1, 1) := by decide +kernel
theorem dX10_score_2 : decode cX10_score 2 = .ok (.invokevirtual 153, 3) := by decide +kernel
theorem dX10_classes_0 : decode cX10_classes 0 = .ok (.aload_n 0, 1) := by decide +kernel
theorem dX10_classes_1 : decode cX10_classes 1 = .ok (.aload_n 0, 1) := by decide +kernel
theorem dX10_classes_2 : decode cX10_classes 2 = .ok (.iload_n 1, 1) := by decide +kernel
theorem dX10_classes_3 : decode cX10_classes 3 = .ok (.invokevirtual 153, 3) := by decide +kernel
theorem dX10_rank_0 : decode cX10_rank 0 = .ok (.aload_n 0, 1) := by decide +kernel
theorem dX10_rank_1 : decode cX10_rank 1 = .ok (.iload_n 1, 1) := by decide +kernel
theorem dX10_rank_2 : decode cX10_rank 2 = .ok (.invokevirtual 153, 3) := by decide +kernel
theorem dX10_best_0 : decode cX10_best 0 = .ok (.aload_n 0, 1) := by decide +kernel
theorem dX10_best_1 : decode cX10_best 1 = .ok (.iload_n 1, 1) := by decide +kernel
theorem dX10_best_2 : decode cX10_best 2 = .ok (.invokevirtual 153, 3) := by decide +kernel
theorem dX10_total_0 : decode cX10_total 0 = .ok (.aload_n 0, 1) := by decide +kernel
theorem dX10_total_1 : decode cX10_total 1 = .ok (.iload_n 1, 1) := by decide +kernel
theorem dX10_total_2 : decode cX10_total 2 = .ok (.invokevirtual 153, 3) := by decide +kernel
theorem dX10_restore_0 : decode cX10_restore 0 = .ok (.aload_n 0, 1) := by decide +kernel
theorem dX10_restore_1 : decode cX10_restore 1 = .ok (.getfield 19, 3) := by decide +kernel
theorem dX10_restore_4 : decode cX10_restore 4 = .ok (.ifCond .ne 14, 3) := by decide +kernel
theorem dX10_restore_7 : decode cX10_restore 7 = .ok (.new 80, 3) := by decide +kernel
theorem dX10_restore_10 : decode cX10_restore 10 = .ok (.dup, 1) := by decide +kernel
theorem dX10_restore_11 : decode cX10_restore 11 = .ok (.ldc_w 321, 3) := by decide +kernel
theorem dX10_restore_14 : decode cX10_restore 14 = .ok (.invokespecial 84, 3) := by decide +kernel
theorem dX10_restore_17 : decode cX10_restore 17 = .ok (.athrow, 1) := by decide +kernel

/-! laid by wip/whole/i1.py: the JDK's own methods of the text constants: names, words, rows that decode -/
theorem am_Tg : ∀ w ∈ am_T, (w.onTables && w.keeps) = true ∨ ∃ ty, w = .arrayClass ty := fun w hw => good_of_word (List.mem_filter.mp hw).2
def jM_cod : am_M := ((⟨"java/lang/String", "coder", "()B"⟩ : MethodName), prog_14_method_152_code, 1, some .byte, 0, 0)
def jM_lat : am_M := ((⟨"java/lang/String", "isLatin1", "()Z"⟩ : MethodName), prog_14_method_154_code, 1, some .boolean, 0, 0)
def jM_len : am_M := ((⟨"java/lang/String", "length", "()I"⟩ : MethodName), prog_14_method_54_code, 1, some .int, 0, 0)
def jM_pci : am_M := ((⟨"jdk/internal/util/Preconditions", "checkIndex", "(IILjava/util/function/BiFunction;)I"⟩ : MethodName), prog_18_method_11_code, 3, some .int, 3, 0)
def jM_sci : am_M := ((⟨"java/lang/String", "checkIndex", "(II)V"⟩ : MethodName), prog_14_method_155_code, 2, none, 2, 0)
def jM_lch : am_M := ((⟨"java/lang/StringLatin1", "charAt", "([BI)C"⟩ : MethodName), prog_15_method_2_code, 2, some .char, 2, 0)
def jM_cha : am_M := ((⟨"java/lang/String", "charAt", "(I)C"⟩ : MethodName), prog_14_method_56_code, 2, some .char, 1, 0)
def jM_cen : am_M := ((⟨"java/lang/StringLatin1", "canEncode", "(I)Z"⟩ : MethodName), prog_15_method_4_code, 1, some .boolean, 1, 0)
def jM_ioc : am_M := ((⟨"java/lang/StringLatin1", "indexOfChar", "([BIII)I"⟩ : MethodName), prog_15_method_23_code, 6, some .int, 4, 0)
def jM_lix : am_M := ((⟨"java/lang/StringLatin1", "indexOf", "([BIII)I"⟩ : MethodName), prog_15_method_22_code, 4, some .int, 4, 0)
def jM_ix2 : am_M := ((⟨"java/lang/String", "indexOf", "(II)I"⟩ : MethodName), prog_14_method_80_code, 3, some .int, 2, 0)
def jM_ix1 : am_M := ((⟨"java/lang/String", "indexOf", "(I)I"⟩ : MethodName), prog_14_method_79_code, 2, some .int, 1, 0)
theorem jw_0 : Cond.code (⟨"java/lang/String", "coder", "()B"⟩ : MethodName) prog_14_method_152_code 1 (some .byte) ∈ am_T := am_wb_of (j := 485) (by decide +kernel)
theorem jw_1 : Cond.initialized "java/lang/String" ∈ am_T := am_wb_of (j := 91) (by decide +kernel)
theorem jo_cod : am_mo am_T jM_cod := ⟨jw_0, jw_1, ⟨by decide, by decide⟩, by decide +kernel, Nat.le_of_ble_eq_true rfl⟩
theorem jw_2 : Cond.code (⟨"java/lang/String", "isLatin1", "()Z"⟩ : MethodName) prog_14_method_154_code 1 (some .boolean) ∈ am_T := am_wb_of (j := 498) (by decide +kernel)
theorem jo_lat : am_mo am_T jM_lat := ⟨jw_2, jw_1, ⟨by decide, by decide⟩, by decide +kernel, Nat.le_of_ble_eq_true rfl⟩
theorem jw_3 : Cond.code (⟨"java/lang/String", "length", "()I"⟩ : MethodName) prog_14_method_54_code 1 (some .int) ∈ am_T := am_wb_of (j := 481) (by decide +kernel)
theorem jo_len : am_mo am_T jM_len := ⟨jw_3, jw_1, ⟨by decide, by decide⟩, by decide +kernel, Nat.le_of_ble_eq_true rfl⟩
theorem jw_4 : Cond.code (⟨"jdk/internal/util/Preconditions", "checkIndex", "(IILjava/util/function/BiFunction;)I"⟩ : MethodName) prog_18_method_11_code 3 (some .int) ∈ am_T := am_wb_of (j := 509) (by decide +kernel)
theorem jw_5 : Cond.initialized "jdk/internal/util/Preconditions" ∈ am_T := am_wb_of (j := 93) (by decide +kernel)
theorem jo_pci : am_mo am_T jM_pci := ⟨jw_4, jw_5, ⟨by decide, by decide⟩, by decide +kernel, Nat.le_of_ble_eq_true rfl⟩
theorem jw_6 : Cond.code (⟨"java/lang/String", "checkIndex", "(II)V"⟩ : MethodName) prog_14_method_155_code 2 none ∈ am_T := am_wb_of (j := 504) (by decide +kernel)
theorem jo_sci : am_mo am_T jM_sci := ⟨jw_6, jw_1, ⟨by decide, by decide⟩, by decide +kernel, Nat.le_of_ble_eq_true rfl⟩
theorem jw_7 : Cond.code (⟨"java/lang/StringLatin1", "charAt", "([BI)C"⟩ : MethodName) prog_15_method_2_code 2 (some .char) ∈ am_T := am_wb_of (j := 501) (by decide +kernel)
theorem jw_8 : Cond.initialized "java/lang/StringLatin1" ∈ am_T := am_wb_of (j := 92) (by decide +kernel)
theorem jo_lch : am_mo am_T jM_lch := ⟨jw_7, jw_8, ⟨by decide, by decide⟩, by decide +kernel, Nat.le_of_ble_eq_true rfl⟩
theorem jw_9 : Cond.code (⟨"java/lang/String", "charAt", "(I)C"⟩ : MethodName) prog_14_method_56_code 2 (some .char) ∈ am_T := am_wb_of (j := 494) (by decide +kernel)
theorem jo_cha : am_mo am_T jM_cha := ⟨jw_9, jw_1, ⟨by decide, by decide⟩, by decide +kernel, Nat.le_of_ble_eq_true rfl⟩
theorem jw_10 : Cond.code (⟨"java/lang/StringLatin1", "canEncode", "(I)Z"⟩ : MethodName) prog_15_method_4_code 1 (some .boolean) ∈ am_T := am_wb_of (j := 552) (by decide +kernel)
theorem jo_cen : am_mo am_T jM_cen := ⟨jw_10, jw_8, ⟨by decide, by decide⟩, by decide +kernel, Nat.le_of_ble_eq_true rfl⟩
theorem jw_11 : Cond.code (⟨"java/lang/StringLatin1", "indexOfChar", "([BIII)I"⟩ : MethodName) prog_15_method_23_code 6 (some .int) ∈ am_T := am_wb_of (j := 561) (by decide +kernel)
theorem jo_ioc : am_mo am_T jM_ioc := ⟨jw_11, jw_8, ⟨by decide, by decide⟩, by decide +kernel, Nat.le_of_ble_eq_true rfl⟩
theorem jw_12 : Cond.code (⟨"java/lang/StringLatin1", "indexOf", "([BIII)I"⟩ : MethodName) prog_15_method_22_code 4 (some .int) ∈ am_T := am_wb_of (j := 549) (by decide +kernel)
theorem jo_lix : am_mo am_T jM_lix := ⟨jw_12, jw_8, ⟨by decide, by decide⟩, by decide +kernel, Nat.le_of_ble_eq_true rfl⟩
theorem jw_13 : Cond.code (⟨"java/lang/String", "indexOf", "(II)I"⟩ : MethodName) prog_14_method_80_code 3 (some .int) ∈ am_T := am_wb_of (j := 545) (by decide +kernel)
theorem jo_ix2 : am_mo am_T jM_ix2 := ⟨jw_13, jw_1, ⟨by decide, by decide⟩, by decide +kernel, Nat.le_of_ble_eq_true rfl⟩
theorem jw_14 : Cond.code (⟨"java/lang/String", "indexOf", "(I)I"⟩ : MethodName) prog_14_method_79_code 2 (some .int) ∈ am_T := am_wb_of (j := 541) (by decide +kernel)
theorem jo_ix1 : am_mo am_T jM_ix1 := ⟨jw_14, jw_1, ⟨by decide, by decide⟩, by decide +kernel, Nat.le_of_ble_eq_true rfl⟩
theorem jg_V {own : String} {ix : Nat} {m0 : am_M} (h1 : Cond.methodLink own ix m0.1 ∈ am_T) (h2 : Cond.instanceMethod m0.1 ∈ am_T) (h3 : Cond.selects m0.1.cls m0.1 m0.1 ∈ am_T) (hm : am_mo am_T m0) : GoodIn am_T (wsV own ix m0.1.cls m0.1 (.code m0.1 m0.2.1 m0.2.2.1 m0.2.2.2.1 :: am_T)) := by
  intro w hw
  rcases List.mem_append.mp hw with hw | hw
  · simp only [List.mem_cons, List.not_mem_nil, or_false] at hw
    rcases hw with rfl | rfl | rfl | rfl
    · exact ⟨h1, am_Tg _ h1⟩
    · exact ⟨h2, am_Tg _ h2⟩
    · exact ⟨h3, am_Tg _ h3⟩
    · exact ⟨hm.2.1, am_Tg _ hm.2.1⟩
  · exact am_good am_Tg hm w hw
theorem jg_S {own : String} {ix : Nat} {m0 : am_M} (h1 : Cond.methodLink own ix m0.1 ∈ am_T) (h2 : Cond.static m0.1 ∈ am_T) (hm : am_mo am_T m0) : GoodIn am_T (va_wsS own ix m0.1 (.code m0.1 m0.2.1 m0.2.2.1 m0.2.2.2.1 :: am_T)) := by
  intro w hw
  rcases List.mem_append.mp hw with hw | hw
  · simp only [List.mem_cons, List.not_mem_nil, or_false] at hw
    rcases hw with rfl | rfl | rfl
    · exact ⟨h1, am_Tg _ h1⟩
    · exact ⟨h2, am_Tg _ h2⟩
    · exact ⟨hm.2.1, am_Tg _ hm.2.1⟩
  · exact am_good am_Tg hm w hw
theorem jw_15 : Cond.methodLink "java/lang/String" 335 (⟨"java/lang/String", "coder", "()B"⟩ : MethodName) ∈ am_T := am_wb_of (j := 482) (by decide +kernel)
theorem jw_16 : Cond.instanceMethod (⟨"java/lang/String", "coder", "()B"⟩ : MethodName) ∈ am_T := am_wb_of (j := 483) (by decide +kernel)
theorem jw_17 : Cond.selects "java/lang/String" (⟨"java/lang/String", "coder", "()B"⟩ : MethodName) (⟨"java/lang/String", "coder", "()B"⟩ : MethodName) ∈ am_T := am_wb_of (j := 484) (by decide +kernel)
theorem jg_S_335 : GoodIn am_T (wsV "java/lang/String" 335 jM_cod.1.cls jM_cod.1 (.code jM_cod.1 jM_cod.2.1 jM_cod.2.2.1 jM_cod.2.2.2.1 :: am_T)) := jg_V jw_15 jw_16 jw_17 jo_cod
theorem jw_18 : Cond.methodLink "java/lang/String" 492 (⟨"java/lang/String", "isLatin1", "()Z"⟩ : MethodName) ∈ am_T := am_wb_of (j := 495) (by decide +kernel)
theorem jw_19 : Cond.instanceMethod (⟨"java/lang/String", "isLatin1", "()Z"⟩ : MethodName) ∈ am_T := am_wb_of (j := 496) (by decide +kernel)
theorem jw_20 : Cond.selects "java/lang/String" (⟨"java/lang/String", "isLatin1", "()Z"⟩ : MethodName) (⟨"java/lang/String", "isLatin1", "()Z"⟩ : MethodName) ∈ am_T := am_wb_of (j := 497) (by decide +kernel)
theorem jg_S_492 : GoodIn am_T (wsV "java/lang/String" 492 jM_lat.1.cls jM_lat.1 (.code jM_lat.1 jM_lat.2.1 jM_lat.2.2.1 jM_lat.2.2.2.1 :: am_T)) := jg_V jw_18 jw_19 jw_20 jo_lat
theorem jw_21 : Cond.methodLink "java/lang/String" 505 (⟨"java/lang/String", "length", "()I"⟩ : MethodName) ∈ am_T := am_wb_of (j := 546) (by decide +kernel)
theorem jw_22 : Cond.instanceMethod (⟨"java/lang/String", "length", "()I"⟩ : MethodName) ∈ am_T := am_wb_of (j := 479) (by decide +kernel)
theorem jw_23 : Cond.selects "java/lang/String" (⟨"java/lang/String", "length", "()I"⟩ : MethodName) (⟨"java/lang/String", "length", "()I"⟩ : MethodName) ∈ am_T := am_wb_of (j := 480) (by decide +kernel)
theorem jg_S_505 : GoodIn am_T (wsV "java/lang/String" 505 jM_len.1.cls jM_len.1 (.code jM_len.1 jM_len.2.1 jM_len.2.2.1 jM_len.2.2.2.1 :: am_T)) := jg_V jw_21 jw_22 jw_23 jo_len
theorem jw_24 : Cond.methodLink "java/lang/String" 633 (⟨"java/lang/String", "indexOf", "(II)I"⟩ : MethodName) ∈ am_T := am_wb_of (j := 542) (by decide +kernel)
theorem jw_25 : Cond.instanceMethod (⟨"java/lang/String", "indexOf", "(II)I"⟩ : MethodName) ∈ am_T := am_wb_of (j := 543) (by decide +kernel)
theorem jw_26 : Cond.selects "java/lang/String" (⟨"java/lang/String", "indexOf", "(II)I"⟩ : MethodName) (⟨"java/lang/String", "indexOf", "(II)I"⟩ : MethodName) ∈ am_T := am_wb_of (j := 544) (by decide +kernel)
theorem jg_S_633 : GoodIn am_T (wsV "java/lang/String" 633 jM_ix2.1.cls jM_ix2.1 (.code jM_ix2.1 jM_ix2.2.1 jM_ix2.2.2.1 jM_ix2.2.2.2.1 :: am_T)) := jg_V jw_24 jw_25 jw_26 jo_ix2
theorem jw_27 : Cond.methodLink "KneeStair$Tokens" 63 (⟨"java/lang/String", "length", "()I"⟩ : MethodName) ∈ am_T := am_wb_of (j := 478) (by decide +kernel)
theorem jg_T_63 : GoodIn am_T (wsV "KneeStair$Tokens" 63 jM_len.1.cls jM_len.1 (.code jM_len.1 jM_len.2.1 jM_len.2.2.1 jM_len.2.2.2.1 :: am_T)) := jg_V jw_27 jw_22 jw_23 jo_len
theorem jw_28 : Cond.methodLink "KneeStair$Tokens" 71 (⟨"java/lang/String", "charAt", "(I)C"⟩ : MethodName) ∈ am_T := am_wb_of (j := 491) (by decide +kernel)
theorem jw_29 : Cond.instanceMethod (⟨"java/lang/String", "charAt", "(I)C"⟩ : MethodName) ∈ am_T := am_wb_of (j := 492) (by decide +kernel)
theorem jw_30 : Cond.selects "java/lang/String" (⟨"java/lang/String", "charAt", "(I)C"⟩ : MethodName) (⟨"java/lang/String", "charAt", "(I)C"⟩ : MethodName) ∈ am_T := am_wb_of (j := 493) (by decide +kernel)
theorem jg_T_71 : GoodIn am_T (wsV "KneeStair$Tokens" 71 jM_cha.1.cls jM_cha.1 (.code jM_cha.1 jM_cha.2.1 jM_cha.2.2.1 jM_cha.2.2.2.1 :: am_T)) := jg_V jw_28 jw_29 jw_30 jo_cha
theorem jw_31 : Cond.methodLink "KneeStair$Tokens" 48 (⟨"java/lang/String", "indexOf", "(I)I"⟩ : MethodName) ∈ am_T := am_wb_of (j := 538) (by decide +kernel)
theorem jw_32 : Cond.instanceMethod (⟨"java/lang/String", "indexOf", "(I)I"⟩ : MethodName) ∈ am_T := am_wb_of (j := 539) (by decide +kernel)
theorem jw_33 : Cond.selects "java/lang/String" (⟨"java/lang/String", "indexOf", "(I)I"⟩ : MethodName) (⟨"java/lang/String", "indexOf", "(I)I"⟩ : MethodName) ∈ am_T := am_wb_of (j := 540) (by decide +kernel)
theorem jg_T_48 : GoodIn am_T (wsV "KneeStair$Tokens" 48 jM_ix1.1.cls jM_ix1.1 (.code jM_ix1.1 jM_ix1.2.1 jM_ix1.2.2.1 jM_ix1.2.2.2.1 :: am_T)) := jg_V jw_31 jw_32 jw_33 jo_ix1
theorem jw_34 : Cond.methodLink "java/lang/String" 495 (⟨"java/lang/StringLatin1", "charAt", "([BI)C"⟩ : MethodName) ∈ am_T := am_wb_of (j := 499) (by decide +kernel)
theorem jw_35 : Cond.static (⟨"java/lang/StringLatin1", "charAt", "([BI)C"⟩ : MethodName) ∈ am_T := am_wb_of (j := 500) (by decide +kernel)
theorem jg_S_495 : GoodIn am_T (va_wsS "java/lang/String" 495 jM_lch.1 (.code jM_lch.1 jM_lch.2.1 jM_lch.2.2.1 jM_lch.2.2.2.1 :: am_T)) := jg_S jw_34 jw_35 jo_lch
theorem jw_36 : Cond.methodLink "java/lang/String" 637 (⟨"java/lang/StringLatin1", "indexOf", "([BIII)I"⟩ : MethodName) ∈ am_T := am_wb_of (j := 547) (by decide +kernel)
theorem jw_37 : Cond.static (⟨"java/lang/StringLatin1", "indexOf", "([BIII)I"⟩ : MethodName) ∈ am_T := am_wb_of (j := 548) (by decide +kernel)
theorem jg_S_637 : GoodIn am_T (va_wsS "java/lang/String" 637 jM_lix.1 (.code jM_lix.1 jM_lix.2.1 jM_lix.2.2.1 jM_lix.2.2.2.1 :: am_T)) := jg_S jw_36 jw_37 jo_lix
theorem jw_38 : Cond.methodLink "java/lang/String" 1059 (⟨"jdk/internal/util/Preconditions", "checkIndex", "(IILjava/util/function/BiFunction;)I"⟩ : MethodName) ∈ am_T := am_wb_of (j := 507) (by decide +kernel)
theorem jw_39 : Cond.static (⟨"jdk/internal/util/Preconditions", "checkIndex", "(IILjava/util/function/BiFunction;)I"⟩ : MethodName) ∈ am_T := am_wb_of (j := 508) (by decide +kernel)
theorem jg_S_1059 : GoodIn am_T (va_wsS "java/lang/String" 1059 jM_pci.1 (.code jM_pci.1 jM_pci.2.1 jM_pci.2.2.1 jM_pci.2.2.2.1 :: am_T)) := jg_S jw_38 jw_39 jo_pci
theorem jw_40 : Cond.methodLink "java/lang/StringLatin1" 9 (⟨"java/lang/String", "checkIndex", "(II)V"⟩ : MethodName) ∈ am_T := am_wb_of (j := 502) (by decide +kernel)
theorem jw_41 : Cond.static (⟨"java/lang/String", "checkIndex", "(II)V"⟩ : MethodName) ∈ am_T := am_wb_of (j := 503) (by decide +kernel)
theorem jg_L_9 : GoodIn am_T (va_wsS "java/lang/StringLatin1" 9 jM_sci.1 (.code jM_sci.1 jM_sci.2.1 jM_sci.2.2.1 jM_sci.2.2.2.1 :: am_T)) := jg_S jw_40 jw_41 jo_sci
theorem jw_42 : Cond.methodLink "java/lang/StringLatin1" 88 (⟨"java/lang/StringLatin1", "canEncode", "(I)Z"⟩ : MethodName) ∈ am_T := am_wb_of (j := 550) (by decide +kernel)
theorem jw_43 : Cond.static (⟨"java/lang/StringLatin1", "canEncode", "(I)Z"⟩ : MethodName) ∈ am_T := am_wb_of (j := 551) (by decide +kernel)
theorem jg_L_88 : GoodIn am_T (va_wsS "java/lang/StringLatin1" 88 jM_cen.1 (.code jM_cen.1 jM_cen.2.1 jM_cen.2.2.1 jM_cen.2.2.2.1 :: am_T)) := jg_S jw_42 jw_43 jo_cen
theorem jw_44 : Cond.methodLink "java/lang/StringLatin1" 95 (⟨"java/lang/StringLatin1", "indexOfChar", "([BIII)I"⟩ : MethodName) ∈ am_T := am_wb_of (j := 559) (by decide +kernel)
theorem jw_45 : Cond.static (⟨"java/lang/StringLatin1", "indexOfChar", "([BIII)I"⟩ : MethodName) ∈ am_T := am_wb_of (j := 560) (by decide +kernel)
theorem jg_L_95 : GoodIn am_T (va_wsS "java/lang/StringLatin1" 95 jM_ioc.1 (.code jM_ioc.1 jM_ioc.2.1 jM_ioc.2.2.1 jM_ioc.2.2.2.1 :: am_T)) := jg_S jw_44 jw_45 jo_ioc
theorem jw_46 : Cond.fieldLink "java/lang/String" 38 "java/lang/String" "COMPACT_STRINGS" "Z" ∈ am_T := am_wb_of (j := 486) (by decide +kernel)
theorem jf38 : Cond.fieldLink "java/lang/String" 38 "java/lang/String" "COMPACT_STRINGS" "Z" ∈ am_T := jw_46
theorem jw_47 : Cond.fieldLink "java/lang/String" 15 "java/lang/String" "coder" "B" ∈ am_T := am_wb_of (j := 1577) (by decide +kernel)
theorem jf15 : Cond.fieldLink "java/lang/String" 15 "java/lang/String" "coder" "B" ∈ am_T := jw_47
theorem jw_48 : Cond.fieldLink "java/lang/String" 9 "java/lang/String" "value" "[B" ∈ am_T := am_wb_of (j := 1576) (by decide +kernel)
theorem jf9 : Cond.fieldLink "java/lang/String" 9 "java/lang/String" "value" "[B" ∈ am_T := jw_48
theorem jw_49 : Cond.fieldLink "java/lang/String" 1053 "jdk/internal/util/Preconditions" "SIOOBE_FORMATTER" "Ljava/util/function/BiFunction;" ∈ am_T := am_wb_of (j := 505) (by decide +kernel)
theorem jf1053 : Cond.fieldLink "java/lang/String" 1053 "jdk/internal/util/Preconditions" "SIOOBE_FORMATTER" "Ljava/util/function/BiFunction;" ∈ am_T := jw_49
theorem jl_max : Cond.methodLink "java/lang/StringLatin1" 92 Lib.Math.max.name ∈ am_T := am_wb_of (j := 553) (by decide +kernel)
theorem js_max : Cond.static Lib.Math.max.name ∈ am_T := am_wb_of (j := 554) (by decide +kernel)
theorem jc_max : Cond.code Lib.Math.max.name Lib.Math.max.code 2 (some .int) ∈ am_T := am_wb_of (j := 555) (by decide +kernel)
theorem jl_min : Cond.methodLink "java/lang/StringLatin1" 38 Lib.Math.min.name ∈ am_T := am_wb_of (j := 556) (by decide +kernel)
theorem js_min : Cond.static Lib.Math.min.name ∈ am_T := am_wb_of (j := 557) (by decide +kernel)
theorem jc_min : Cond.code Lib.Math.min.name Lib.Math.min.code 2 (some .int) ∈ am_T := am_wb_of (j := 558) (by decide +kernel)
theorem jinM : Cond.initialized "java/lang/Math" ∈ am_T := am_wb_of (j := 95) (by decide +kernel)
theorem jd_cod_0 : decode prog_14_method_152_code 0 = .ok (.getstatic 38, 3) := by decide +kernel
theorem jd_cod_3 : decode prog_14_method_152_code 3 = .ok (.ifCond .eq 10, 3) := by decide +kernel
theorem jd_cod_6 : decode prog_14_method_152_code 6 = .ok (.aload_n 0, 1) := by decide +kernel
theorem jd_cod_7 : decode prog_14_method_152_code 7 = .ok (.getfield 15, 3) := by decide +kernel
theorem jd_cod_10 : decode prog_14_method_152_code 10 = .ok (.goto 4, 3) := by decide +kernel
theorem jd_cod_13 : decode prog_14_method_152_code 13 = .ok (.iconst 1, 1) := by decide +kernel
theorem jd_cod_14 : decode prog_14_method_152_code 14 = .ok (.ireturn, 1) := by decide +kernel
theorem jd_lat_0 : decode prog_14_method_154_code 0 = .ok (.getstatic 38, 3) := by decide +kernel
theorem jd_lat_3 : decode prog_14_method_154_code 3 = .ok (.ifCond .eq 14, 3) := by decide +kernel
theorem jd_lat_6 : decode prog_14_method_154_code 6 = .ok (.aload_n 0, 1) := by decide +kernel
theorem jd_lat_7 : decode prog_14_method_154_code 7 = .ok (.getfield 15, 3) := by decide +kernel
theorem jd_lat_10 : decode prog_14_method_154_code 10 = .ok (.ifCond .ne 7, 3) := by decide +kernel
theorem jd_lat_13 : decode prog_14_method_154_code 13 = .ok (.iconst 1, 1) := by decide +kernel
theorem jd_lat_14 : decode prog_14_method_154_code 14 = .ok (.goto 4, 3) := by decide +kernel
theorem jd_lat_17 : decode prog_14_method_154_code 17 = .ok (.iconst 0, 1) := by decide +kernel
theorem jd_lat_18 : decode prog_14_method_154_code 18 = .ok (.ireturn, 1) := by decide +kernel
theorem jd_len_0 : decode prog_14_method_54_code 0 = .ok (.aload_n 0, 1) := by decide +kernel
theorem jd_len_1 : decode prog_14_method_54_code 1 = .ok (.getfield 9, 3) := by decide +kernel
theorem jd_len_4 : decode prog_14_method_54_code 4 = .ok (.arraylength, 1) := by decide +kernel
theorem jd_len_5 : decode prog_14_method_54_code 5 = .ok (.aload_n 0, 1) := by decide +kernel
theorem jd_len_6 : decode prog_14_method_54_code 6 = .ok (.invokevirtual 335, 3) := by decide +kernel
theorem jd_len_9 : decode prog_14_method_54_code 9 = .ok (.ishr, 1) := by decide +kernel
theorem jd_len_10 : decode prog_14_method_54_code 10 = .ok (.ireturn, 1) := by decide +kernel
theorem jd_pci_0 : decode prog_18_method_11_code 0 = .ok (.iload_n 0, 1) := by decide +kernel
theorem jd_pci_1 : decode prog_18_method_11_code 1 = .ok (.ifCond .lt 8, 3) := by decide +kernel
theorem jd_pci_4 : decode prog_18_method_11_code 4 = .ok (.iload_n 0, 1) := by decide +kernel
theorem jd_pci_5 : decode prog_18_method_11_code 5 = .ok (.iload_n 1, 1) := by decide +kernel
theorem jd_pci_6 : decode prog_18_method_11_code 6 = .ok (.if_icmp .lt 10, 3) := by decide +kernel
theorem jd_pci_9 : decode prog_18_method_11_code 9 = .ok (.aload_n 2, 1) := by decide +kernel
theorem jd_pci_10 : decode prog_18_method_11_code 10 = .ok (.iload_n 0, 1) := by decide +kernel
theorem jd_pci_11 : decode prog_18_method_11_code 11 = .ok (.iload_n 1, 1) := by decide +kernel
theorem jd_pci_12 : decode prog_18_method_11_code 12 = .ok (.invokestatic 95, 3) := by decide +kernel
theorem jd_pci_16 : decode prog_18_method_11_code 16 = .ok (.iload_n 0, 1) := by decide +kernel
theorem jd_pci_17 : decode prog_18_method_11_code 17 = .ok (.ireturn, 1) := by decide +kernel
theorem jd_sci_0 : decode prog_14_method_155_code 0 = .ok (.iload_n 0, 1) := by decide +kernel
theorem jd_sci_1 : decode prog_14_method_155_code 1 = .ok (.iload_n 1, 1) := by decide +kernel
theorem jd_sci_2 : decode prog_14_method_155_code 2 = .ok (.getstatic 1053, 3) := by decide +kernel
theorem jd_sci_5 : decode prog_14_method_155_code 5 = .ok (.invokestatic 1059, 3) := by decide +kernel
theorem jd_sci_8 : decode prog_14_method_155_code 8 = .ok (.pop, 1) := by decide +kernel
theorem jd_sci_9 : decode prog_14_method_155_code 9 = .ok (.return_, 1) := by decide +kernel
theorem jd_lch_0 : decode prog_15_method_2_code 0 = .ok (.iload_n 1, 1) := by decide +kernel
theorem jd_lch_1 : decode prog_15_method_2_code 1 = .ok (.aload_n 0, 1) := by decide +kernel
theorem jd_lch_2 : decode prog_15_method_2_code 2 = .ok (.arraylength, 1) := by decide +kernel
theorem jd_lch_3 : decode prog_15_method_2_code 3 = .ok (.invokestatic 9, 3) := by decide +kernel
theorem jd_lch_6 : decode prog_15_method_2_code 6 = .ok (.aload_n 0, 1) := by decide +kernel
theorem jd_lch_7 : decode prog_15_method_2_code 7 = .ok (.iload_n 1, 1) := by decide +kernel
theorem jd_lch_8 : decode prog_15_method_2_code 8 = .ok (.baload, 1) := by decide +kernel
theorem jd_lch_9 : decode prog_15_method_2_code 9 = .ok (.sipush 255, 3) := by decide +kernel
theorem jd_lch_12 : decode prog_15_method_2_code 12 = .ok (.iand, 1) := by decide +kernel
theorem jd_lch_13 : decode prog_15_method_2_code 13 = .ok (.i2c, 1) := by decide +kernel
theorem jd_lch_14 : decode prog_15_method_2_code 14 = .ok (.ireturn, 1) := by decide +kernel
theorem jd_cha_0 : decode prog_14_method_56_code 0 = .ok (.aload_n 0, 1) := by decide +kernel
theorem jd_cha_1 : decode prog_14_method_56_code 1 = .ok (.invokevirtual 492, 3) := by decide +kernel
theorem jd_cha_4 : decode prog_14_method_56_code 4 = .ok (.ifCond .eq 12, 3) := by decide +kernel
theorem jd_cha_7 : decode prog_14_method_56_code 7 = .ok (.aload_n 0, 1) := by decide +kernel
theorem jd_cha_8 : decode prog_14_method_56_code 8 = .ok (.getfield 9, 3) := by decide +kernel
theorem jd_cha_11 : decode prog_14_method_56_code 11 = .ok (.iload_n 1, 1) := by decide +kernel
theorem jd_cha_12 : decode prog_14_method_56_code 12 = .ok (.invokestatic 495, 3) := by decide +kernel
theorem jd_cha_15 : decode prog_14_method_56_code 15 = .ok (.ireturn, 1) := by decide +kernel
theorem jd_cha_16 : decode prog_14_method_56_code 16 = .ok (.aload_n 0, 1) := by decide +kernel
theorem jd_cha_17 : decode prog_14_method_56_code 17 = .ok (.getfield 9, 3) := by decide +kernel
theorem jd_cha_20 : decode prog_14_method_56_code 20 = .ok (.iload_n 1, 1) := by decide +kernel
theorem jd_cha_21 : decode prog_14_method_56_code 21 = .ok (.invokestatic 498, 3) := by decide +kernel
theorem jd_cha_24 : decode prog_14_method_56_code 24 = .ok (.ireturn, 1) := by decide +kernel
theorem jd_cen_0 : decode prog_15_method_4_code 0 = .ok (.iload_n 0, 1) := by decide +kernel
theorem jd_cen_1 : decode prog_15_method_4_code 1 = .ok (.ifCond .lt 14, 3) := by decide +kernel
theorem jd_cen_4 : decode prog_15_method_4_code 4 = .ok (.iload_n 0, 1) := by decide +kernel
theorem jd_cen_5 : decode prog_15_method_4_code 5 = .ok (.sipush 255, 3) := by decide +kernel
theorem jd_cen_8 : decode prog_15_method_4_code 8 = .ok (.if_icmp .gt 7, 3) := by decide +kernel
theorem jd_cen_11 : decode prog_15_method_4_code 11 = .ok (.iconst 1, 1) := by decide +kernel
theorem jd_cen_12 : decode prog_15_method_4_code 12 = .ok (.goto 4, 3) := by decide +kernel
theorem jd_cen_15 : decode prog_15_method_4_code 15 = .ok (.iconst 0, 1) := by decide +kernel
theorem jd_cen_16 : decode prog_15_method_4_code 16 = .ok (.ireturn, 1) := by decide +kernel
theorem jd_ioc_0 : decode prog_15_method_23_code 0 = .ok (.iload_n 1, 1) := by decide +kernel
theorem jd_ioc_1 : decode prog_15_method_23_code 1 = .ok (.i2b, 1) := by decide +kernel
theorem jd_ioc_2 : decode prog_15_method_23_code 2 = .ok (.istore 4, 2) := by decide +kernel
theorem jd_ioc_4 : decode prog_15_method_23_code 4 = .ok (.iload_n 2, 1) := by decide +kernel
theorem jd_ioc_5 : decode prog_15_method_23_code 5 = .ok (.istore 5, 2) := by decide +kernel
theorem jd_ioc_7 : decode prog_15_method_23_code 7 = .ok (.iload 5, 2) := by decide +kernel
theorem jd_ioc_9 : decode prog_15_method_23_code 9 = .ok (.iload_n 3, 1) := by decide +kernel
theorem jd_ioc_10 : decode prog_15_method_23_code 10 = .ok (.if_icmp .ge 21, 3) := by decide +kernel
theorem jd_ioc_13 : decode prog_15_method_23_code 13 = .ok (.aload_n 0, 1) := by decide +kernel
theorem jd_ioc_14 : decode prog_15_method_23_code 14 = .ok (.iload 5, 2) := by decide +kernel
theorem jd_ioc_16 : decode prog_15_method_23_code 16 = .ok (.baload, 1) := by decide +kernel
theorem jd_ioc_17 : decode prog_15_method_23_code 17 = .ok (.iload 4, 2) := by decide +kernel
theorem jd_ioc_19 : decode prog_15_method_23_code 19 = .ok (.if_icmp .ne 6, 3) := by decide +kernel
theorem jd_ioc_22 : decode prog_15_method_23_code 22 = .ok (.iload 5, 2) := by decide +kernel
theorem jd_ioc_24 : decode prog_15_method_23_code 24 = .ok (.ireturn, 1) := by decide +kernel
theorem jd_ioc_25 : decode prog_15_method_23_code 25 = .ok (.iinc 5 1, 3) := by decide +kernel
theorem jd_ioc_28 : decode prog_15_method_23_code 28 = .ok (.goto (-21), 3) := by decide +kernel
theorem jd_ioc_31 : decode prog_15_method_23_code 31 = .ok (.iconst (-1), 1) := by decide +kernel
theorem jd_ioc_32 : decode prog_15_method_23_code 32 = .ok (.ireturn, 1) := by decide +kernel
theorem jd_lix_0 : decode prog_15_method_22_code 0 = .ok (.iload_n 1, 1) := by decide +kernel
theorem jd_lix_1 : decode prog_15_method_22_code 1 = .ok (.invokestatic 88, 3) := by decide +kernel
theorem jd_lix_4 : decode prog_15_method_22_code 4 = .ok (.ifCond .ne 5, 3) := by decide +kernel
theorem jd_lix_7 : decode prog_15_method_22_code 7 = .ok (.iconst (-1), 1) := by decide +kernel
theorem jd_lix_8 : decode prog_15_method_22_code 8 = .ok (.ireturn, 1) := by decide +kernel
theorem jd_lix_9 : decode prog_15_method_22_code 9 = .ok (.iload_n 2, 1) := by decide +kernel
theorem jd_lix_10 : decode prog_15_method_22_code 10 = .ok (.iconst 0, 1) := by decide +kernel
theorem jd_lix_11 : decode prog_15_method_22_code 11 = .ok (.invokestatic 92, 3) := by decide +kernel
theorem jd_lix_14 : decode prog_15_method_22_code 14 = .ok (.istore_n 2, 1) := by decide +kernel
theorem jd_lix_15 : decode prog_15_method_22_code 15 = .ok (.iload_n 3, 1) := by decide +kernel
theorem jd_lix_16 : decode prog_15_method_22_code 16 = .ok (.aload_n 0, 1) := by decide +kernel
theorem jd_lix_17 : decode prog_15_method_22_code 17 = .ok (.arraylength, 1) := by decide +kernel
theorem jd_lix_18 : decode prog_15_method_22_code 18 = .ok (.invokestatic 38, 3) := by decide +kernel
theorem jd_lix_21 : decode prog_15_method_22_code 21 = .ok (.istore_n 3, 1) := by decide +kernel
theorem jd_lix_22 : decode prog_15_method_22_code 22 = .ok (.iload_n 2, 1) := by decide +kernel
theorem jd_lix_23 : decode prog_15_method_22_code 23 = .ok (.iload_n 3, 1) := by decide +kernel
theorem jd_lix_24 : decode prog_15_method_22_code 24 = .ok (.if_icmp .lt 5, 3) := by decide +kernel
theorem jd_lix_27 : decode prog_15_method_22_code 27 = .ok (.iconst (-1), 1) := by decide +kernel
theorem jd_lix_28 : decode prog_15_method_22_code 28 = .ok (.ireturn, 1) := by decide +kernel
theorem jd_lix_29 : decode prog_15_method_22_code 29 = .ok (.aload_n 0, 1) := by decide +kernel
theorem jd_lix_30 : decode prog_15_method_22_code 30 = .ok (.iload_n 1, 1) := by decide +kernel
theorem jd_lix_31 : decode prog_15_method_22_code 31 = .ok (.iload_n 2, 1) := by decide +kernel
theorem jd_lix_32 : decode prog_15_method_22_code 32 = .ok (.iload_n 3, 1) := by decide +kernel
theorem jd_lix_33 : decode prog_15_method_22_code 33 = .ok (.invokestatic 95, 3) := by decide +kernel
theorem jd_lix_36 : decode prog_15_method_22_code 36 = .ok (.ireturn, 1) := by decide +kernel
theorem jd_ix2_0 : decode prog_14_method_80_code 0 = .ok (.aload_n 0, 1) := by decide +kernel
theorem jd_ix2_1 : decode prog_14_method_80_code 1 = .ok (.invokevirtual 492, 3) := by decide +kernel
theorem jd_ix2_4 : decode prog_14_method_80_code 4 = .ok (.ifCond .eq 19, 3) := by decide +kernel
theorem jd_ix2_7 : decode prog_14_method_80_code 7 = .ok (.aload_n 0, 1) := by decide +kernel
theorem jd_ix2_8 : decode prog_14_method_80_code 8 = .ok (.getfield 9, 3) := by decide +kernel
theorem jd_ix2_11 : decode prog_14_method_80_code 11 = .ok (.iload_n 1, 1) := by decide +kernel
theorem jd_ix2_12 : decode prog_14_method_80_code 12 = .ok (.iload_n 2, 1) := by decide +kernel
theorem jd_ix2_13 : decode prog_14_method_80_code 13 = .ok (.aload_n 0, 1) := by decide +kernel
theorem jd_ix2_14 : decode prog_14_method_80_code 14 = .ok (.invokevirtual 505, 3) := by decide +kernel
theorem jd_ix2_17 : decode prog_14_method_80_code 17 = .ok (.invokestatic 637, 3) := by decide +kernel
theorem jd_ix2_20 : decode prog_14_method_80_code 20 = .ok (.goto 16, 3) := by decide +kernel
theorem jd_ix2_23 : decode prog_14_method_80_code 23 = .ok (.aload_n 0, 1) := by decide +kernel
theorem jd_ix2_24 : decode prog_14_method_80_code 24 = .ok (.getfield 9, 3) := by decide +kernel
theorem jd_ix2_27 : decode prog_14_method_80_code 27 = .ok (.iload_n 1, 1) := by decide +kernel
theorem jd_ix2_28 : decode prog_14_method_80_code 28 = .ok (.iload_n 2, 1) := by decide +kernel
theorem jd_ix2_29 : decode prog_14_method_80_code 29 = .ok (.aload_n 0, 1) := by decide +kernel
theorem jd_ix2_30 : decode prog_14_method_80_code 30 = .ok (.invokevirtual 505, 3) := by decide +kernel
theorem jd_ix2_33 : decode prog_14_method_80_code 33 = .ok (.invokestatic 640, 3) := by decide +kernel
theorem jd_ix2_36 : decode prog_14_method_80_code 36 = .ok (.ireturn, 1) := by decide +kernel
theorem jd_ix1_0 : decode prog_14_method_79_code 0 = .ok (.aload_n 0, 1) := by decide +kernel
theorem jd_ix1_1 : decode prog_14_method_79_code 1 = .ok (.iload_n 1, 1) := by decide +kernel
theorem jd_ix1_2 : decode prog_14_method_79_code 2 = .ok (.iconst 0, 1) := by decide +kernel
theorem jd_ix1_3 : decode prog_14_method_79_code 3 = .ok (.invokevirtual 633, 3) := by decide +kernel
theorem jd_ix1_6 : decode prog_14_method_79_code 6 = .ok (.ireturn, 1) := by decide +kernel

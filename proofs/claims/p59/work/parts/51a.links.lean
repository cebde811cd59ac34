/-! LINKS of the methods that answer references, of the builders of texts -/
section JLINK2
abbrev mJ5_append_cf1ce : MI := (yJ5_append_cf1ce, cJ5_append_cf1ce, 3, (some (.object "java/lang/AbstractStringBuilder")), [])
theorem w4_32 : Cond.code yJ5_append_cf1ce cJ5_append_cf1ce 3 (some (.object "java/lang/AbstractStringBuilder")) ∈ AL := AL_in (T4 (List.mem_of_getElem? (i := 32) rfl)) rfl
theorem YJ5_append_cf1ce : YL mJ5_append_cf1ce 1 := ⟨rfl, w4_32, w1_24, ⟨by decide, by decide, by decide +kernel⟩, by decide⟩
abbrev mJ5_append_c97b9 : MI := (yJ5_append_c97b9, cJ5_append_c97b9, 4, (some (.object "java/lang/AbstractStringBuilder")), [])
theorem w4_148 : Cond.code yJ5_append_c97b9 cJ5_append_c97b9 4 (some (.object "java/lang/AbstractStringBuilder")) ∈ AL := AL_in (T4 (List.mem_of_getElem? (i := 148) rfl)) rfl
theorem YJ5_append_c97b9 : YL mJ5_append_c97b9 1 := ⟨rfl, w4_148, w1_24, ⟨by decide, by decide, by decide +kernel⟩, by decide⟩
abbrev mJ5_getValue_6d5f1 : MI := (yJ5_getValue_6d5f1, cJ5_getValue_6d5f1, 1, (some (.array .byte)), [])
theorem w4_185 : Cond.code yJ5_getValue_6d5f1 cJ5_getValue_6d5f1 1 (some (.array .byte)) ∈ AL := AL_in (T4 (List.mem_of_getElem? (i := 185) rfl)) rfl
theorem YJ5_getValue_6d5f1 : YL mJ5_getValue_6d5f1 0 := ⟨rfl, w4_185, w1_24, ⟨by decide, by decide, by decide +kernel⟩, by decide⟩
abbrev mJ4_append_15ec4 : MI := (yJ4_append_15ec4, cJ4_append_15ec4, 2, (some (.object "java/lang/StringBuilder")), [])
theorem w4_29 : Cond.code yJ4_append_15ec4 cJ4_append_15ec4 2 (some (.object "java/lang/StringBuilder")) ∈ AL := AL_in (T4 (List.mem_of_getElem? (i := 29) rfl)) rfl
theorem YJ4_append_15ec4 : YL mJ4_append_15ec4 1 := ⟨rfl, w4_29, w1_25, ⟨by decide, by decide, by decide +kernel⟩, by decide⟩
abbrev mJ4_append_bf812 : MI := (yJ4_append_bf812, cJ4_append_bf812, 2, (some (.object "java/lang/StringBuilder")), [])
theorem w4_145 : Cond.code yJ4_append_bf812 cJ4_append_bf812 2 (some (.object "java/lang/StringBuilder")) ∈ AL := AL_in (T4 (List.mem_of_getElem? (i := 145) rfl)) rfl
theorem YJ4_append_bf812 : YL mJ4_append_bf812 1 := ⟨rfl, w4_145, w1_25, ⟨by decide, by decide, by decide +kernel⟩, by decide⟩
abbrev mJ4_toString_0e30d : MI := (yJ4_toString_0e30d, cJ4_toString_0e30d, 1, (some (.object "java/lang/String")), [])
theorem w4_172 : Cond.code yJ4_toString_0e30d cJ4_toString_0e30d 1 (some (.object "java/lang/String")) ∈ AL := AL_in (T4 (List.mem_of_getElem? (i := 172) rfl)) rfl
theorem YJ4_toString_0e30d : YL mJ4_toString_0e30d 0 := ⟨rfl, w4_172, w1_25, ⟨by decide, by decide, by decide +kernel⟩, by decide⟩
abbrev mJ7_copyOf_9075b : MI := (yJ7_copyOf_9075b, cJ7_copyOf_9075b, 3, (some (.array .byte)), [])
theorem w4_58 : Cond.code yJ7_copyOf_9075b cJ7_copyOf_9075b 3 (some (.array .byte)) ∈ AL := AL_in (T4 (List.mem_of_getElem? (i := 58) rfl)) rfl
theorem YJ7_copyOf_9075b : YL mJ7_copyOf_9075b 2 := ⟨rfl, w4_58, w1_28, ⟨by decide, by decide, by decide +kernel⟩, by decide⟩
abbrev mJ7_copyOfRange_39247 : MI := (yJ7_copyOfRange_39247, cJ7_copyOfRange_39247, 3, (some (.array .byte)), [])
theorem w4_197 : Cond.code yJ7_copyOfRange_39247 cJ7_copyOfRange_39247 3 (some (.array .byte)) ∈ AL := AL_in (T4 (List.mem_of_getElem? (i := 197) rfl)) rfl
theorem YJ7_copyOfRange_39247 : YL mJ7_copyOfRange_39247 3 := ⟨rfl, w4_197, w1_28, ⟨by decide, by decide, by decide +kernel⟩, by decide⟩
abbrev mJ7_copyOfRangeByte_39247 : MI := (yJ7_copyOfRangeByte_39247, cJ7_copyOfRangeByte_39247, 5, (some (.array .byte)), [])
theorem w4_200 : Cond.code yJ7_copyOfRangeByte_39247 cJ7_copyOfRangeByte_39247 5 (some (.array .byte)) ∈ AL := AL_in (T4 (List.mem_of_getElem? (i := 200) rfl)) rfl
theorem YJ7_copyOfRangeByte_39247 : YL mJ7_copyOfRangeByte_39247 3 := ⟨rfl, w4_200, w1_28, ⟨by decide, by decide, by decide +kernel⟩, by decide⟩
theorem w4_26 : Cond.methodLink RL 260 yJ4_append_15ec4 ∈ AL := AL_in (T4 (List.mem_of_getElem? (i := 26) rfl)) rfl
theorem w4_27 : Cond.instanceMethod yJ4_append_15ec4 ∈ AL := AL_in (T4 (List.mem_of_getElem? (i := 27) rfl)) rfl
theorem w4_28 : Cond.selects RJ4 yJ4_append_15ec4 yJ4_append_15ec4 ∈ AL := AL_in (T4 (List.mem_of_getElem? (i := 28) rfl)) rfl
theorem kL_260 : Cond.methodLink RL 260 yJ4_append_15ec4 ∈ AL ∧ Cond.instanceMethod yJ4_append_15ec4 ∈ AL ∧ Cond.selects mJ4_append_15ec4.1.cls yJ4_append_15ec4 yJ4_append_15ec4 ∈ AL := ⟨w4_26, w4_27, w4_28⟩
theorem w4_30 : Cond.methodLink RJ4 29 yJ5_append_cf1ce ∈ AL := AL_in (T4 (List.mem_of_getElem? (i := 30) rfl)) rfl
theorem w4_31 : Cond.instanceMethod yJ5_append_cf1ce ∈ AL := AL_in (T4 (List.mem_of_getElem? (i := 31) rfl)) rfl
theorem w6_162 : Cond.sameMethod RJ5 RJ5 "append" "(Ljava/lang/String;)Ljava/lang/AbstractStringBuilder;" ∈ AL := AL_in (T6 (List.mem_of_getElem? (i := 162) rfl)) rfl
theorem sJ4_29 : Cond.methodLink RJ4 29 yJ5_append_cf1ce ∈ AL ∧ Cond.sameMethod yJ5_append_cf1ce.cls yJ5_append_cf1ce.cls yJ5_append_cf1ce.name yJ5_append_cf1ce.desc ∈ AL ∧ Cond.superclass RJ4 yJ5_append_cf1ce.cls ∈ AL ∧ Cond.instanceMethod yJ5_append_cf1ce ∈ AL := ⟨w4_30, w6_162, AL_in (T4 (List.mem_of_getElem? (i := 24) rfl)) rfl, w4_31⟩
theorem w4_39 : Cond.instanceMethod yJ5_ensureCapacityInternal_d00df ∈ AL := AL_in (T4 (List.mem_of_getElem? (i := 39) rfl)) rfl
theorem w6_164 : Cond.sameMethod RJ5 RJ5 "ensureCapacityInternal" "(I)V" ∈ AL := AL_in (T6 (List.mem_of_getElem? (i := 164) rfl)) rfl
theorem uJ5_100 : Cond.methodLink RJ5 100 yJ5_ensureCapacityInternal_d00df ∈ AL ∧ Cond.sameMethod yJ5_ensureCapacityInternal_d00df.cls mJ5_ensureCapacityInternal_d00df.1.cls yJ5_ensureCapacityInternal_d00df.name yJ5_ensureCapacityInternal_d00df.desc ∈ AL ∧ Cond.selects RJ4 yJ5_ensureCapacityInternal_d00df mJ5_ensureCapacityInternal_d00df.1 ∈ AL ∧ Cond.instanceMethod mJ5_ensureCapacityInternal_d00df.1 ∈ AL := ⟨w4_37, w6_164, AL_sub (List.mem_of_getElem? (i := 1) rfl), w4_39⟩
theorem w4_43 : Cond.instanceMethod yJ5_newCapacity_0f7a4 ∈ AL := AL_in (T4 (List.mem_of_getElem? (i := 43) rfl)) rfl
theorem w6_165 : Cond.sameMethod RJ5 RJ5 "newCapacity" "(I)I" ∈ AL := AL_in (T6 (List.mem_of_getElem? (i := 165) rfl)) rfl
theorem uJ5_104 : Cond.methodLink RJ5 104 yJ5_newCapacity_0f7a4 ∈ AL ∧ Cond.sameMethod yJ5_newCapacity_0f7a4.cls mJ5_newCapacity_0f7a4.1.cls yJ5_newCapacity_0f7a4.name yJ5_newCapacity_0f7a4.desc ∈ AL ∧ Cond.selects RJ4 yJ5_newCapacity_0f7a4 mJ5_newCapacity_0f7a4.1 ∈ AL ∧ Cond.instanceMethod mJ5_newCapacity_0f7a4.1 ∈ AL := ⟨w4_41, w6_165, AL_sub (List.mem_of_getElem? (i := 2) rfl), w4_43⟩
theorem w4_56 : Cond.methodLink RJ5 108 yJ7_copyOf_9075b ∈ AL := AL_in (T4 (List.mem_of_getElem? (i := 56) rfl)) rfl
theorem w4_57 : Cond.static yJ7_copyOf_9075b ∈ AL := AL_in (T4 (List.mem_of_getElem? (i := 57) rfl)) rfl
theorem kJ5_108 : Cond.methodLink RJ5 108 yJ7_copyOf_9075b ∈ AL ∧ Cond.static yJ7_copyOf_9075b ∈ AL := ⟨w4_56, w4_57⟩
theorem w4_69 : Cond.instanceMethod yJ5_isLatin1_aae02 ∈ AL := AL_in (T4 (List.mem_of_getElem? (i := 69) rfl)) rfl
theorem w4_70 : Cond.sameMethod RJ5 RJ5 "isLatin1" "()Z" ∈ AL := AL_in (T4 (List.mem_of_getElem? (i := 70) rfl)) rfl
theorem w4_71 : Cond.selects RJ4 yJ5_isLatin1_aae02 yJ5_isLatin1_aae02 ∈ AL := AL_in (T4 (List.mem_of_getElem? (i := 71) rfl)) rfl
theorem uJ5_83 : Cond.methodLink RJ5 83 yJ5_isLatin1_aae02 ∈ AL ∧ Cond.sameMethod yJ5_isLatin1_aae02.cls mJ5_isLatin1_aae02.1.cls yJ5_isLatin1_aae02.name yJ5_isLatin1_aae02.desc ∈ AL ∧ Cond.selects RJ4 yJ5_isLatin1_aae02 mJ5_isLatin1_aae02.1 ∈ AL ∧ Cond.instanceMethod mJ5_isLatin1_aae02.1 ∈ AL := ⟨w4_68, w4_70, w4_71, w4_69⟩
theorem w4_110 : Cond.instanceMethod yJ5_putStringAt_47b60 ∈ AL := AL_in (T4 (List.mem_of_getElem? (i := 110) rfl)) rfl
theorem w6_166 : Cond.sameMethod RJ5 RJ5 "putStringAt" "(ILjava/lang/String;)V" ∈ AL := AL_in (T6 (List.mem_of_getElem? (i := 166) rfl)) rfl
theorem uJ5_208 : Cond.methodLink RJ5 208 yJ5_putStringAt_47b60 ∈ AL ∧ Cond.sameMethod yJ5_putStringAt_47b60.cls mJ5_putStringAt_47b60.1.cls yJ5_putStringAt_47b60.name yJ5_putStringAt_47b60.desc ∈ AL ∧ Cond.selects RJ4 yJ5_putStringAt_47b60 mJ5_putStringAt_47b60.1 ∈ AL ∧ Cond.instanceMethod mJ5_putStringAt_47b60.1 ∈ AL := ⟨w4_108, w6_166, AL_sub (List.mem_of_getElem? (i := 3) rfl), w4_110⟩
theorem w4_114 : Cond.instanceMethod yJ5_inflateIfNeededFor_a7421 ∈ AL := AL_in (T4 (List.mem_of_getElem? (i := 114) rfl)) rfl
theorem w6_167 : Cond.sameMethod RJ5 RJ5 "inflateIfNeededFor" "(Ljava/lang/String;)V" ∈ AL := AL_in (T6 (List.mem_of_getElem? (i := 167) rfl)) rfl
theorem uJ5_397 : Cond.methodLink RJ5 397 yJ5_inflateIfNeededFor_a7421 ∈ AL ∧ Cond.sameMethod yJ5_inflateIfNeededFor_a7421.cls mJ5_inflateIfNeededFor_a7421.1.cls yJ5_inflateIfNeededFor_a7421.name yJ5_inflateIfNeededFor_a7421.desc ∈ AL ∧ Cond.selects RJ4 yJ5_inflateIfNeededFor_a7421 mJ5_inflateIfNeededFor_a7421.1 ∈ AL ∧ Cond.instanceMethod mJ5_inflateIfNeededFor_a7421.1 ∈ AL := ⟨w4_112, w6_167, AL_sub (List.mem_of_getElem? (i := 4) rfl), w4_114⟩
theorem w4_119 : Cond.instanceMethod yJ5_inflate_da8c8 ∈ AL := AL_in (T4 (List.mem_of_getElem? (i := 119) rfl)) rfl
theorem w6_168 : Cond.sameMethod RJ5 RJ5 "inflate" "()V" ∈ AL := AL_in (T6 (List.mem_of_getElem? (i := 168) rfl)) rfl
theorem uJ5_195 : Cond.methodLink RJ5 195 yJ5_inflate_da8c8 ∈ AL ∧ Cond.sameMethod yJ5_inflate_da8c8.cls mJ5_inflate_da8c8.1.cls yJ5_inflate_da8c8.name yJ5_inflate_da8c8.desc ∈ AL ∧ Cond.selects RJ4 yJ5_inflate_da8c8 mJ5_inflate_da8c8.1 ∈ AL ∧ Cond.instanceMethod mJ5_inflate_da8c8.1 ∈ AL := ⟨w4_117, w6_168, AL_sub (List.mem_of_getElem? (i := 5) rfl), w4_119⟩
theorem w4_142 : Cond.methodLink RL 264 yJ4_append_bf812 ∈ AL := AL_in (T4 (List.mem_of_getElem? (i := 142) rfl)) rfl
theorem w4_143 : Cond.instanceMethod yJ4_append_bf812 ∈ AL := AL_in (T4 (List.mem_of_getElem? (i := 143) rfl)) rfl
theorem w4_144 : Cond.selects RJ4 yJ4_append_bf812 yJ4_append_bf812 ∈ AL := AL_in (T4 (List.mem_of_getElem? (i := 144) rfl)) rfl
theorem kL_264 : Cond.methodLink RL 264 yJ4_append_bf812 ∈ AL ∧ Cond.instanceMethod yJ4_append_bf812 ∈ AL ∧ Cond.selects mJ4_append_bf812.1.cls yJ4_append_bf812 yJ4_append_bf812 ∈ AL := ⟨w4_142, w4_143, w4_144⟩
theorem w4_146 : Cond.methodLink RJ4 53 yJ5_append_c97b9 ∈ AL := AL_in (T4 (List.mem_of_getElem? (i := 146) rfl)) rfl
theorem w4_147 : Cond.instanceMethod yJ5_append_c97b9 ∈ AL := AL_in (T4 (List.mem_of_getElem? (i := 147) rfl)) rfl
theorem w6_169 : Cond.sameMethod RJ5 RJ5 "append" "(I)Ljava/lang/AbstractStringBuilder;" ∈ AL := AL_in (T6 (List.mem_of_getElem? (i := 169) rfl)) rfl
theorem sJ4_53 : Cond.methodLink RJ4 53 yJ5_append_c97b9 ∈ AL ∧ Cond.sameMethod yJ5_append_c97b9.cls yJ5_append_c97b9.cls yJ5_append_c97b9.name yJ5_append_c97b9.desc ∈ AL ∧ Cond.superclass RJ4 yJ5_append_c97b9.cls ∈ AL ∧ Cond.instanceMethod yJ5_append_c97b9 ∈ AL := ⟨w4_146, w6_169, AL_in (T4 (List.mem_of_getElem? (i := 24) rfl)) rfl, w4_147⟩
theorem w4_169 : Cond.methodLink RL 271 yJ4_toString_0e30d ∈ AL := AL_in (T4 (List.mem_of_getElem? (i := 169) rfl)) rfl
theorem w4_170 : Cond.instanceMethod yJ4_toString_0e30d ∈ AL := AL_in (T4 (List.mem_of_getElem? (i := 170) rfl)) rfl
theorem w4_171 : Cond.selects RJ4 yJ4_toString_0e30d yJ4_toString_0e30d ∈ AL := AL_in (T4 (List.mem_of_getElem? (i := 171) rfl)) rfl
theorem kL_271 : Cond.methodLink RL 271 yJ4_toString_0e30d ∈ AL ∧ Cond.instanceMethod yJ4_toString_0e30d ∈ AL ∧ Cond.selects mJ4_toString_0e30d.1.cls yJ4_toString_0e30d yJ4_toString_0e30d ∈ AL := ⟨w4_169, w4_170, w4_171⟩
theorem w4_181 : Cond.methodLink RJ0 552 yJ5_getValue_6d5f1 ∈ AL := AL_in (T4 (List.mem_of_getElem? (i := 181) rfl)) rfl
theorem w4_182 : Cond.instanceMethod yJ5_getValue_6d5f1 ∈ AL := AL_in (T4 (List.mem_of_getElem? (i := 182) rfl)) rfl
theorem w4_183 : Cond.sameMethod RJ5 RJ5 "getValue" "()[B" ∈ AL := AL_in (T4 (List.mem_of_getElem? (i := 183) rfl)) rfl
theorem w4_184 : Cond.selects RJ4 yJ5_getValue_6d5f1 yJ5_getValue_6d5f1 ∈ AL := AL_in (T4 (List.mem_of_getElem? (i := 184) rfl)) rfl
theorem uJ0_552 : Cond.methodLink RJ0 552 yJ5_getValue_6d5f1 ∈ AL ∧ Cond.sameMethod yJ5_getValue_6d5f1.cls mJ5_getValue_6d5f1.1.cls yJ5_getValue_6d5f1.name yJ5_getValue_6d5f1.desc ∈ AL ∧ Cond.selects RJ4 yJ5_getValue_6d5f1 mJ5_getValue_6d5f1.1 ∈ AL ∧ Cond.instanceMethod mJ5_getValue_6d5f1.1 ∈ AL := ⟨w4_181, w4_183, w4_184, w4_182⟩
theorem w4_187 : Cond.instanceMethod yJ5_length_8abf5 ∈ AL := AL_in (T4 (List.mem_of_getElem? (i := 187) rfl)) rfl
theorem w4_188 : Cond.sameMethod RJ5 RJ5 "length" "()I" ∈ AL := AL_in (T4 (List.mem_of_getElem? (i := 188) rfl)) rfl
theorem sJ4_343 : Cond.methodLink RJ4 343 yJ5_length_8abf5 ∈ AL ∧ Cond.sameMethod yJ5_length_8abf5.cls yJ5_length_8abf5.cls yJ5_length_8abf5.name yJ5_length_8abf5.desc ∈ AL ∧ Cond.superclass RJ4 yJ5_length_8abf5.cls ∈ AL ∧ Cond.instanceMethod yJ5_length_8abf5 ∈ AL := ⟨w4_192, w4_188, AL_in (T4 (List.mem_of_getElem? (i := 24) rfl)) rfl, w4_187⟩
theorem uJ0_1047 : Cond.methodLink RJ0 1047 yJ5_isLatin1_aae02 ∈ AL ∧ Cond.sameMethod yJ5_isLatin1_aae02.cls mJ5_isLatin1_aae02.1.cls yJ5_isLatin1_aae02.name yJ5_isLatin1_aae02.desc ∈ AL ∧ Cond.selects RJ4 yJ5_isLatin1_aae02 mJ5_isLatin1_aae02.1 ∈ AL ∧ Cond.instanceMethod mJ5_isLatin1_aae02.1 ∈ AL := ⟨w4_194, w4_70, w4_71, w4_69⟩
theorem w4_195 : Cond.methodLink RJ0 54 yJ7_copyOfRange_39247 ∈ AL := AL_in (T4 (List.mem_of_getElem? (i := 195) rfl)) rfl
theorem w4_196 : Cond.static yJ7_copyOfRange_39247 ∈ AL := AL_in (T4 (List.mem_of_getElem? (i := 196) rfl)) rfl
theorem kJ0_54 : Cond.methodLink RJ0 54 yJ7_copyOfRange_39247 ∈ AL ∧ Cond.static yJ7_copyOfRange_39247 ∈ AL := ⟨w4_195, w4_196⟩
theorem w4_198 : Cond.methodLink RJ7 339 yJ7_copyOfRangeByte_39247 ∈ AL := AL_in (T4 (List.mem_of_getElem? (i := 198) rfl)) rfl
theorem w4_199 : Cond.static yJ7_copyOfRangeByte_39247 ∈ AL := AL_in (T4 (List.mem_of_getElem? (i := 199) rfl)) rfl
theorem kJ7_339 : Cond.methodLink RJ7 339 yJ7_copyOfRangeByte_39247 ∈ AL ∧ Cond.static yJ7_copyOfRangeByte_39247 ∈ AL := ⟨w4_198, w4_199⟩
theorem w4_207 : Cond.methodLink RJ7 54 yJ4_append_bf812 ∈ AL := AL_in (T4 (List.mem_of_getElem? (i := 207) rfl)) rfl
theorem kJ7_54 : Cond.methodLink RJ7 54 yJ4_append_bf812 ∈ AL ∧ Cond.instanceMethod yJ4_append_bf812 ∈ AL ∧ Cond.selects mJ4_append_bf812.1.cls yJ4_append_bf812 yJ4_append_bf812 ∈ AL := ⟨w4_207, w4_143, w4_144⟩
theorem w4_209 : Cond.methodLink RJ7 50 yJ4_append_15ec4 ∈ AL := AL_in (T4 (List.mem_of_getElem? (i := 209) rfl)) rfl
theorem kJ7_50 : Cond.methodLink RJ7 50 yJ4_append_15ec4 ∈ AL ∧ Cond.instanceMethod yJ4_append_15ec4 ∈ AL ∧ Cond.selects mJ4_append_15ec4.1.cls yJ4_append_15ec4 yJ4_append_15ec4 ∈ AL := ⟨w4_209, w4_27, w4_28⟩
theorem w4_210 : Cond.methodLink RJ7 61 yJ4_toString_0e30d ∈ AL := AL_in (T4 (List.mem_of_getElem? (i := 210) rfl)) rfl
theorem kJ7_61 : Cond.methodLink RJ7 61 yJ4_toString_0e30d ∈ AL ∧ Cond.instanceMethod yJ4_toString_0e30d ∈ AL ∧ Cond.selects mJ4_toString_0e30d.1.cls yJ4_toString_0e30d yJ4_toString_0e30d ∈ AL := ⟨w4_210, w4_170, w4_171⟩
theorem w4_221 : Cond.methodLink RJ2 126 yJ7_copyOfRange_39247 ∈ AL := AL_in (T4 (List.mem_of_getElem? (i := 221) rfl)) rfl
theorem kJ2_126 : Cond.methodLink RJ2 126 yJ7_copyOfRange_39247 ∈ AL ∧ Cond.static yJ7_copyOfRange_39247 ∈ AL := ⟨w4_221, w4_196⟩
theorem w4_189 : Cond.selects RJ4 yJ5_length_8abf5 yJ4_length_8abf5 ∈ AL := AL_in (T4 (List.mem_of_getElem? (i := 189) rfl)) rfl
theorem w4_190 : Cond.instanceMethod yJ4_length_8abf5 ∈ AL := AL_in (T4 (List.mem_of_getElem? (i := 190) rfl)) rfl
theorem o549 : Cond.methodLink RJ0 549 yJ5_length_8abf5 ∈ AL ∧ Cond.sameMethod yJ5_length_8abf5.cls RJ5 yJ5_length_8abf5.name yJ5_length_8abf5.desc ∈ AL ∧ Cond.instanceMethod yJ5_length_8abf5 ∈ AL ∧ Cond.selects RJ4 yJ5_length_8abf5 yJ4_length_8abf5 ∈ AL ∧ Cond.instanceMethod yJ4_length_8abf5 ∈ AL := ⟨w4_186, w4_188, w4_187, w4_189, w4_190⟩
theorem w2_123 : Cond.laysFinal RJ0 "java/lang/String" "value" "[B" ∈ AL := AL_in (T2 (List.mem_of_getElem? (i := 123) rfl)) rfl
theorem w2_125 : Cond.laysFinal RJ0 "java/lang/String" "coder" "B" ∈ AL := AL_in (T2 (List.mem_of_getElem? (i := 125) rfl)) rfl
theorem w4_227 : Cond.lays RJ0 "java/lang/String" "hash" "I" ∈ AL := AL_in (T4 (List.mem_of_getElem? (i := 227) rfl)) rfl
theorem w4_229 : Cond.lays RJ0 "java/lang/String" "hashIsZero" "Z" ∈ AL := AL_in (T4 (List.mem_of_getElem? (i := 229) rfl)) rfl
theorem uwJ0 : ∀ w ∈ u_ws RJ0 TJ0 4, w ∈ AL := List.forall_mem_cons.mpr ⟨w2_123, List.forall_mem_cons.mpr ⟨w2_125, List.forall_mem_cons.mpr ⟨w4_227, List.forall_mem_cons.mpr ⟨w4_229, fun _ h => absurd h List.not_mem_nil⟩⟩⟩⟩
theorem fJ5_15 : FL RJ5 15 9 0 (.array .byte) 0 := ⟨RJ4, TJ4, 4, tyJ4, rfl, by decide, uwJ4, tyJ4_ok, nmJ4, w4_12, rfl, Or.inl ⟨rfl, rfl⟩⟩
theorem fJ5_22 : FL RJ5 22 9 1 .byte 0 := ⟨RJ4, TJ4, 4, tyJ4, rfl, by decide, uwJ4, tyJ4_ok, nmJ4, w4_13, rfl, Or.inl ⟨rfl, rfl⟩⟩
theorem fJ0_1048 : FL RJ0 1048 9 2 .boolean 0 := ⟨RJ4, TJ4, 4, tyJ4, rfl, by decide, uwJ4, tyJ4_ok, nmJ4, w4_14, rfl, Or.inl ⟨rfl, rfl⟩⟩
theorem fJ5_79 : FL RJ5 79 9 3 .int 0 := ⟨RJ4, TJ4, 4, tyJ4, rfl, by decide, uwJ4, tyJ4_ok, nmJ4, w4_15, rfl, Or.inl ⟨rfl, rfl⟩⟩
theorem fJ0_9 : FL RJ0 9 0 0 (.array .byte) 1 := ⟨RJ0, TJ0, 4, tyJ0, rfl, by decide, uwJ0, tyJ0_ok, nmJ0, w4_225, rfl, Or.inr (Or.inl ⟨rfl, rfl, rfl⟩)⟩
theorem fJ0_15 : FL RJ0 15 0 1 .byte 1 := ⟨RJ0, TJ0, 4, tyJ0, rfl, by decide, uwJ0, tyJ0_ok, nmJ0, w4_226, rfl, Or.inr (Or.inl ⟨rfl, rfl, rfl⟩)⟩
theorem w3_235 : Cond.instantiable RJ4 4 ∈ AL := AL_in (T3 (List.mem_of_getElem? (i := 235) rfl)) rfl
theorem nL_255 : NL RL 255 9 4 [.null, .int 0, .int 0, .int 0] := ⟨RJ4, TJ4, tyJ4, rfl, uwJ4, tyJ4_ok, w3_234, w3_235, w1_25, rfl⟩
theorem w2_121 : Cond.instantiable RJ0 4 ∈ AL := AL_in (T2 (List.mem_of_getElem? (i := 121) rfl)) rfl
theorem nJ4_18 : NL RJ4 18 0 4 [.null, .int 0, .int 0, .int 0] := ⟨RJ0, TJ0, tyJ0, rfl, uwJ0, tyJ0_ok, w4_173, w2_121, w1_15, rfl⟩
theorem cJ7_310 : Cond.methodLink RJ7 310 ⟨"[B", "clone", "()Ljava/lang/Object;"⟩ ∈ AL ∧ Cond.sameMethod "[B" "java/lang/Object" "clone" "()Ljava/lang/Object;" ∈ AL ∧ Cond.native ⟨"java/lang/Object", "clone", "()Ljava/lang/Object;"⟩ ∈ AL ∧ Cond.instanceMethod ⟨"java/lang/Object", "clone", "()Ljava/lang/Object;"⟩ ∈ AL ∧ Cond.selects "[B" ⟨"[B", "clone", "()Ljava/lang/Object;"⟩ ⟨"java/lang/Object", "clone", "()Ljava/lang/Object;"⟩ ∈ AL := ⟨AL_in (T4 (List.mem_of_getElem? (i := 59) rfl)) rfl, AL_in (T4 (List.mem_of_getElem? (i := 60) rfl)) rfl, AL_in (T4 (List.mem_of_getElem? (i := 61) rfl)) rfl, AL_in (T4 (List.mem_of_getElem? (i := 62) rfl)) rfl, AL_in (T4 (List.mem_of_getElem? (i := 63) rfl)) rfl⟩
theorem oB_cl : Cond.castable "[B" "java/lang/Cloneable" ∈ OL := OL_in (T4 (List.mem_of_getElem? (i := 64) rfl)) rfl
end JLINK2

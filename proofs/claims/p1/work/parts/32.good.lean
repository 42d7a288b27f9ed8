theorem gl_nil (b : List Cond) : GoodIn b [] := fun _ h => nomatch h
def zA0 : List Cond := [.code yX4_open cX4_open 2 none, .fieldLink RX4 29 "SignetRing$Packets" "in" "LSignetRing$Span;", .fieldLink RX4 32 "SignetRing$Packets" "place" "I", .fieldLink RX4 36 "SignetRing$Packets" "next" "I", .code yX11_isInSigns cX11_isInSigns 1 (some .boolean), .fieldLink RX11 14 "SignetRing" "bytes" "LSignetRing$Bytes;", .fieldLink RX11 86 "SignetRing$Bytes" "size" "I", .sameField "SignetRing$Bytes" "SignetRing$Span" "size" "I", .code yX11_openKeys cX11_openKeys 1 (some .int), .fieldLink RX11 39 "SignetRing" "packets" "LSignetRing$Packets;", .methodLink RX11 234 yX4_open, .instanceMethod yX4_open, .selects RX4 yX4_open yX4_open, .initialized RX4, .methodLink RX11 238 yX11_isInSigns, .instanceMethod yX11_isInSigns, .selects RX11 yX11_isInSigns yX11_isInSigns, .initialized RX11, .code yJx4a65c_size_8abf5 cJx4a65c_size_8abf5 1 (some .int), .fieldLink RJx4a65c 48 "java/util/ArrayList" "size" "I", .code yX4_more cX4_more 1 (some .boolean), .fieldLink RX4 39 "SignetRing$Span" "size" "I", .code yX7_joinAll cX7_joinAll 5 (some .int), .fieldLink RX7 52 "SignetRing$Ring" "key" "LSignetRing$Key;", .fieldLink RX7 55 "SignetRing$Ring" "place" "LSignetRing$Place;", .fieldLink RX7 12 "SignetRing$Ring" "keys" "Ljava/util/ArrayList;", .methodLink RX7 59 yJx4a65c_size_8abf5, .instanceMethod yJx4a65c_size_8abf5, .selects RJx4a65c yJx4a65c_size_8abf5 yJx4a65c_size_8abf5, .initialized RJx4a65c, .methodLink RX7 63 yX4_more, .instanceMethod yX4_more, .selects RX4 yX4_more yX4_more, .fieldLink RX7 97 "SignetRing$Packets" "in" "LSignetRing$Span;", .fieldLink RX7 100 "SignetRing$Span" "size" "I", .code yX11_join cX11_join 2 (some .int), .methodLink RX11 93 yX11_openKeys, .instanceMethod yX11_openKeys, .selects RX11 yX11_openKeys yX11_openKeys, .fieldLink RX11 60 "SignetRing" "ring" "LSignetRing$Ring;", .methodLink RX11 97 yX7_joinAll, .instanceMethod yX7_joinAll, .selects RX7 yX7_joinAll yX7_joinAll, .initialized RX7, .code yX12_part cX12_part 5 (some (.array .int)), .arrayClass .int, .code yX12_taken cX12_taken 2 (some (.array .int)), .fieldLink RX12 7 "SignetRingModel" "tape" "[I", .fieldLink RX12 84 "SignetRingModel" "taped" "I", .methodLink RX12 89 yX12_part, .static yX12_part, .initialized RX12, .code yX12_open cX12_open 2 none, .fieldLink RX12 272 "SignetRingModel" "row" "[I", .fieldLink RX12 275 "SignetRingModel" "next" "I", .fieldLink RX12 269 "SignetRingModel" "place" "I", .code yX12_fail cX12_fail 2 none, .fieldLink RX12 178 "SignetRingModel" "told" "I", .code yX12_readKeys cX12_readKeys 9 (some .int), .methodLink RX12 182 yX12_fail]
set_option maxHeartbeats 4000000 in
set_option maxRecDepth 100000 in
theorem zA0_in : ∀ w ∈ zA0, w ∈ zt := by decide +kernel
def zA1 : List Cond := [.instanceMethod yX12_fail, .selects RX12 yX12_fail yX12_fail, .code yX12_join cX12_join 6 (some .int), .fieldLink RX12 78 "SignetRingModel" "thrown" "I", .fieldLink RX12 485 "SignetRingModel" "packets" "I", .fieldLink RX12 428 "SignetRingModel" "newPackets" "I", .methodLink RX12 488 yX12_taken, .instanceMethod yX12_taken, .selects RX12 yX12_taken yX12_taken, .methodLink RX12 497 yX12_open, .instanceMethod yX12_open, .selects RX12 yX12_open yX12_open, .methodLink RX12 500 yX12_readKeys, .instanceMethod yX12_readKeys, .selects RX12 yX12_readKeys yX12_readKeys, .code yX0_pushSpan cX0_pushSpan 6 none, .fieldLink RX0 33 "SignetRing$Span" "from" "I", .fieldLink RX0 13 "SignetRing$Bytes" "size" "I", .code yX11_document cX11_document 1 (some .int), .fieldLink RX11 18 "SignetRing" "told" "LSignetRing$Bytes;", .methodLink RX11 101 yX0_pushSpan, .instanceMethod yX0_pushSpan, .selects RX0 yX0_pushSpan yX0_pushSpan, .initialized RX0, .fieldLink RX11 105 "SignetRing" "toldHash" "I", .code yX12_document cX12_document 1 (some .int), .fieldLink RX12 13 "SignetRingModel" "document" "[I", .code yX11_keys cX11_keys 1 (some .int), .fieldLink RX11 130 "SignetRing$Ring" "keys" "Ljava/util/ArrayList;", .methodLink RX11 134 yJx4a65c_size_8abf5, .code yX12_keys cX12_keys 3 (some .int), .code yX9_sumOf cX9_sumOf 4 (some .int), .constant RX9 30 11994318, .fieldLink RX9 31 "SignetRing$Span" "size" "I", .code yX11_sum cX11_sum 1 (some .int), .fieldLink RX11 80 "SignetRing" "out" "LSignetRing$Bytes;", .methodLink RX11 215 yX9_sumOf, .static yX9_sumOf, .initialized RX9, .code yX12_sumOf cX12_sumOf 5 (some .int), .constant RX12 222 11994318, .code yX12_sum cX12_sum 1 (some .int), .fieldLink RX12 17 "SignetRingModel" "out" "[I", .fieldLink RX12 602 "SignetRingModel" "outSize" "I", .methodLink RX12 236 yX12_sumOf, .static yX12_sumOf, .code yX11_take cX11_take 1 (some .int), .methodLink RX11 219 Lib.Math.min.name, .static Lib.Math.min.name, .initialized "java/lang/Math", .code Lib.Math.min.name Lib.Math.min.code 2 (some .int), .code yX12_take cX12_take 2 (some .int), .code yX11_found cX11_found 4 (some (.object "SignetRing$Key")), .code yX11_key cX11_key 4 (some .long), .methodLink RX11 138 yX11_found, .instanceMethod yX11_found, .selects RX11 yX11_found yX11_found, .classLink RX11 142 "java/lang/IndexOutOfBoundsException", .initialized "java/lang/IndexOutOfBoundsException", .codeWith yL_key cL_key 5 (some .int) [(0, 9, 12, 19)]]
set_option maxHeartbeats 4000000 in
set_option maxRecDepth 100000 in
theorem zA1_in : ∀ w ∈ zA1, w ∈ zt := by decide +kernel
def zA2 : List Cond := [.methodLink RL 15 yX11_key, .instanceMethod yX11_key, .selects RX11 yX11_key yX11_key, .classLink RL 19 "java/lang/IndexOutOfBoundsException", .code yX12_placeOf cX12_placeOf 4 (some .int), .code yX12_key cX12_key 5 (some .long), .methodLink RX12 590 yX12_placeOf, .instanceMethod yX12_placeOf, .selects RX12 yX12_placeOf yX12_placeOf, .code yX12_thrown cX12_thrown 1 (some .int), .code yX11_print cX11_print 5 (some .int), .codeWith yL_print cL_print 6 (some .int) [(0, 12, 15, 19)], .methodLink RL 21 yX11_print, .instanceMethod yX11_print, .selects RX11 yX11_print yX11_print, .code yX12_thingOf cX12_thingOf 4 (some .int), .code yX12_print cX12_print 5 (some .int), .methodLink RX12 599 yX12_thingOf, .instanceMethod yX12_thingOf, .selects RX12 yX12_thingOf yX12_thingOf, .code yX11_usable cX11_usable 6 (some .int), .codeWith yL_usable cL_usable 7 (some .int) [(0, 12, 15, 19), (0, 12, 19, 13)], .methodLink RL 25 yX11_usable, .instanceMethod yX11_usable, .selects RX11 yX11_usable yX11_usable, .code yX12_usable cX12_usable 6 (some .int), .code yX11_seal cX11_seal 7 (some .int), .codeWith yL_seal cL_seal 8 (some .int) [(0, 14, 17, 19), (0, 14, 21, 13), (0, 14, 25, 33)], .methodLink RL 29 yX11_seal, .instanceMethod yX11_seal, .selects RX11 yX11_seal yX11_seal, .code yX12_seal cX12_seal 11 (some .int), .code yX11_export cX11_export 4 (some .int), .codeWith yL_export cL_export 4 (some .int) [(0, 9, 12, 19)], .methodLink RL 35 yX11_export, .instanceMethod yX11_export, .selects RX11 yX11_export yX11_export, .code yX12_export cX12_export 5 (some .int), .code yX11_out cX11_out 2 (some .int), .classLink RX11 208 "java/lang/ArrayIndexOutOfBoundsException", .initialized "java/lang/ArrayIndexOutOfBoundsException", .codeWith yL_out cL_out 4 (some .int) [(0, 9, 12, 47)], .methodLink RL 44 yX11_out, .instanceMethod yX11_out, .selects RX11 yX11_out yX11_out, .classLink RL 47 "java/lang/ArrayIndexOutOfBoundsException", .code yX12_out cX12_out 2 (some .int), .code yX11_drop cX11_drop 2 (some .int), .codeWith yL_drop cL_drop 4 (some .int) [(0, 9, 12, 19)], .methodLink RL 49 yX11_drop, .instanceMethod yX11_drop, .selects RX11 yX11_drop yX11_drop, .code yX12_drop cX12_drop 5 (some .int), .code yX11_isTime cX11_isTime 2 (some .boolean), .code yX11_look cX11_look 5 (some .int), .methodLink RX11 108 yX11_isTime, .static yX11_isTime, .classLink RX11 112 "java/lang/IllegalArgumentException", .initialized "java/lang/IllegalArgumentException", .codeWith yL_look cL_look 5 (some .int) [(0, 9, 12, 13)]]
set_option maxHeartbeats 4000000 in
set_option maxRecDepth 100000 in
theorem zA2_in : ∀ w ∈ zA2, w ∈ zt := by decide +kernel
def zA3 : List Cond := [.methodLink RL 7 yX11_look, .instanceMethod yX11_look, .selects RX11 yX11_look yX11_look, .classLink RL 13 "java/lang/IllegalArgumentException", .code yX12_isTime cX12_isTime 2 (some .boolean), .code yX12_look cX12_look 11 (some .int), .methodLink RX12 573 yX12_isTime, .static yX12_isTime, .constantLong RX11 232 4294967295, .constantLong RX12 151 4294967295, .code yX10_view cX10_view 4 none, .fieldLink RX10 7 "SignetRing$Span" "row" "[B", .fieldLink RX10 13 "SignetRing$Span" "from" "I", .fieldLink RX10 17 "SignetRing$Span" "size" "I", .code yX10_at cX10_at 3 (some .int), .code yX4_read cX4_read 3 (some .boolean), .methodLink RX4 42 ⟨"SignetRing$Span", "at", "(I)I"⟩, .sameMethod "SignetRing$Span" "SignetRing$Span" "at" "(I)I", .selects RX0 ⟨"SignetRing$Span", "at", "(I)I"⟩ yX10_at, .instanceMethod yX10_at, .initialized RX10, .code yX4_fault cX4_fault 1 (some .int), .code yX11_readSealed cX11_readSealed 5 (some .int), .methodLink RX11 288 yX4_read, .instanceMethod yX4_read, .selects RX4 yX4_read yX4_read, .methodLink RX11 299 yX4_fault, .instanceMethod yX4_fault, .selects RX4 yX4_fault yX4_fault, .code yX11_openLooked cX11_openLooked 2 (some .int), .fieldLink RX11 32 "SignetRing" "letter" "LSignetRing$Span;", .fieldLink RX11 261 "SignetRing$Bytes" "row" "[B", .sameField "SignetRing$Bytes" "SignetRing$Span" "row" "[B", .fieldLink RX11 264 "SignetRing$Bytes" "from" "I", .sameField "SignetRing$Bytes" "SignetRing$Span" "from" "I", .methodLink RX11 267 yX10_view, .instanceMethod yX10_view, .selects RX10 yX10_view yX10_view, .methodLink RX11 270 yX11_readSealed, .instanceMethod yX11_readSealed, .selects RX11 yX11_readSealed yX11_readSealed, .methodLink RX11 115 yX11_openLooked, .instanceMethod yX11_openLooked, .selects RX11 yX11_openLooked yX11_openLooked, .code yX12_readCase cX12_readCase 3 none, .methodLink RX12 576 yX12_readCase, .instanceMethod yX12_readCase, .selects RX12 yX12_readCase yX12_readCase, .code yX11_add cX11_add 5 (some .boolean), .code yX12_add cX12_add 5 (some .boolean), .code yX0_push cX0_push 2 none, .fieldLink RX0 19 "SignetRing$Bytes" "row" "[B", .methodLink RX11 90 yX0_push, .instanceMethod yX0_push, .selects RX0 yX0_push yX0_push, .constantLong RX12 87 255, .code yX11_armor cX11_armor 3 (some .int), .codeWith yL_armor cL_armor 4 (some .int) [(0, 9, 12, 13), (0, 9, 15, 42)], .methodLink RL 39 yX11_armor, .instanceMethod yX11_armor]
set_option maxHeartbeats 4000000 in
set_option maxRecDepth 100000 in
theorem zA3_in : ∀ w ∈ zA3, w ∈ zt := by decide +kernel
def zA4 : List Cond := [.selects RX11 yX11_armor yX11_armor, .code yX12_armor cX12_armor 3 (some .int), .code yJ0_coder_7d493 cJ0_coder_7d493 1 (some .byte), .fieldLink RJ0 38 "java/lang/String" "COMPACT_STRINGS" "Z", .fieldLink RJ0 15 "java/lang/String" "coder" "B", .code yJ0_length_8abf5 cJ0_length_8abf5 1 (some .int), .fieldLink RJ0 9 "java/lang/String" "value" "[B", .methodLink RJ0 335 yJ0_coder_7d493, .instanceMethod yJ0_coder_7d493, .selects RJ0 yJ0_coder_7d493 yJ0_coder_7d493, .initialized RJ0, .code yJ0_isLatin1_aae02 cJ0_isLatin1_aae02 1 (some .boolean), .code yJ3_checkIndex_8e157 cJ3_checkIndex_8e157 3 (some .int), .code yJ0_checkIndex_df160 cJ0_checkIndex_df160 2 none, .fieldLink RJ0 1053 "jdk/internal/util/Preconditions" "SIOOBE_FORMATTER" "Ljava/util/function/BiFunction;", .methodLink RJ0 1059 yJ3_checkIndex_8e157, .static yJ3_checkIndex_8e157, .initialized RJ3, .code yJ1_charAt_3b067 cJ1_charAt_3b067 2 (some .char), .methodLink RJ1 9 yJ0_checkIndex_df160, .static yJ0_checkIndex_df160, .code yJ0_charAt_5068e cJ0_charAt_5068e 2 (some .char), .methodLink RJ0 492 yJ0_isLatin1_aae02, .instanceMethod yJ0_isLatin1_aae02, .selects RJ0 yJ0_isLatin1_aae02 yJ0_isLatin1_aae02, .methodLink RJ0 495 yJ1_charAt_3b067, .static yJ1_charAt_3b067, .initialized RJ1, .code yX0_pushText cX0_pushText 3 none, .methodLink RX0 56 yJ0_length_8abf5, .instanceMethod yJ0_length_8abf5, .selects RJ0 yJ0_length_8abf5 yJ0_length_8abf5, .methodLink RX0 62 yJ0_charAt_5068e, .instanceMethod yJ0_charAt_5068e, .selects RJ0 yJ0_charAt_5068e yJ0_charAt_5068e, .methodLink RX0 29 yX0_push, .code yX9_label cX9_label 1 (some (.object "java/lang/String")), .code yX9_signOf cX9_signOf 1 (some .int), .code yX9_writeGroup cX9_writeGroup 5 none, .methodLink RX9 161 yX9_signOf, .static yX9_signOf, .methodLink RX9 135 yX0_push, .code yX9_write cX9_write 4 none, .methodLink RX9 149 yX0_pushText, .instanceMethod yX0_pushText, .selects RX0 yX0_pushText yX0_pushText, .methodLink RX9 84 yX9_label, .static yX9_label, .methodLink RX9 138 yX9_sumOf, .methodLink RX9 157 yX9_writeGroup, .static yX9_writeGroup, .fieldLink RX11 83 "SignetRing" "spare" "LSignetRing$Bytes;", .methodLink RX11 204 yX9_write, .static yX9_write, .code yJ5_init_d00df cJ5_init_d00df 2 none, .methodLink RJ5 3 objectInit, .instanceMethod objectInit, .code objectInit ⟨#[0xb1]⟩ 1 none, .fieldLink RJ5 18 "java/lang/String" "COMPACT_STRINGS" "Z", .arrayClass .byte]
set_option maxHeartbeats 4000000 in
set_option maxRecDepth 100000 in
theorem zA4_in : ∀ w ∈ zA4, w ∈ zt := by decide +kernel
def zA5 : List Cond := [.fieldLink RJ5 15 "java/lang/AbstractStringBuilder" "value" "[B", .fieldLink RJ5 22 "java/lang/AbstractStringBuilder" "coder" "B", .code yJ4_init_da8c8 cJ4_init_da8c8 1 none, .initialized RJ5, .methodLink RJ4 1 yJ5_init_d00df, .instanceMethod yJ5_init_d00df, .code yJ5_ensureCapacityInternal_d00df cJ5_ensureCapacityInternal_d00df 3 none, .code yJ5_inflateIfNeededFor_a7421 cJ5_inflateIfNeededFor_a7421 2 none, .methodLink RJ5 40 yJ0_coder_7d493, .code yJ0_getBytes_840e7 cJ0_getBytes_840e7 4 none, .methodLink RJ0 212 arraycopyName, .native arraycopyName, .static arraycopyName, .initialized "java/lang/System", .code yJ5_putStringAt_47b60 cJ5_putStringAt_47b60 3 none, .methodLink RJ5 397 ⟨"java/lang/AbstractStringBuilder", "inflateIfNeededFor", "(Ljava/lang/String;)V"⟩, .sameMethod "java/lang/AbstractStringBuilder" "java/lang/AbstractStringBuilder" "inflateIfNeededFor" "(Ljava/lang/String;)V", .selects RJ4 ⟨"java/lang/AbstractStringBuilder", "inflateIfNeededFor", "(Ljava/lang/String;)V"⟩ yJ5_inflateIfNeededFor_a7421, .instanceMethod yJ5_inflateIfNeededFor_a7421, .methodLink RJ5 399 yJ0_getBytes_840e7, .instanceMethod yJ0_getBytes_840e7, .selects RJ0 yJ0_getBytes_840e7 yJ0_getBytes_840e7, .code yJ5_append_cf1ce cJ5_append_cf1ce 3 (some (.object "java/lang/AbstractStringBuilder")), .methodLink RJ5 32 yJ0_length_8abf5, .fieldLink RJ5 79 "java/lang/AbstractStringBuilder" "count" "I", .methodLink RJ5 100 ⟨"java/lang/AbstractStringBuilder", "ensureCapacityInternal", "(I)V"⟩, .sameMethod "java/lang/AbstractStringBuilder" "java/lang/AbstractStringBuilder" "ensureCapacityInternal" "(I)V", .selects RJ4 ⟨"java/lang/AbstractStringBuilder", "ensureCapacityInternal", "(I)V"⟩ yJ5_ensureCapacityInternal_d00df, .instanceMethod yJ5_ensureCapacityInternal_d00df, .methodLink RJ5 208 ⟨"java/lang/AbstractStringBuilder", "putStringAt", "(ILjava/lang/String;)V"⟩, .sameMethod "java/lang/AbstractStringBuilder" "java/lang/AbstractStringBuilder" "putStringAt" "(ILjava/lang/String;)V", .selects RJ4 ⟨"java/lang/AbstractStringBuilder", "putStringAt", "(ILjava/lang/String;)V"⟩ yJ5_putStringAt_47b60, .instanceMethod yJ5_putStringAt_47b60, .code yJ4_append_15ec4 cJ4_append_15ec4 2 (some (.object "java/lang/StringBuilder")), .methodLink RJ4 29 yJ5_append_cf1ce, .sameMethod RJ5 RJ5 "append" "(Ljava/lang/String;)Ljava/lang/AbstractStringBuilder;", .superclass RJ4 RJ5, .instanceMethod yJ5_append_cf1ce, .code yX12_label cX12_label 1 (some (.object "java/lang/String")), .code yJ8_newLength_cabcc cJ8_newLength_cabcc 4 (some .int), .methodLink RJ8 194 Lib.Math.max.name, .static Lib.Math.max.name, .code Lib.Math.max.name Lib.Math.max.code 2 (some .int), .constant RJ8 200 2147483639, .code yJ5_newCapacity_0f7a4 cJ5_newCapacity_0f7a4 6 (some .int), .methodLink RJ5 114 yJ8_newLength_cabcc, .static yJ8_newLength_cabcc, .initialized RJ8, .constant RJ5 39 2147483647, .code yJ7_copyOf_9075b cJ7_copyOf_9075b 3 (some (.array .byte)), .methodLink RJ7 304 Lib.Math.min.name, .methodLink RJ7 150 arraycopyName, .methodLink RJ5 104 ⟨"java/lang/AbstractStringBuilder", "newCapacity", "(I)I"⟩, .sameMethod "java/lang/AbstractStringBuilder" "java/lang/AbstractStringBuilder" "newCapacity" "(I)I", .selects RJ4 ⟨"java/lang/AbstractStringBuilder", "newCapacity", "(I)I"⟩ yJ5_newCapacity_0f7a4, .instanceMethod yJ5_newCapacity_0f7a4, .methodLink RJ5 108 yJ7_copyOf_9075b, .static yJ7_copyOf_9075b, .initialized RJ7, .code yJ5_getValue_6d5f1 cJ5_getValue_6d5f1 1 (some (.array .byte))]
set_option maxHeartbeats 4000000 in
set_option maxRecDepth 100000 in
theorem zA5_in : ∀ w ∈ zA5, w ∈ zt := by decide +kernel
def zA6 : List Cond := [.code yJ5_length_8abf5 cJ5_length_8abf5 1 (some .int), .code yJ4_length_8abf5 cJ4_length_8abf5 1 (some .int), .methodLink RJ4 343 yJ5_length_8abf5, .sameMethod RJ5 RJ5 "length" "()I", .instanceMethod yJ5_length_8abf5, .code yJ5_isLatin1_aae02 cJ5_isLatin1_aae02 1 (some .boolean), .code yJ7_checkLength_df160 cJ7_checkLength_df160 2 none, .code yJ7_copyOfRangeByte_39247 cJ7_copyOfRangeByte_39247 5 (some (.array .byte)), .methodLink RJ7 343 yJ7_checkLength_df160, .static yJ7_checkLength_df160, .code yJ7_copyOfRange_39247 cJ7_copyOfRange_39247 3 (some (.array .byte)), .methodLink RJ7 339 yJ7_copyOfRangeByte_39247, .static yJ7_copyOfRangeByte_39247, .code yJ0_init_db425 cJ0_init_db425 5 none, .methodLink RJ0 1 objectInit, .methodLink RJ0 552 ⟨"java/lang/AbstractStringBuilder", "getValue", "()[B"⟩, .sameMethod "java/lang/AbstractStringBuilder" "java/lang/AbstractStringBuilder" "getValue" "()[B", .selects RJ4 ⟨"java/lang/AbstractStringBuilder", "getValue", "()[B"⟩ yJ5_getValue_6d5f1, .instanceMethod yJ5_getValue_6d5f1, .methodLink RJ0 549 ⟨"java/lang/AbstractStringBuilder", "length", "()I"⟩, .selects RJ4 ⟨"java/lang/AbstractStringBuilder", "length", "()I"⟩ yJ4_length_8abf5, .instanceMethod yJ4_length_8abf5, .initialized RJ4, .methodLink RJ0 1047 ⟨"java/lang/AbstractStringBuilder", "isLatin1", "()Z"⟩, .sameMethod "java/lang/AbstractStringBuilder" "java/lang/AbstractStringBuilder" "isLatin1" "()Z", .selects RJ4 ⟨"java/lang/AbstractStringBuilder", "isLatin1", "()Z"⟩ yJ5_isLatin1_aae02, .instanceMethod yJ5_isLatin1_aae02, .methodLink RJ0 54 yJ7_copyOfRange_39247, .static yJ7_copyOfRange_39247, .code yJ0_init_81219 cJ0_init_81219 2 none, .methodLink RJ0 489 yJ0_init_db425, .instanceMethod yJ0_init_db425, .code yJ4_toString_0e30d cJ4_toString_0e30d 1 (some (.object "java/lang/String")), .classLink RJ4 18 RJ0, .instantiable RJ0 4, .methodLink RJ4 137 yJ0_init_81219, .instanceMethod yJ0_init_81219, .code yX12_put cX12_put 2 none, .code yX12_putText cX12_putText 3 none, .methodLink RX12 210 yJ0_length_8abf5, .methodLink RX12 215 yJ0_charAt_5068e, .methodLink RX12 605 yX12_put, .instanceMethod yX12_put, .selects RX12 yX12_put yX12_put, .code yX12_signOf cX12_signOf 1 (some .int), .code yX12_putSigns cX12_putSigns 8 none, .classLink RX12 240 RJ4, .instantiable RJ4 4, .methodLink RX12 242 yJ4_init_da8c8, .instanceMethod yJ4_init_da8c8, .methodLink RX12 245 yJ4_append_15ec4, .instanceMethod yJ4_append_15ec4, .selects RJ4 yJ4_append_15ec4 yJ4_append_15ec4, .methodLink RX12 261 yX12_label, .static yX12_label, .methodLink RX12 251 yJ4_toString_0e30d, .instanceMethod yJ4_toString_0e30d, .selects RJ4 yJ4_toString_0e30d yJ4_toString_0e30d, .methodLink RX12 616 yX12_putText, .instanceMethod yX12_putText]
set_option maxHeartbeats 4000000 in
set_option maxRecDepth 100000 in
theorem zA6_in : ∀ w ∈ zA6, w ∈ zt := by decide +kernel
def zA7 : List Cond := [.selects RX12 yX12_putText yX12_putText, .methodLink RX12 640 yX12_signOf, .static yX12_signOf, .methodLink RX12 632 yX12_putSigns, .instanceMethod yX12_putSigns, .selects RX12 yX12_putSigns yX12_putSigns, .code yX11_hash cX11_hash 3 (some .int), .codeWith yL_hash cL_hash 5 (some .int) [(0, 10, 13, 13), (0, 10, 17, 19)], .methodLink RL 52 yX11_hash, .instanceMethod yX11_hash, .selects RX11 yX11_hash yX11_hash, .code yX12_hash cX12_hash 4 (some .int), .code yX10_number cX10_number 8 (some .long), .code yX1_wordOf cX1_wordOf 4 (some .int), .methodLink RX1 44 ⟨"SignetRing$Span", "number", "(II)J"⟩, .sameMethod "SignetRing$Span" "SignetRing$Span" "number" "(II)J", .selects RX0 ⟨"SignetRing$Span", "number", "(II)J"⟩ yX10_number, .instanceMethod yX10_number, .fieldLink RX1 28 "SignetRing$Span" "size" "I", .code yX1_mixFirst cX1_mixFirst 9 none, .fieldLink RX1 15 "SignetRing$Digest" "words" "[I", .fieldLink RX1 9 "SignetRing$Digest" "state" "[I", .constant RX1 48 1518500249, .constant RX1 49 1859775393, .constant RX1 50 (-1894007588), .constant RX1 51 (-899497514), .code yX1_make cX1_make 6 none, .fieldLink RX1 18 "SignetRing$Digest" "second" "Z", .fieldLink RX1 25 "SignetRing$Digest" "START_FIRST" "[I", .methodLink RX1 34 yX1_wordOf, .static yX1_wordOf, .initialized RX1, .methodLink RX1 41 yX1_mixFirst, .instanceMethod yX1_mixFirst, .selects RX1 yX1_mixFirst yX1_mixFirst, .code yX1_at cX1_at 2 (some .int), .fieldLink RX11 53 "SignetRing" "toldDigest" "LSignetRing$Digest;", .methodLink RX11 228 yX1_make, .instanceMethod yX1_make, .selects RX1 yX1_make yX1_make, .methodLink RX11 231 yX1_at, .instanceMethod yX1_at, .selects RX1 yX1_at yX1_at, .code yX12_sayRow cX12_sayRow 5 none, .code yX12_say cX12_say 2 none, .fieldLink RX12 40 "SignetRingModel" "message" "[I", .fieldLink RX12 93 "SignetRingModel" "messageSize" "I", .code yX12_sayNumber cX12_sayNumber 5 none, .methodLink RX12 96 yX12_say, .instanceMethod yX12_say, .selects RX12 yX12_say yX12_say, .code yX12_close cX12_close 3 (some .int), .constantLong RX12 100 8, .methodLink RX12 102 yX12_sayNumber, .instanceMethod yX12_sayNumber, .selects RX12 yX12_sayNumber yX12_sayNumber, .code yX12_number cX12_number 6 (some .long), .constantLong RX12 82 256, .code yX12_left cX12_left 2 (some .int), .code yX12_keep cX12_keep 4 none]
set_option maxHeartbeats 4000000 in
set_option maxRecDepth 100000 in
theorem zA7_in : ∀ w ∈ zA7, w ∈ zt := by decide +kernel
def zA8 : List Cond := [.fieldLink RX12 43 "SignetRingModel" "digest" "[I", .code yX12_firstHash cX12_firstHash 17 none, .methodLink RX12 106 yX12_close, .instanceMethod yX12_close, .selects RX12 yX12_close yX12_close, .constant RX12 110 1732584193, .constant RX12 111 (-271733879), .constant RX12 112 (-1732584194), .constant RX12 113 271733878, .constant RX12 114 (-1009589776), .fieldLink RX12 46 "SignetRingModel" "words" "[I", .methodLink RX12 115 yX12_number, .static yX12_number, .constant RX12 123 1518500249, .methodLink RX12 119 yX12_left, .static yX12_left, .constant RX12 124 1859775393, .constant RX12 125 (-1894007588), .constant RX12 126 (-899497514), .methodLink RX12 127 yX12_keep, .instanceMethod yX12_keep, .selects RX12 yX12_keep yX12_keep, .code yX12_hashOf cX12_hashOf 2 (some .int), .methodLink RX12 142 yX12_firstHash, .instanceMethod yX12_firstHash, .selects RX12 yX12_firstHash yX12_firstHash, .methodLink RX12 342 yX12_sayRow, .instanceMethod yX12_sayRow, .selects RX12 yX12_sayRow yX12_sayRow, .methodLink RX12 350 yX12_hashOf, .instanceMethod yX12_hashOf, .selects RX12 yX12_hashOf yX12_hashOf, .code yX1_mixSecond cX1_mixSecond 12 none, .fieldLink RX1 52 "SignetRing$Digest" "ROUNDS" "[I", .fieldLink RX1 22 "SignetRing$Digest" "START_SECOND" "[I", .methodLink RX1 38 yX1_mixSecond, .instanceMethod yX1_mixSecond, .selects RX1 yX1_mixSecond yX1_mixSecond, .code yX12_secondHash cX12_secondHash 12 none, .fieldLink RX12 49 "SignetRingModel" "state" "[I", .constant RX12 131 1779033703, .constant RX12 132 (-1150833019), .constant RX12 133 1013904242, .constant RX12 134 (-1521486534), .constant RX12 135 1359893119, .constant RX12 136 (-1694144372), .constant RX12 137 528734635, .constant RX12 138 1541459225, .fieldLink RX12 52 "SignetRingModel" "now" "[I", .fieldLink RX12 139 "SignetRingModel" "ROUNDS" "[I", .methodLink RX12 145 yX12_secondHash, .instanceMethod yX12_secondHash, .selects RX12 yX12_secondHash yX12_secondHash, .code yX10_init cX10_init 4 none, .methodLink RX10 1 objectInit, .code yX0_init cX0_init 2 none, .methodLink RX0 1 Lib.Math.max.name, .methodLink RX0 7 yX10_init, .instanceMethod yX10_init, .code yX4_init cX4_init 1 none]
set_option maxHeartbeats 4000000 in
set_option maxRecDepth 100000 in
theorem zA8_in : ∀ w ∈ zA8, w ∈ zt := by decide +kernel
def zA9 : List Cond := [.methodLink RX4 3 objectInit, .classLink RX4 9 RX10, .instantiable RX10 3, .methodLink RX4 11 yX10_init, .fieldLink RX4 14 "SignetRing$Packets" "body" "LSignetRing$Span;", .classLink RX4 20 RX0, .instantiable RX0 3, .methodLink RX4 22 yX0_init, .instanceMethod yX0_init, .fieldLink RX4 25 "SignetRing$Packets" "parts" "LSignetRing$Bytes;", .code yX9_init cX9_init 1 none, .methodLink RX9 3 objectInit, .classLink RX9 9 RX0, .methodLink RX9 11 yX0_init, .fieldLink RX9 14 "SignetRing$Signs" "plain" "LSignetRing$Bytes;", .fieldLink RX9 20 "SignetRing$Signs" "in" "LSignetRing$Span;", .code yX1_init cX1_init 1 none, .methodLink RX1 3 objectInit, .code yJxa1e45_init_da8c8 cJxa1e45_init_da8c8 1 none, .methodLink RJxa1e45 1 objectInit, .code yJxc12de_init_da8c8 cJxc12de_init_da8c8 1 none, .initialized RJxa1e45, .methodLink RJxc12de 1 yJxa1e45_init_da8c8, .instanceMethod yJxa1e45_init_da8c8, .fieldLink RJxc12de 7 "java/util/AbstractList" "modCount" "I", .code yJx4a65c_init_da8c8 cJx4a65c_init_da8c8 1 none, .initialized RJxc12de, .methodLink RJx4a65c 1 yJxc12de_init_da8c8, .instanceMethod yJxc12de_init_da8c8, .fieldLink RJx4a65c 39 "java/util/ArrayList" "DEFAULTCAPACITY_EMPTY_ELEMENTDATA" "[Ljava/lang/Object;", .fieldLink RJx4a65c 9 "java/util/ArrayList" "elementData" "[Ljava/lang/Object;", .code yX5_init cX5_init 2 none, .methodLink RX5 3 yX10_init, .classLink RX5 9 RJx4a65c, .instantiable RJx4a65c 3, .methodLink RX5 11 yJx4a65c_init_da8c8, .instanceMethod yJx4a65c_init_da8c8, .fieldLink RX5 14 "SignetRing$Place" "seals" "Ljava/util/ArrayList;", .code yX3_init cX3_init 3 none, .initialized RX5, .methodLink RX3 3 yX5_init, .instanceMethod yX5_init, .classLink RX3 9 RJx4a65c, .methodLink RX3 11 yJx4a65c_init_da8c8, .fieldLink RX3 14 "SignetRing$Key" "users" "Ljava/util/ArrayList;", .fieldLink RX3 20 "SignetRing$Key" "parts" "Ljava/util/ArrayList;", .fieldLink RX3 23 "SignetRing$Key" "print" "[B", .fieldLink RX3 27 "SignetRing$Key" "owner" "LSignetRing$Key;", .code yX8_init cX8_init 2 none, .methodLink RX8 3 yX10_init, .code yX7_init cX7_init 1 none, .methodLink RX7 3 objectInit, .classLink RX7 9 RJx4a65c, .methodLink RX7 11 yJx4a65c_init_da8c8, .classLink RX7 18 RX1, .instantiable RX1 3, .instanceMethod yX1_init, .fieldLink RX7 21 "SignetRing$Ring" "digest" "LSignetRing$Digest;", .classLink RX7 25 RX0, .methodLink RX7 27 yX0_init]
set_option maxHeartbeats 4000000 in
set_option maxRecDepth 100000 in
theorem zA9_in : ∀ w ∈ zA9, w ∈ zt := by decide +kernel
def zA10 : List Cond := [.fieldLink RX7 30 "SignetRing$Ring" "message" "LSignetRing$Bytes;", .classLink RX7 34 RX3, .instantiable RX3 17, .initialized RX3, .methodLink RX7 36 yX3_init, .instanceMethod yX3_init, .fieldLink RX7 39 "SignetRing$Ring" "newKey" "LSignetRing$Key;", .classLink RX7 43 RX8, .instantiable RX8 18, .initialized RX8, .methodLink RX7 45 yX8_init, .instanceMethod yX8_init, .fieldLink RX7 48 "SignetRing$Ring" "newSeal" "LSignetRing$Seal;", .code yX6_init cX6_init 1 none, .methodLink RX6 3 objectInit, .arrayClass .long, .fieldLink RX6 9 "SignetRing$Power" "modulus" "[J", .fieldLink RX6 13 "SignetRing$Power" "quotient" "[J", .fieldLink RX6 16 "SignetRing$Power" "one" "[J", .fieldLink RX6 19 "SignetRing$Power" "unit" "[J", .fieldLink RX6 22 "SignetRing$Power" "square" "[J", .fieldLink RX6 25 "SignetRing$Power" "base" "[J", .fieldLink RX6 28 "SignetRing$Power" "power" "[J", .fieldLink RX6 31 "SignetRing$Power" "limbs" "I", .code yX2_init cX2_init 1 none, .methodLink RX2 3 objectInit, .classLink RX2 9 RX1, .fieldLink RX2 12 "SignetRing$Judge" "digest" "LSignetRing$Digest;", .classLink RX2 18 RX0, .methodLink RX2 20 yX0_init, .fieldLink RX2 23 "SignetRing$Judge" "message" "LSignetRing$Bytes;", .classLink RX2 27 RX6, .instantiable RX6 11, .initialized RX6, .methodLink RX2 29 yX6_init, .instanceMethod yX6_init, .fieldLink RX2 30 "SignetRing$Judge" "power" "LSignetRing$Power;", .fieldLink RX2 34 "SignetRing$Judge" "frame" "LSignetRing$Bytes;", .classLink RX2 37 RX8, .methodLink RX2 39 yX8_init, .fieldLink RX2 42 "SignetRing$Judge" "inner" "LSignetRing$Seal;", .code yX11_init cX11_init 1 none, .methodLink RX11 1 objectInit, .classLink RX11 7 RX0, .methodLink RX11 11 yX0_init, .fieldLink RX11 21 "SignetRing" "clear" "LSignetRing$Bytes;", .fieldLink RX11 24 "SignetRing" "packet" "LSignetRing$Bytes;", .classLink RX11 27 RX10, .methodLink RX11 29 yX10_init, .classLink RX11 36 RX4, .instantiable RX4 6, .instanceMethod yX4_init, .classLink RX11 43 RX9, .instantiable RX9 7, .instanceMethod yX9_init, .fieldLink RX11 46 "SignetRing" "signs" "LSignetRing$Signs;", .classLink RX11 50 RX1, .classLink RX11 57 RX7, .instantiable RX7 7, .instanceMethod yX7_init]
set_option maxHeartbeats 4000000 in
set_option maxRecDepth 100000 in
theorem zA10_in : ∀ w ∈ zA10, w ∈ zt := by decide +kernel
def zA11 : List Cond := [.classLink RX11 64 RX2, .instantiable RX2 5, .initialized RX2, .instanceMethod yX2_init, .fieldLink RX11 67 "SignetRing" "judge" "LSignetRing$Judge;", .classLink RX11 71 RX8, .methodLink RX11 73 yX8_init, .fieldLink RX11 76 "SignetRing" "looked" "LSignetRing$Seal;", .code yX12_init cX12_init 1 none, .methodLink RX12 1 objectInit, .constant RX12 16 60000, .fieldLink RX12 20 "SignetRingModel" "kinds" "[I", .classLink RX12 23 "[I", .fieldLink RX12 24 "SignetRingModel" "bodies" "[[I", .fieldLink RX12 28 "SignetRingModel" "secrets" "[[I", .fieldLink RX12 31 "SignetRingModel" "newKinds" "[I", .fieldLink RX12 34 "SignetRingModel" "newBodies" "[[I", .fieldLink RX12 37 "SignetRingModel" "newSecrets" "[[I", .fieldLink RX12 55 "SignetRingModel" "modulus" "[J", .fieldLink RX12 59 "SignetRingModel" "sum" "[J", .fieldLink RX12 62 "SignetRingModel" "base" "[J", .fieldLink RX12 65 "SignetRingModel" "result" "[J", .fieldLink RX12 68 "SignetRingModel" "square" "[J", .fieldLink RX12 71 "SignetRingModel" "parts" "[I", .arrayClass .boolean, .fieldLink RX12 74 "SignetRingModel" "wasSealed" "[Z"]
set_option maxHeartbeats 4000000 in
set_option maxRecDepth 100000 in
theorem zA11_in : ∀ w ∈ zA11, w ∈ zt := by decide +kernel
def zAll : List Cond := zA0 ++ (zA1 ++ (zA2 ++ (zA3 ++ (zA4 ++ (zA5 ++ (zA6 ++ (zA7 ++ (zA8 ++ (zA9 ++ (zA10 ++ (zA11 ++ ([]))))))))))))
theorem zAll_in : ∀ w ∈ zAll, w ∈ zt := (List.forall_mem_append.mpr ⟨zA0_in, (List.forall_mem_append.mpr ⟨zA1_in, (List.forall_mem_append.mpr ⟨zA2_in, (List.forall_mem_append.mpr ⟨zA3_in, (List.forall_mem_append.mpr ⟨zA4_in, (List.forall_mem_append.mpr ⟨zA5_in, (List.forall_mem_append.mpr ⟨zA6_in, (List.forall_mem_append.mpr ⟨zA7_in, (List.forall_mem_append.mpr ⟨zA8_in, (List.forall_mem_append.mpr ⟨zA9_in, (List.forall_mem_append.mpr ⟨zA10_in, (List.forall_mem_append.mpr ⟨zA11_in, (fun _ h => nomatch h)⟩)⟩)⟩)⟩)⟩)⟩)⟩)⟩)⟩)⟩)⟩)⟩)
theorem zz_sub {ws : List Cond} (h : ∀ w ∈ ws, w ∈ zAll) (g : ws.all goodWord = true) : GoodIn zt ws := goodIn_sub (fun w hw => zAll_in w (h w hw)) g
set_option maxHeartbeats 4000000 in
set_option maxRecDepth 100000 in
theorem gc_0 : GoodIn zt ((vx_at0 RX11 144 "java/lang/IndexOutOfBoundsException" ["java/lang/RuntimeException", "java/lang/Exception"]).filter goodWord) := goodIn_sub (by decide +kernel) (by decide +kernel)
set_option maxHeartbeats 4000000 in
set_option maxRecDepth 100000 in
theorem gc_1 : GoodIn zt ((vx_at0 RX11 210 "java/lang/ArrayIndexOutOfBoundsException" ["java/lang/IndexOutOfBoundsException", "java/lang/RuntimeException", "java/lang/Exception"]).filter goodWord) := goodIn_sub (by decide +kernel) (by decide +kernel)
set_option maxHeartbeats 4000000 in
set_option maxRecDepth 100000 in
theorem gc_2 : GoodIn zt ((vx_at0 RX11 114 "java/lang/IllegalArgumentException" ["java/lang/RuntimeException", "java/lang/Exception"]).filter goodWord) := goodIn_sub (by decide +kernel) (by decide +kernel)
set_option maxHeartbeats 4000000 in
set_option maxRecDepth 100000 in
theorem gu_RX4 : GoodIn zt wsX40 := goodIn_sub it_RX4 (by decide +kernel)
set_option maxHeartbeats 4000000 in
set_option maxRecDepth 100000 in
theorem gu_RX11 : GoodIn zt wsX110 := goodIn_sub it_RX11 (by decide +kernel)
set_option maxHeartbeats 4000000 in
set_option maxRecDepth 100000 in
theorem gu_RX0 : GoodIn zt wsX00 := goodIn_sub it_RX0 (by decide +kernel)
set_option maxHeartbeats 4000000 in
set_option maxRecDepth 100000 in
theorem gu_RJx4a65c : GoodIn zt wsJx4a65c0 := goodIn_sub it_RJx4a65c (by decide +kernel)
set_option maxHeartbeats 4000000 in
set_option maxRecDepth 100000 in
theorem gu_RX7 : GoodIn zt wsX70 := goodIn_sub it_RX7 (by decide +kernel)
set_option maxHeartbeats 4000000 in
set_option maxRecDepth 100000 in
theorem gu_RX12 : GoodIn zt wsX120 := goodIn_sub it_RX12 (by decide +kernel)
set_option maxHeartbeats 4000000 in
set_option maxRecDepth 100000 in
theorem gu_RX10 : GoodIn zt wsX100 := goodIn_sub it_RX10 (by decide +kernel)
set_option maxHeartbeats 4000000 in
set_option maxRecDepth 100000 in
theorem gu_RJ4 : GoodIn zt wsJ40 := goodIn_sub it_RJ4 (by decide +kernel)
set_option maxHeartbeats 4000000 in
set_option maxRecDepth 100000 in
theorem gu_RJ0 : GoodIn zt wsJ00 := goodIn_sub it_RJ0 (by decide +kernel)
set_option maxHeartbeats 4000000 in
set_option maxRecDepth 100000 in
theorem gu_RX1 : GoodIn zt wsX10 := goodIn_sub it_RX1 (by decide +kernel)
set_option maxHeartbeats 4000000 in
set_option maxRecDepth 100000 in
theorem gu_RX9 : GoodIn zt wsX90 := goodIn_sub it_RX9 (by decide +kernel)
set_option maxHeartbeats 4000000 in
set_option maxRecDepth 100000 in
theorem gu_RX3 : GoodIn zt wsX30 := goodIn_sub it_RX3 (by decide +kernel)
set_option maxHeartbeats 4000000 in
set_option maxRecDepth 100000 in
theorem gu_RX8 : GoodIn zt wsX80 := goodIn_sub it_RX8 (by decide +kernel)
set_option maxHeartbeats 4000000 in
set_option maxRecDepth 100000 in
theorem gu_RX6 : GoodIn zt wsX60 := goodIn_sub it_RX6 (by decide +kernel)
set_option maxHeartbeats 4000000 in
set_option maxRecDepth 100000 in
theorem gu_RX2 : GoodIn zt wsX20 := goodIn_sub it_RX2 (by decide +kernel)
set_option maxHeartbeats 4000000 in
set_option maxRecDepth 100000 in
theorem gl_c_X4_open : GoodIn zt wz_c_X4_open := goodIn_ca (zz_sub (by decide +kernel) (by decide +kernel)) (goodIn_app (gu_RX4) (gl_nil _))
set_option maxHeartbeats 4000000 in
set_option maxRecDepth 100000 in
theorem gl_c_X11_isInSigns : GoodIn zt wz_c_X11_isInSigns := goodIn_ca (zz_sub (by decide +kernel) (by decide +kernel)) (goodIn_app (gu_RX11) (goodIn_app (gu_RX0) (gl_nil _)))
set_option maxHeartbeats 4000000 in
set_option maxRecDepth 100000 in
theorem gl_c_X11_openKeys : GoodIn zt wz_c_X11_openKeys := goodIn_ca (zz_sub (by decide +kernel) (by decide +kernel)) (goodIn_app (gu_RX11) (goodIn_app (gl_c_X4_open) (goodIn_app (gl_c_X11_isInSigns) (gl_nil _))))
set_option maxHeartbeats 4000000 in
set_option maxRecDepth 100000 in
theorem gl_c_size : GoodIn zt wz_c_size := goodIn_ca (zz_sub (by decide +kernel) (by decide +kernel)) (goodIn_app (gu_RJx4a65c) (gl_nil _))
set_option maxHeartbeats 4000000 in
set_option maxRecDepth 100000 in
theorem gl_c_X4_more : GoodIn zt wz_c_X4_more := goodIn_ca (zz_sub (by decide +kernel) (by decide +kernel)) (goodIn_app (gu_RX4) (goodIn_app (gu_RX0) (gl_nil _)))
set_option maxHeartbeats 4000000 in
set_option maxRecDepth 100000 in
theorem gl_c_X7_joinAll : GoodIn zt wz_c_X7_joinAll := goodIn_ca (zz_sub (by decide +kernel) (by decide +kernel)) (goodIn_app (gu_RX7) (goodIn_app (gu_RX4) (goodIn_app (gu_RX0) (goodIn_app (gl_c_size) (goodIn_app (gl_c_X4_more) (gl_nil _))))))
set_option maxHeartbeats 4000000 in
set_option maxRecDepth 100000 in
theorem gl_c_X11_join : GoodIn zt wz_c_X11_join := goodIn_ca (zz_sub (by decide +kernel) (by decide +kernel)) (goodIn_app (gu_RX11) (goodIn_app (gu_RX0) (goodIn_app (gl_c_X11_openKeys) (goodIn_app (gl_c_X7_joinAll) (gl_nil _)))))
set_option maxHeartbeats 4000000 in
set_option maxRecDepth 100000 in
theorem gl_c_M_part0 : GoodIn zt wz_c_M_part0 := goodIn_ca (zz_sub (by decide +kernel) (by decide +kernel)) (gl_nil _)
set_option maxHeartbeats 4000000 in
set_option maxRecDepth 100000 in
theorem gl_c_M_taken : GoodIn zt wz_c_M_taken := goodIn_ca (zz_sub (by decide +kernel) (by decide +kernel)) (goodIn_app (gu_RX12) (goodIn_app (gl_c_M_part0) (gl_nil _)))
set_option maxHeartbeats 4000000 in
set_option maxRecDepth 100000 in
theorem gl_c_M_open : GoodIn zt wz_c_M_open := goodIn_ca (zz_sub (by decide +kernel) (by decide +kernel)) (goodIn_app (gu_RX12) (gl_nil _))
set_option maxHeartbeats 4000000 in
set_option maxRecDepth 100000 in
theorem gl_c_M_fail : GoodIn zt wz_c_M_fail := goodIn_ca (zz_sub (by decide +kernel) (by decide +kernel)) (goodIn_app (gu_RX12) (gl_nil _))
set_option maxHeartbeats 4000000 in
set_option maxRecDepth 100000 in
theorem gl_c_M_readKeys : GoodIn zt wz_c_M_readKeys := goodIn_ca (zz_sub (by decide +kernel) (by decide +kernel)) (goodIn_app (gu_RX12) (goodIn_app (gl_c_M_fail) (gl_nil _)))
set_option maxHeartbeats 4000000 in
set_option maxRecDepth 100000 in
theorem gl_c_M_join : GoodIn zt wz_c_M_join := goodIn_ca (zz_sub (by decide +kernel) (by decide +kernel)) (goodIn_app (gu_RX12) (goodIn_app (gl_c_M_taken) (goodIn_app (gl_c_M_open) (goodIn_app (gl_c_M_readKeys) (gl_nil _)))))
set_option maxHeartbeats 4000000 in
set_option maxRecDepth 100000 in
theorem gl_c_X0_pushSpan : GoodIn zt wz_c_X0_pushSpan := goodIn_ca (zz_sub (by decide +kernel) (by decide +kernel)) (goodIn_app (gu_RX0) (gl_nil _))
set_option maxHeartbeats 4000000 in
set_option maxRecDepth 100000 in
theorem gl_c_X11_document : GoodIn zt wz_c_X11_document := goodIn_ca (zz_sub (by decide +kernel) (by decide +kernel)) (goodIn_app (gu_RX11) (goodIn_app (gu_RX0) (goodIn_app (gl_c_X0_pushSpan) (gl_nil _))))
set_option maxHeartbeats 4000000 in
set_option maxRecDepth 100000 in
theorem gl_c_M_document : GoodIn zt wz_c_M_document := goodIn_ca (zz_sub (by decide +kernel) (by decide +kernel)) (goodIn_app (gu_RX12) (goodIn_app (gl_c_M_taken) (gl_nil _)))
set_option maxHeartbeats 4000000 in
set_option maxRecDepth 100000 in
theorem gl_c_X11_keys : GoodIn zt wz_c_X11_keys := goodIn_ca (zz_sub (by decide +kernel) (by decide +kernel)) (goodIn_app (gu_RX11) (goodIn_app (gu_RX7) (goodIn_app (gl_c_size) (gl_nil _))))
set_option maxHeartbeats 4000000 in
set_option maxRecDepth 100000 in
theorem gl_c_M_keys : GoodIn zt wz_c_M_keys := goodIn_ca (zz_sub (by decide +kernel) (by decide +kernel)) (goodIn_app (gu_RX12) (gl_nil _))
set_option maxHeartbeats 4000000 in
set_option maxRecDepth 100000 in
theorem gl_c_X9_sumOf : GoodIn zt wz_c_X9_sumOf := goodIn_ca (zz_sub (by decide +kernel) (by decide +kernel)) (goodIn_app (gu_RX0) (gl_nil _))
set_option maxHeartbeats 4000000 in
set_option maxRecDepth 100000 in
theorem gl_c_X11_sum : GoodIn zt wz_c_X11_sum := goodIn_ca (zz_sub (by decide +kernel) (by decide +kernel)) (goodIn_app (gu_RX11) (goodIn_app (gl_c_X9_sumOf) (gl_nil _)))
set_option maxHeartbeats 4000000 in
set_option maxRecDepth 100000 in
theorem gl_c_M_sumOf : GoodIn zt wz_c_M_sumOf := goodIn_ca (zz_sub (by decide +kernel) (by decide +kernel)) (gl_nil _)
set_option maxHeartbeats 4000000 in
set_option maxRecDepth 100000 in
theorem gl_c_M_sum : GoodIn zt wz_c_M_sum := goodIn_ca (zz_sub (by decide +kernel) (by decide +kernel)) (goodIn_app (gu_RX12) (goodIn_app (gl_c_M_sumOf) (gl_nil _)))
set_option maxHeartbeats 4000000 in
set_option maxRecDepth 100000 in
theorem gl_c_X11_take : GoodIn zt wz_c_X11_take := goodIn_ca (zz_sub (by decide +kernel) (by decide +kernel)) (goodIn_app (gu_RX11) (goodIn_app (gu_RX0) (goodIn_app (gl_c_X0_pushSpan) (gl_nil _))))
set_option maxHeartbeats 4000000 in
set_option maxRecDepth 100000 in
theorem gl_c_M_take : GoodIn zt wz_c_M_take := goodIn_ca (zz_sub (by decide +kernel) (by decide +kernel)) (goodIn_app (gu_RX12) (gl_nil _))
set_option maxHeartbeats 4000000 in
set_option maxRecDepth 100000 in
theorem gl_c_X11_found : GoodIn zt wz_c_X11_found := goodIn_ca (zz_sub (by decide +kernel) (by decide +kernel)) (goodIn_app (gu_RX11) (goodIn_app (gu_RX7) (goodIn_app (gl_c_size) (gl_nil _))))
set_option maxHeartbeats 4000000 in
set_option maxRecDepth 100000 in
theorem gl_c_X11_key : GoodIn zt wz_c_X11_key := goodIn_ca (zz_sub (by decide +kernel) (by decide +kernel)) (goodIn_app (gc_0) (goodIn_app (gl_c_X11_found) (gl_nil _)))
set_option maxHeartbeats 4000000 in
set_option maxRecDepth 100000 in
theorem gl_c_L_key : GoodIn zt wz_c_L_key := goodIn_ca (zz_sub (by decide +kernel) (by decide +kernel)) (goodIn_app (gl_c_X11_key) (gl_nil _))
set_option maxHeartbeats 4000000 in
set_option maxRecDepth 100000 in
theorem gl_c_M_placeOf : GoodIn zt wz_c_M_placeOf := goodIn_ca (zz_sub (by decide +kernel) (by decide +kernel)) (goodIn_app (gu_RX12) (gl_nil _))
set_option maxHeartbeats 4000000 in
set_option maxRecDepth 100000 in
theorem gl_c_M_key : GoodIn zt wz_c_M_key := goodIn_ca (zz_sub (by decide +kernel) (by decide +kernel)) (goodIn_app (gu_RX12) (goodIn_app (gl_c_M_placeOf) (gl_nil _)))
set_option maxHeartbeats 4000000 in
set_option maxRecDepth 100000 in
theorem gl_c_M_thrown : GoodIn zt wz_c_M_thrown := goodIn_ca (zz_sub (by decide +kernel) (by decide +kernel)) (goodIn_app (gu_RX12) (gl_nil _))
set_option maxHeartbeats 4000000 in
set_option maxRecDepth 100000 in
theorem gl_c_X11_print : GoodIn zt wz_c_X11_print := goodIn_ca (zz_sub (by decide +kernel) (by decide +kernel)) (goodIn_app (gc_0) (goodIn_app (gl_c_X11_found) (gl_nil _)))
set_option maxHeartbeats 4000000 in
set_option maxRecDepth 100000 in
theorem gl_c_L_print : GoodIn zt wz_c_L_print := goodIn_ca (zz_sub (by decide +kernel) (by decide +kernel)) (goodIn_app (gl_c_X11_print) (gl_nil _))
set_option maxHeartbeats 4000000 in
set_option maxRecDepth 100000 in
theorem gl_c_M_thingOf : GoodIn zt wz_c_M_thingOf := goodIn_ca (zz_sub (by decide +kernel) (by decide +kernel)) (goodIn_app (gl_c_M_placeOf) (gl_nil _))
set_option maxHeartbeats 4000000 in
set_option maxRecDepth 100000 in
theorem gl_c_M_print : GoodIn zt wz_c_M_print := goodIn_ca (zz_sub (by decide +kernel) (by decide +kernel)) (goodIn_app (gu_RX12) (goodIn_app (gl_c_M_thingOf) (gl_nil _)))
set_option maxHeartbeats 4000000 in
set_option maxRecDepth 100000 in
theorem gl_c_X11_usable : GoodIn zt wz_c_X11_usable := goodIn_ca (zz_sub (by decide +kernel) (by decide +kernel)) (goodIn_app (gc_0) (goodIn_app (gl_c_X11_found) (gl_nil _)))
set_option maxHeartbeats 4000000 in
set_option maxRecDepth 100000 in
theorem gl_c_L_usable : GoodIn zt wz_c_L_usable := goodIn_ca (zz_sub (by decide +kernel) (by decide +kernel)) (goodIn_app (gl_c_X11_usable) (gl_nil _))
set_option maxHeartbeats 4000000 in
set_option maxRecDepth 100000 in
theorem gl_c_M_usable : GoodIn zt wz_c_M_usable := goodIn_ca (zz_sub (by decide +kernel) (by decide +kernel)) (goodIn_app (gu_RX12) (goodIn_app (gl_c_M_thingOf) (gl_nil _)))
set_option maxHeartbeats 4000000 in
set_option maxRecDepth 100000 in
theorem gl_c_X11_seal : GoodIn zt wz_c_X11_seal := goodIn_ca (zz_sub (by decide +kernel) (by decide +kernel)) (goodIn_app (gc_0) (goodIn_app (gl_c_X11_found) (gl_nil _)))
set_option maxHeartbeats 4000000 in
set_option maxRecDepth 100000 in
theorem gl_c_L_seal : GoodIn zt wz_c_L_seal := goodIn_ca (zz_sub (by decide +kernel) (by decide +kernel)) (goodIn_app (gl_c_X11_seal) (gl_nil _))
set_option maxHeartbeats 4000000 in
set_option maxRecDepth 100000 in
theorem gl_c_M_seal : GoodIn zt wz_c_M_seal := goodIn_ca (zz_sub (by decide +kernel) (by decide +kernel)) (goodIn_app (gu_RX12) (goodIn_app (gl_c_M_thingOf) (gl_nil _)))
set_option maxHeartbeats 4000000 in
set_option maxRecDepth 100000 in
theorem gl_c_X11_export : GoodIn zt wz_c_X11_export := goodIn_ca (zz_sub (by decide +kernel) (by decide +kernel)) (goodIn_app (gc_0) (goodIn_app (gl_c_X11_found) (gl_nil _)))
set_option maxHeartbeats 4000000 in
set_option maxRecDepth 100000 in
theorem gl_c_L_export : GoodIn zt wz_c_L_export := goodIn_ca (zz_sub (by decide +kernel) (by decide +kernel)) (goodIn_app (gl_c_X11_export) (gl_nil _))
set_option maxHeartbeats 4000000 in
set_option maxRecDepth 100000 in
theorem gl_c_M_export : GoodIn zt wz_c_M_export := goodIn_ca (zz_sub (by decide +kernel) (by decide +kernel)) (goodIn_app (gu_RX12) (goodIn_app (gl_c_M_placeOf) (gl_nil _)))
set_option maxHeartbeats 4000000 in
set_option maxRecDepth 100000 in
theorem gl_c_X11_out : GoodIn zt wz_c_X11_out := goodIn_ca (zz_sub (by decide +kernel) (by decide +kernel)) (goodIn_app (gc_1) (goodIn_app (gu_RX11) (goodIn_app (gu_RX0) (gl_nil _))))
set_option maxHeartbeats 4000000 in
set_option maxRecDepth 100000 in
theorem gl_c_L_out : GoodIn zt wz_c_L_out := goodIn_ca (zz_sub (by decide +kernel) (by decide +kernel)) (goodIn_app (gl_c_X11_out) (gl_nil _))
set_option maxHeartbeats 4000000 in
set_option maxRecDepth 100000 in
theorem gl_c_M_out : GoodIn zt wz_c_M_out := goodIn_ca (zz_sub (by decide +kernel) (by decide +kernel)) (goodIn_app (gu_RX12) (gl_nil _))
set_option maxHeartbeats 4000000 in
set_option maxRecDepth 100000 in
theorem gl_c_X11_drop : GoodIn zt wz_c_X11_drop := goodIn_ca (zz_sub (by decide +kernel) (by decide +kernel)) (goodIn_app (gc_0) (goodIn_app (gu_RX11) (goodIn_app (gu_RX7) (goodIn_app (gl_c_size) (gl_nil _)))))
set_option maxHeartbeats 4000000 in
set_option maxRecDepth 100000 in
theorem gl_c_L_drop : GoodIn zt wz_c_L_drop := goodIn_ca (zz_sub (by decide +kernel) (by decide +kernel)) (goodIn_app (gl_c_X11_drop) (gl_nil _))
set_option maxHeartbeats 4000000 in
set_option maxRecDepth 100000 in
theorem gl_c_M_drop : GoodIn zt wz_c_M_drop := goodIn_ca (zz_sub (by decide +kernel) (by decide +kernel)) (goodIn_app (gu_RX12) (goodIn_app (gl_c_M_placeOf) (gl_nil _)))
set_option maxHeartbeats 4000000 in
set_option maxRecDepth 100000 in
theorem gl_c_X11_isTime_n : GoodIn zt wz_c_X11_isTime_n := goodIn_ca (zz_sub (by decide +kernel) (by decide +kernel)) (gl_nil _)
set_option maxHeartbeats 4000000 in
set_option maxRecDepth 100000 in
theorem gl_c_X11_look_n : GoodIn zt wz_c_X11_look_n := goodIn_ca (zz_sub (by decide +kernel) (by decide +kernel)) (goodIn_app (gc_2) (goodIn_app (gl_c_X11_isTime_n) (gl_nil _)))
set_option maxHeartbeats 4000000 in
set_option maxRecDepth 100000 in
theorem gl_c_L_look_n : GoodIn zt wz_c_L_look_n := goodIn_ca (zz_sub (by decide +kernel) (by decide +kernel)) (goodIn_app (gl_c_X11_look_n) (gl_nil _))
set_option maxHeartbeats 4000000 in
set_option maxRecDepth 100000 in
theorem gl_c_M_isTime_n : GoodIn zt wz_c_M_isTime_n := goodIn_ca (zz_sub (by decide +kernel) (by decide +kernel)) (gl_nil _)
set_option maxHeartbeats 4000000 in
set_option maxRecDepth 100000 in
theorem gl_c_M_look_n : GoodIn zt wz_c_M_look_n := goodIn_ca (zz_sub (by decide +kernel) (by decide +kernel)) (goodIn_app (gu_RX12) (goodIn_app (gl_c_M_isTime_n) (gl_nil _)))
set_option maxHeartbeats 4000000 in
set_option maxRecDepth 100000 in
theorem gl_c_X11_isTime_m : GoodIn zt wz_c_X11_isTime_m := goodIn_ca (zz_sub (by decide +kernel) (by decide +kernel)) (gl_nil _)
set_option maxHeartbeats 4000000 in
set_option maxRecDepth 100000 in
theorem gl_c_X11_look_m : GoodIn zt wz_c_X11_look_m := goodIn_ca (zz_sub (by decide +kernel) (by decide +kernel)) (goodIn_app (gc_2) (goodIn_app (gl_c_X11_isTime_m) (gl_nil _)))
set_option maxHeartbeats 4000000 in
set_option maxRecDepth 100000 in
theorem gl_c_L_look_m : GoodIn zt wz_c_L_look_m := goodIn_ca (zz_sub (by decide +kernel) (by decide +kernel)) (goodIn_app (gl_c_X11_look_m) (gl_nil _))
set_option maxHeartbeats 4000000 in
set_option maxRecDepth 100000 in
theorem gl_c_M_isTime_m : GoodIn zt wz_c_M_isTime_m := goodIn_ca (zz_sub (by decide +kernel) (by decide +kernel)) (gl_nil _)
set_option maxHeartbeats 4000000 in
set_option maxRecDepth 100000 in
theorem gl_c_M_look_m : GoodIn zt wz_c_M_look_m := goodIn_ca (zz_sub (by decide +kernel) (by decide +kernel)) (goodIn_app (gu_RX12) (goodIn_app (gl_c_M_isTime_m) (gl_nil _)))
theorem gl_c_X11_isTime_y : GoodIn zt wz_c_X11_isTime_y := gl_c_X11_isTime_m
set_option maxHeartbeats 4000000 in
set_option maxRecDepth 100000 in
theorem gl_c_X10_view : GoodIn zt wz_c_X10_view := goodIn_ca (zz_sub (by decide +kernel) (by decide +kernel)) (goodIn_app (gu_RX10) (gl_nil _))
set_option maxHeartbeats 4000000 in
set_option maxRecDepth 100000 in
theorem gl_c_X10_at_empty : GoodIn zt wz_c_X10_at_empty := goodIn_ca (zz_sub (by decide +kernel) (by decide +kernel)) (goodIn_app (gu_RX0) (gl_nil _))
set_option maxHeartbeats 4000000 in
set_option maxRecDepth 100000 in
theorem gl_c_X4_read : GoodIn zt wz_c_X4_read := goodIn_ca (zz_sub (by decide +kernel) (by decide +kernel)) (goodIn_app (gu_RX4) (goodIn_app (gu_RX0) (goodIn_app (gl_c_X10_at_empty) (gl_nil _))))
set_option maxHeartbeats 4000000 in
set_option maxRecDepth 100000 in
theorem gl_c_X4_fault : GoodIn zt wz_c_X4_fault := goodIn_ca (zz_sub (by decide +kernel) (by decide +kernel)) (goodIn_app (gu_RX4) (gl_nil _))
set_option maxHeartbeats 4000000 in
set_option maxRecDepth 100000 in
theorem gl_c_X11_readSealed : GoodIn zt wz_c_X11_readSealed := goodIn_ca (zz_sub (by decide +kernel) (by decide +kernel)) (goodIn_app (gu_RX11) (goodIn_app (gl_c_X4_read) (goodIn_app (gl_c_X4_fault) (gl_nil _))))
set_option maxHeartbeats 4000000 in
set_option maxRecDepth 100000 in
theorem gl_c_X11_openLooked : GoodIn zt wz_c_X11_openLooked := goodIn_ca (zz_sub (by decide +kernel) (by decide +kernel)) (goodIn_app (gu_RX11) (goodIn_app (gu_RX0) (goodIn_app (gl_c_X10_view) (goodIn_app (gl_c_X4_open) (goodIn_app (gl_c_X11_isInSigns) (goodIn_app (gl_c_X11_readSealed) (gl_nil _)))))))
set_option maxHeartbeats 4000000 in
set_option maxRecDepth 100000 in
theorem gl_c_X11_look_y : GoodIn zt wz_c_X11_look_y := goodIn_ca (zz_sub (by decide +kernel) (by decide +kernel)) (goodIn_app (gu_RX11) (goodIn_app (gu_RX0) (goodIn_app (gl_c_X11_isTime_y) (goodIn_app (gl_c_X11_openLooked) (gl_nil _)))))
set_option maxHeartbeats 4000000 in
set_option maxRecDepth 100000 in
theorem gl_c_L_look_y : GoodIn zt wz_c_L_look_y := goodIn_ca (zz_sub (by decide +kernel) (by decide +kernel)) (goodIn_app (gl_c_X11_look_y) (gl_nil _))
theorem gl_c_M_isTime_y : GoodIn zt wz_c_M_isTime_y := gl_c_M_isTime_m
set_option maxHeartbeats 4000000 in
set_option maxRecDepth 100000 in
theorem gl_c_M_readCase : GoodIn zt wz_c_M_readCase := goodIn_ca (zz_sub (by decide +kernel) (by decide +kernel)) (goodIn_app (gl_c_M_fail) (gl_nil _))
set_option maxHeartbeats 4000000 in
set_option maxRecDepth 100000 in
theorem gl_c_M_look_y : GoodIn zt wz_c_M_look_y := goodIn_ca (zz_sub (by decide +kernel) (by decide +kernel)) (goodIn_app (gu_RX12) (goodIn_app (gl_c_M_isTime_y) (goodIn_app (gl_c_M_taken) (goodIn_app (gl_c_M_readCase) (gl_nil _)))))
set_option maxHeartbeats 4000000 in
set_option maxRecDepth 100000 in
theorem gl_c_X11_add_lo : GoodIn zt wz_c_X11_add_lo := goodIn_ca (zz_sub (by decide +kernel) (by decide +kernel)) (gl_nil _)
set_option maxHeartbeats 4000000 in
set_option maxRecDepth 100000 in
theorem gl_c_M_add_lo : GoodIn zt wz_c_M_add_lo := goodIn_ca (zz_sub (by decide +kernel) (by decide +kernel)) (goodIn_app (gu_RX12) (gl_nil _))
theorem gl_c_X11_add_hi : GoodIn zt wz_c_X11_add_hi := gl_c_X11_add_lo
theorem gl_c_M_add_hi : GoodIn zt wz_c_M_add_hi := gl_c_M_add_lo
set_option maxHeartbeats 4000000 in
set_option maxRecDepth 100000 in
theorem gl_c_X0_push : GoodIn zt wz_c_X0_push := goodIn_ca (zz_sub (by decide +kernel) (by decide +kernel)) (goodIn_app (gu_RX0) (gl_nil _))
set_option maxHeartbeats 4000000 in
set_option maxRecDepth 100000 in
theorem gl_c_X11_add_1 : GoodIn zt wz_c_X11_add_1 := goodIn_ca (zz_sub (by decide +kernel) (by decide +kernel)) (goodIn_app (gu_RX11) (goodIn_app (gu_RX0) (goodIn_app (gl_c_X0_push) (gl_nil _))))
set_option maxHeartbeats 4000000 in
set_option maxRecDepth 100000 in
theorem gl_c_M_add_1 : GoodIn zt wz_c_M_add_1 := goodIn_ca (zz_sub (by decide +kernel) (by decide +kernel)) (goodIn_app (gu_RX12) (gl_nil _))
theorem gl_c_X11_add_2 : GoodIn zt wz_c_X11_add_2 := gl_c_X11_add_1
theorem gl_c_M_add_2 : GoodIn zt wz_c_M_add_2 := gl_c_M_add_1
theorem gl_c_X11_add_3 : GoodIn zt wz_c_X11_add_3 := gl_c_X11_add_1
theorem gl_c_M_add_3 : GoodIn zt wz_c_M_add_3 := gl_c_M_add_1
theorem gl_c_X11_add_4 : GoodIn zt wz_c_X11_add_4 := gl_c_X11_add_1
theorem gl_c_M_add_4 : GoodIn zt wz_c_M_add_4 := gl_c_M_add_1
theorem gl_c_X11_add_5 : GoodIn zt wz_c_X11_add_5 := gl_c_X11_add_1
theorem gl_c_M_add_5 : GoodIn zt wz_c_M_add_5 := gl_c_M_add_1
theorem gl_c_X11_add_6 : GoodIn zt wz_c_X11_add_6 := gl_c_X11_add_1
theorem gl_c_M_add_6 : GoodIn zt wz_c_M_add_6 := gl_c_M_add_1
theorem gl_c_X11_add_7 : GoodIn zt wz_c_X11_add_7 := gl_c_X11_add_1
theorem gl_c_M_add_7 : GoodIn zt wz_c_M_add_7 := gl_c_M_add_1
theorem gl_c_X11_add_8 : GoodIn zt wz_c_X11_add_8 := gl_c_X11_add_1
theorem gl_c_M_add_8 : GoodIn zt wz_c_M_add_8 := gl_c_M_add_1
set_option maxHeartbeats 4000000 in
set_option maxRecDepth 100000 in
theorem gl_c_X11_armor_lo : GoodIn zt wz_c_X11_armor_lo := goodIn_ca (zz_sub (by decide +kernel) (by decide +kernel)) (goodIn_app (gc_2) (gl_nil _))
set_option maxHeartbeats 4000000 in
set_option maxRecDepth 100000 in
theorem gl_c_L_armor_lo : GoodIn zt wz_c_L_armor_lo := goodIn_ca (zz_sub (by decide +kernel) (by decide +kernel)) (goodIn_app (gl_c_X11_armor_lo) (gl_nil _))
set_option maxHeartbeats 4000000 in
set_option maxRecDepth 100000 in
theorem gl_c_M_armor_lo : GoodIn zt wz_c_M_armor_lo := goodIn_ca (zz_sub (by decide +kernel) (by decide +kernel)) (goodIn_app (gu_RX12) (gl_nil _))
theorem gl_c_X11_armor_hi : GoodIn zt wz_c_X11_armor_hi := gl_c_X11_armor_lo
theorem gl_c_L_armor_hi : GoodIn zt wz_c_L_armor_hi := gl_c_L_armor_lo
theorem gl_c_M_armor_hi : GoodIn zt wz_c_M_armor_hi := gl_c_M_armor_lo
set_option maxHeartbeats 4000000 in
set_option maxRecDepth 100000 in
theorem gl_c_coder_o : GoodIn zt wz_c_coder_o := goodIn_ca (zz_sub (by decide +kernel) (by decide +kernel)) (gl_nil _)
set_option maxHeartbeats 4000000 in
set_option maxRecDepth 100000 in
theorem gl_c_len_o_11 : GoodIn zt wz_c_len_o_11 := goodIn_ca (zz_sub (by decide +kernel) (by decide +kernel)) (goodIn_app (gl_c_coder_o) (gl_nil _))
set_option maxHeartbeats 4000000 in
set_option maxRecDepth 100000 in
theorem gl_c_isLatin1_o : GoodIn zt wz_c_isLatin1_o := goodIn_ca (zz_sub (by decide +kernel) (by decide +kernel)) (gl_nil _)
set_option maxHeartbeats 4000000 in
set_option maxRecDepth 100000 in
theorem gl_c_chkN_11 : GoodIn zt wz_c_chkN_11 := goodIn_ca (zz_sub (by decide +kernel) (by decide +kernel)) (gl_nil _)
theorem gl_c_chkR_11 : GoodIn zt wz_c_chkR_11 := gl_c_chkN_11
set_option maxHeartbeats 4000000 in
set_option maxRecDepth 100000 in
theorem gl_c_chk_11 : GoodIn zt wz_c_chk_11 := goodIn_ca (zz_sub (by decide +kernel) (by decide +kernel)) (goodIn_app (gl_c_chkN_11) (goodIn_app (gl_c_chkR_11) (gl_nil _)))
set_option maxHeartbeats 4000000 in
set_option maxRecDepth 100000 in
theorem gl_c_chr1_o_11 : GoodIn zt wz_c_chr1_o_11 := goodIn_ca (zz_sub (by decide +kernel) (by decide +kernel)) (goodIn_app (gl_c_chk_11) (gl_nil _))
set_option maxHeartbeats 4000000 in
set_option maxRecDepth 100000 in
theorem gl_c_chr_o_11 : GoodIn zt wz_c_chr_o_11 := goodIn_ca (zz_sub (by decide +kernel) (by decide +kernel)) (goodIn_app (gl_c_isLatin1_o) (goodIn_app (gl_c_chr1_o_11) (gl_nil _)))
set_option maxHeartbeats 4000000 in
set_option maxRecDepth 100000 in
theorem gl_c_X0_pushText_11 : GoodIn zt wz_c_X0_pushText_11 := goodIn_ca (zz_sub (by decide +kernel) (by decide +kernel)) (goodIn_app (gl_c_len_o_11) (goodIn_app (gl_c_chr_o_11) (goodIn_app (gl_c_X0_push) (gl_nil _))))
set_option maxHeartbeats 4000000 in
set_option maxRecDepth 100000 in
theorem gl_c_X9_label_0 : GoodIn zt wz_c_X9_label_0 := goodIn_ca (zz_sub (by decide +kernel) (by decide +kernel)) (gl_nil _)
theorem gl_c_len_o_5 : GoodIn zt wz_c_len_o_5 := gl_c_len_o_11
theorem gl_c_chkN_5 : GoodIn zt wz_c_chkN_5 := gl_c_chkN_11
theorem gl_c_chkR_5 : GoodIn zt wz_c_chkR_5 := gl_c_chkN_11
theorem gl_c_chk_5 : GoodIn zt wz_c_chk_5 := gl_c_chk_11
theorem gl_c_chr1_o_5 : GoodIn zt wz_c_chr1_o_5 := gl_c_chr1_o_11
theorem gl_c_chr_o_5 : GoodIn zt wz_c_chr_o_5 := gl_c_chr_o_11
theorem gl_c_X0_pushText_5 : GoodIn zt wz_c_X0_pushText_5 := gl_c_X0_pushText_11
set_option maxHeartbeats 4000000 in
set_option maxRecDepth 100000 in
theorem gl_c_X9_signOf_45 : GoodIn zt wz_c_X9_signOf_45 := goodIn_ca (zz_sub (by decide +kernel) (by decide +kernel)) (gl_nil _)
theorem gl_c_X9_signOf_48 : GoodIn zt wz_c_X9_signOf_48 := gl_c_X9_signOf_45
theorem gl_c_X9_signOf_19 : GoodIn zt wz_c_X9_signOf_19 := gl_c_X9_signOf_45
theorem gl_c_X9_signOf_14 : GoodIn zt wz_c_X9_signOf_14 := gl_c_X9_signOf_45
set_option maxHeartbeats 4000000 in
set_option maxRecDepth 100000 in
theorem gl_c_X9_writeGroup : GoodIn zt wz_c_X9_writeGroup := goodIn_ca (zz_sub (by decide +kernel) (by decide +kernel)) (goodIn_app (gl_c_X9_signOf_45) (goodIn_app (gl_c_X0_push) (goodIn_app (gl_c_X9_signOf_48) (goodIn_app (gl_c_X9_signOf_19) (goodIn_app (gl_c_X9_signOf_14) (gl_nil _))))))
theorem gl_c_len_o_9 : GoodIn zt wz_c_len_o_9 := gl_c_len_o_11
theorem gl_c_chkN_9 : GoodIn zt wz_c_chkN_9 := gl_c_chkN_11
theorem gl_c_chkR_9 : GoodIn zt wz_c_chkR_9 := gl_c_chkN_11
theorem gl_c_chk_9 : GoodIn zt wz_c_chk_9 := gl_c_chk_11
theorem gl_c_chr1_o_9 : GoodIn zt wz_c_chr1_o_9 := gl_c_chr1_o_11
theorem gl_c_chr_o_9 : GoodIn zt wz_c_chr_o_9 := gl_c_chr_o_11
theorem gl_c_X0_pushText_9 : GoodIn zt wz_c_X0_pushText_9 := gl_c_X0_pushText_11
set_option maxHeartbeats 4000000 in
set_option maxRecDepth 100000 in
theorem gl_c_X9_write_0 : GoodIn zt wz_c_X9_write_0 := goodIn_ca (zz_sub (by decide +kernel) (by decide +kernel)) (goodIn_app (gu_RX0) (goodIn_app (gl_c_X0_pushText_11) (goodIn_app (gl_c_X9_label_0) (goodIn_app (gl_c_X0_pushText_5) (goodIn_app (gl_c_X0_push) (goodIn_app (gl_c_X9_sumOf) (goodIn_app (gl_c_X9_writeGroup) (goodIn_app (gl_c_X0_pushText_9) (gl_nil _)))))))))
set_option maxHeartbeats 4000000 in
set_option maxRecDepth 100000 in
theorem gl_c_X11_armor_0 : GoodIn zt wz_c_X11_armor_0 := goodIn_ca (zz_sub (by decide +kernel) (by decide +kernel)) (goodIn_app (gu_RX11) (goodIn_app (gu_RX0) (goodIn_app (gl_c_X9_write_0) (gl_nil _))))
set_option maxHeartbeats 4000000 in
set_option maxRecDepth 100000 in
theorem gl_c_L_armor_0 : GoodIn zt wz_c_L_armor_0 := goodIn_ca (zz_sub (by decide +kernel) (by decide +kernel)) (goodIn_app (gl_c_X11_armor_0) (gl_nil _))
set_option maxHeartbeats 4000000 in
set_option maxRecDepth 100000 in
theorem gl_c_ASB_init : GoodIn zt wz_c_ASB_init := goodIn_ca (zz_sub (by decide +kernel) (by decide +kernel)) (goodIn_app (gu_RJ4) (gl_nil _))
set_option maxHeartbeats 4000000 in
set_option maxRecDepth 100000 in
theorem gl_c_SB_init : GoodIn zt wz_c_SB_init := goodIn_ca (zz_sub (by decide +kernel) (by decide +kernel)) (goodIn_app (gl_c_ASB_init) (gl_nil _))
set_option maxHeartbeats 4000000 in
set_option maxRecDepth 100000 in
theorem gl_c_ens_16_11 : GoodIn zt wz_c_ens_16_11 := goodIn_ca (zz_sub (by decide +kernel) (by decide +kernel)) (goodIn_app (gu_RJ4) (gl_nil _))
set_option maxHeartbeats 4000000 in
set_option maxRecDepth 100000 in
theorem gl_c_inflIf : GoodIn zt wz_c_inflIf := goodIn_ca (zz_sub (by decide +kernel) (by decide +kernel)) (goodIn_app (gu_RJ4) (goodIn_app (gl_c_coder_o) (gl_nil _)))
set_option maxHeartbeats 4000000 in
set_option maxRecDepth 100000 in
theorem gl_c_getBytes_6_0_16 : GoodIn zt wz_c_getBytes_6_0_16 := goodIn_ca (zz_sub (by decide +kernel) (by decide +kernel)) (goodIn_app (gl_c_coder_o) (gl_nil _))
set_option maxHeartbeats 4000000 in
set_option maxRecDepth 100000 in
theorem gl_c_putStr_6_0_16 : GoodIn zt wz_c_putStr_6_0_16 := goodIn_ca (zz_sub (by decide +kernel) (by decide +kernel)) (goodIn_app (gu_RJ4) (goodIn_app (gl_c_inflIf) (goodIn_app (gl_c_getBytes_6_0_16) (gl_nil _))))
set_option maxHeartbeats 4000000 in
set_option maxRecDepth 100000 in
theorem gl_c_ASBapp_6_0_16 : GoodIn zt wz_c_ASBapp_6_0_16 := goodIn_ca (zz_sub (by decide +kernel) (by decide +kernel)) (goodIn_app (gu_RJ4) (goodIn_app (gl_c_len_o_11) (goodIn_app (gl_c_ens_16_11) (goodIn_app (gl_c_putStr_6_0_16) (gl_nil _)))))
set_option maxHeartbeats 4000000 in
set_option maxRecDepth 100000 in
theorem gl_c_SBapp_6_0_16 : GoodIn zt wz_c_SBapp_6_0_16 := goodIn_ca (zz_sub (by decide +kernel) (by decide +kernel)) (goodIn_app (gl_c_ASBapp_6_0_16) (gl_nil _))
set_option maxHeartbeats 4000000 in
set_option maxRecDepth 100000 in
theorem gl_c_M_label_0 : GoodIn zt wz_c_M_label_0 := goodIn_ca (zz_sub (by decide +kernel) (by decide +kernel)) (gl_nil _)
set_option maxHeartbeats 4000000 in
set_option maxRecDepth 100000 in
theorem gl_c_newLen_22 : GoodIn zt wz_c_newLen_22 := goodIn_ca (zz_sub (by decide +kernel) (by decide +kernel)) (gl_nil _)
set_option maxHeartbeats 4000000 in
set_option maxRecDepth 100000 in
theorem gl_c_newCap_22 : GoodIn zt wz_c_newCap_22 := goodIn_ca (zz_sub (by decide +kernel) (by decide +kernel)) (goodIn_app (gu_RJ4) (goodIn_app (gl_c_newLen_22) (gl_nil _)))
set_option maxHeartbeats 4000000 in
set_option maxRecDepth 100000 in
theorem gl_c_copyOf_b0 : GoodIn zt wz_c_copyOf_b0 := goodIn_ca (zz_sub (by decide +kernel) (by decide +kernel)) (gl_nil _)
set_option maxHeartbeats 4000000 in
set_option maxRecDepth 100000 in
theorem gl_c_ens_b0 : GoodIn zt wz_c_ens_b0 := goodIn_ca (zz_sub (by decide +kernel) (by decide +kernel)) (goodIn_app (gu_RJ4) (goodIn_app (gl_c_newCap_22) (goodIn_app (gl_c_copyOf_b0) (gl_nil _))))
theorem gl_c_getBytes_7_11_34 : GoodIn zt wz_c_getBytes_7_11_34 := gl_c_getBytes_6_0_16
theorem gl_c_putStr_7_11_34 : GoodIn zt wz_c_putStr_7_11_34 := gl_c_putStr_6_0_16
set_option maxHeartbeats 4000000 in
set_option maxRecDepth 100000 in
theorem gl_c_ASBapp_b0 : GoodIn zt wz_c_ASBapp_b0 := goodIn_ca (zz_sub (by decide +kernel) (by decide +kernel)) (goodIn_app (gu_RJ4) (goodIn_app (gl_c_len_o_11) (goodIn_app (gl_c_ens_b0) (goodIn_app (gl_c_putStr_7_11_34) (gl_nil _)))))
set_option maxHeartbeats 4000000 in
set_option maxRecDepth 100000 in
theorem gl_c_SBapp_b0 : GoodIn zt wz_c_SBapp_b0 := goodIn_ca (zz_sub (by decide +kernel) (by decide +kernel)) (goodIn_app (gl_c_ASBapp_b0) (gl_nil _))
theorem gl_c_ens_34_27 : GoodIn zt wz_c_ens_34_27 := gl_c_ens_16_11
theorem gl_c_getBytes_10_22_34 : GoodIn zt wz_c_getBytes_10_22_34 := gl_c_getBytes_6_0_16
theorem gl_c_putStr_10_22_34 : GoodIn zt wz_c_putStr_10_22_34 := gl_c_putStr_6_0_16
theorem gl_c_ASBapp_10_22_34 : GoodIn zt wz_c_ASBapp_10_22_34 := gl_c_ASBapp_6_0_16
theorem gl_c_SBapp_10_22_34 : GoodIn zt wz_c_SBapp_10_22_34 := gl_c_SBapp_6_0_16
set_option maxHeartbeats 4000000 in
set_option maxRecDepth 100000 in
theorem gl_c_getValue : GoodIn zt wz_c_getValue := goodIn_ca (zz_sub (by decide +kernel) (by decide +kernel)) (goodIn_app (gu_RJ4) (gl_nil _))
set_option maxHeartbeats 4000000 in
set_option maxRecDepth 100000 in
theorem gl_c_ASB_length : GoodIn zt wz_c_ASB_length := goodIn_ca (zz_sub (by decide +kernel) (by decide +kernel)) (goodIn_app (gu_RJ4) (gl_nil _))
set_option maxHeartbeats 4000000 in
set_option maxRecDepth 100000 in
theorem gl_c_SB_length : GoodIn zt wz_c_SB_length := goodIn_ca (zz_sub (by decide +kernel) (by decide +kernel)) (goodIn_app (gl_c_ASB_length) (gl_nil _))
set_option maxHeartbeats 4000000 in
set_option maxRecDepth 100000 in
theorem gl_c_ASB_isLatin1 : GoodIn zt wz_c_ASB_isLatin1 := goodIn_ca (zz_sub (by decide +kernel) (by decide +kernel)) (goodIn_app (gu_RJ4) (gl_nil _))
set_option maxHeartbeats 4000000 in
set_option maxRecDepth 100000 in
theorem gl_c_chkLen_27 : GoodIn zt wz_c_chkLen_27 := goodIn_ca (zz_sub (by decide +kernel) (by decide +kernel)) (gl_nil _)
set_option maxHeartbeats 4000000 in
set_option maxRecDepth 100000 in
theorem gl_c_cRB_b0 : GoodIn zt wz_c_cRB_b0 := goodIn_ca (zz_sub (by decide +kernel) (by decide +kernel)) (goodIn_app (gl_c_chkLen_27) (gl_nil _))
set_option maxHeartbeats 4000000 in
set_option maxRecDepth 100000 in
theorem gl_c_cR_b0 : GoodIn zt wz_c_cR_b0 := goodIn_ca (zz_sub (by decide +kernel) (by decide +kernel)) (goodIn_app (gl_c_cRB_b0) (gl_nil _))
set_option maxHeartbeats 4000000 in
set_option maxRecDepth 100000 in
theorem gl_c_Si1_b0 : GoodIn zt wz_c_Si1_b0 := goodIn_ca (zz_sub (by decide +kernel) (by decide +kernel)) (goodIn_app (gu_RJ0) (goodIn_app (gl_c_getValue) (goodIn_app (gl_c_SB_length) (goodIn_app (gl_c_ASB_isLatin1) (goodIn_app (gl_c_cR_b0) (gl_nil _))))))
set_option maxHeartbeats 4000000 in
set_option maxRecDepth 100000 in
theorem gl_c_Si2_b0 : GoodIn zt wz_c_Si2_b0 := goodIn_ca (zz_sub (by decide +kernel) (by decide +kernel)) (goodIn_app (gl_c_Si1_b0) (gl_nil _))
set_option maxHeartbeats 4000000 in
set_option maxRecDepth 100000 in
theorem gl_c_toS_b0 : GoodIn zt wz_c_toS_b0 := goodIn_ca (zz_sub (by decide +kernel) (by decide +kernel)) (goodIn_app (gu_RJ0) (goodIn_app (gl_c_Si2_b0) (gl_nil _)))
set_option maxHeartbeats 4000000 in
set_option maxRecDepth 100000 in
theorem gl_c_coder_w : GoodIn zt wz_c_coder_w := goodIn_ca (zz_sub (by decide +kernel) (by decide +kernel)) (goodIn_app (gu_RJ0) (gl_nil _))
set_option maxHeartbeats 4000000 in
set_option maxRecDepth 100000 in
theorem gl_c_len_w_27 : GoodIn zt wz_c_len_w_27 := goodIn_ca (zz_sub (by decide +kernel) (by decide +kernel)) (goodIn_app (gu_RJ0) (goodIn_app (gl_c_coder_w) (gl_nil _)))
set_option maxHeartbeats 4000000 in
set_option maxRecDepth 100000 in
theorem gl_c_isLatin1_w : GoodIn zt wz_c_isLatin1_w := goodIn_ca (zz_sub (by decide +kernel) (by decide +kernel)) (goodIn_app (gu_RJ0) (gl_nil _))
theorem gl_c_chkN_27 : GoodIn zt wz_c_chkN_27 := gl_c_chkN_11
theorem gl_c_chkR_27 : GoodIn zt wz_c_chkR_27 := gl_c_chkN_11
theorem gl_c_chk_27 : GoodIn zt wz_c_chk_27 := gl_c_chk_11
theorem gl_c_chr1_w_27 : GoodIn zt wz_c_chr1_w_27 := gl_c_chr1_o_11
set_option maxHeartbeats 4000000 in
set_option maxRecDepth 100000 in
theorem gl_c_chr_w_27 : GoodIn zt wz_c_chr_w_27 := goodIn_ca (zz_sub (by decide +kernel) (by decide +kernel)) (goodIn_app (gu_RJ0) (goodIn_app (gl_c_isLatin1_w) (goodIn_app (gl_c_chr1_w_27) (gl_nil _))))
set_option maxHeartbeats 4000000 in
set_option maxRecDepth 100000 in
theorem gl_c_M_put : GoodIn zt wz_c_M_put := goodIn_ca (zz_sub (by decide +kernel) (by decide +kernel)) (goodIn_app (gu_RX12) (gl_nil _))
set_option maxHeartbeats 4000000 in
set_option maxRecDepth 100000 in
theorem gl_c_M_putText_27 : GoodIn zt wz_c_M_putText_27 := goodIn_ca (zz_sub (by decide +kernel) (by decide +kernel)) (goodIn_app (gl_c_len_w_27) (goodIn_app (gl_c_chr_w_27) (goodIn_app (gl_c_M_put) (gl_nil _))))
set_option maxHeartbeats 4000000 in
set_option maxRecDepth 100000 in
theorem gl_c_M_signOf_45 : GoodIn zt wz_c_M_signOf_45 := goodIn_ca (zz_sub (by decide +kernel) (by decide +kernel)) (gl_nil _)
theorem gl_c_M_signOf_48 : GoodIn zt wz_c_M_signOf_48 := gl_c_M_signOf_45
theorem gl_c_M_signOf_19 : GoodIn zt wz_c_M_signOf_19 := gl_c_M_signOf_45
theorem gl_c_M_signOf_14 : GoodIn zt wz_c_M_signOf_14 := gl_c_M_signOf_45
theorem gl_c_ens_16_9 : GoodIn zt wz_c_ens_16_9 := gl_c_ens_16_11
theorem gl_c_getBytes_11_0_16 : GoodIn zt wz_c_getBytes_11_0_16 := gl_c_getBytes_6_0_16
theorem gl_c_putStr_11_0_16 : GoodIn zt wz_c_putStr_11_0_16 := gl_c_putStr_6_0_16
theorem gl_c_ASBapp_11_0_16 : GoodIn zt wz_c_ASBapp_11_0_16 := gl_c_ASBapp_6_0_16
theorem gl_c_SBapp_11_0_16 : GoodIn zt wz_c_SBapp_11_0_16 := gl_c_SBapp_6_0_16
theorem gl_c_newLen_20 : GoodIn zt wz_c_newLen_20 := gl_c_newLen_22
theorem gl_c_newCap_20 : GoodIn zt wz_c_newCap_20 := gl_c_newCap_22
theorem gl_c_copyOf_e0 : GoodIn zt wz_c_copyOf_e0 := gl_c_copyOf_b0
theorem gl_c_ens_e0 : GoodIn zt wz_c_ens_e0 := gl_c_ens_b0
theorem gl_c_getBytes_7_9_34 : GoodIn zt wz_c_getBytes_7_9_34 := gl_c_getBytes_6_0_16
theorem gl_c_putStr_7_9_34 : GoodIn zt wz_c_putStr_7_9_34 := gl_c_putStr_6_0_16
theorem gl_c_ASBapp_e0 : GoodIn zt wz_c_ASBapp_e0 := gl_c_ASBapp_b0
theorem gl_c_SBapp_e0 : GoodIn zt wz_c_SBapp_e0 := gl_c_SBapp_b0
theorem gl_c_ens_34_25 : GoodIn zt wz_c_ens_34_25 := gl_c_ens_16_11
theorem gl_c_getBytes_10_20_34 : GoodIn zt wz_c_getBytes_10_20_34 := gl_c_getBytes_6_0_16
theorem gl_c_putStr_10_20_34 : GoodIn zt wz_c_putStr_10_20_34 := gl_c_putStr_6_0_16
theorem gl_c_ASBapp_10_20_34 : GoodIn zt wz_c_ASBapp_10_20_34 := gl_c_ASBapp_6_0_16
theorem gl_c_SBapp_10_20_34 : GoodIn zt wz_c_SBapp_10_20_34 := gl_c_SBapp_6_0_16
theorem gl_c_chkLen_25 : GoodIn zt wz_c_chkLen_25 := gl_c_chkLen_27
theorem gl_c_cRB_e0 : GoodIn zt wz_c_cRB_e0 := gl_c_cRB_b0
theorem gl_c_cR_e0 : GoodIn zt wz_c_cR_e0 := gl_c_cR_b0
theorem gl_c_Si1_e0 : GoodIn zt wz_c_Si1_e0 := gl_c_Si1_b0
theorem gl_c_Si2_e0 : GoodIn zt wz_c_Si2_e0 := gl_c_Si2_b0
theorem gl_c_toS_e0 : GoodIn zt wz_c_toS_e0 := gl_c_toS_b0
theorem gl_c_len_w_25 : GoodIn zt wz_c_len_w_25 := gl_c_len_w_27
theorem gl_c_chkN_25 : GoodIn zt wz_c_chkN_25 := gl_c_chkN_11
theorem gl_c_chkR_25 : GoodIn zt wz_c_chkR_25 := gl_c_chkN_11
theorem gl_c_chk_25 : GoodIn zt wz_c_chk_25 := gl_c_chk_11
theorem gl_c_chr1_w_25 : GoodIn zt wz_c_chr1_w_25 := gl_c_chr1_o_11
theorem gl_c_chr_w_25 : GoodIn zt wz_c_chr_w_25 := gl_c_chr_w_27
theorem gl_c_M_putText_25 : GoodIn zt wz_c_M_putText_25 := gl_c_M_putText_27
set_option maxHeartbeats 4000000 in
set_option maxRecDepth 100000 in
theorem gl_c_M_putSigns_0 : GoodIn zt wz_c_M_putSigns_0 := goodIn_ca (zz_sub (by decide +kernel) (by decide +kernel)) (goodIn_app (gu_RJ4) (goodIn_app (gl_c_SB_init) (goodIn_app (gl_c_SBapp_6_0_16) (goodIn_app (gl_c_M_label_0) (goodIn_app (gl_c_SBapp_b0) (goodIn_app (gl_c_SBapp_10_22_34) (goodIn_app (gl_c_toS_b0) (goodIn_app (gl_c_M_putText_27) (goodIn_app (gl_c_M_put) (goodIn_app (gl_c_M_sumOf) (goodIn_app (gl_c_M_signOf_45) (goodIn_app (gl_c_M_signOf_48) (goodIn_app (gl_c_M_signOf_19) (goodIn_app (gl_c_M_signOf_14) (goodIn_app (gl_c_SBapp_11_0_16) (goodIn_app (gl_c_SBapp_e0) (goodIn_app (gl_c_SBapp_10_20_34) (goodIn_app (gl_c_toS_e0) (goodIn_app (gl_c_M_putText_25) (gl_nil _))))))))))))))))))))
set_option maxHeartbeats 4000000 in
set_option maxRecDepth 100000 in
theorem gl_c_M_armor_0 : GoodIn zt wz_c_M_armor_0 := goodIn_ca (zz_sub (by decide +kernel) (by decide +kernel)) (goodIn_app (gu_RX12) (goodIn_app (gl_c_M_part0) (goodIn_app (gl_c_M_putSigns_0) (gl_nil _))))
theorem gl_c_X9_label_1 : GoodIn zt wz_c_X9_label_1 := gl_c_X9_label_0
theorem gl_c_len_o_4 : GoodIn zt wz_c_len_o_4 := gl_c_len_o_11
theorem gl_c_chkN_4 : GoodIn zt wz_c_chkN_4 := gl_c_chkN_11
theorem gl_c_chkR_4 : GoodIn zt wz_c_chkR_4 := gl_c_chkN_11
theorem gl_c_chk_4 : GoodIn zt wz_c_chk_4 := gl_c_chk_11
theorem gl_c_chr1_o_4 : GoodIn zt wz_c_chr1_o_4 := gl_c_chr1_o_11
theorem gl_c_chr_o_4 : GoodIn zt wz_c_chr_o_4 := gl_c_chr_o_11
theorem gl_c_X0_pushText_4 : GoodIn zt wz_c_X0_pushText_4 := gl_c_X0_pushText_11
set_option maxHeartbeats 4000000 in
set_option maxRecDepth 100000 in
theorem gl_c_X9_write_1 : GoodIn zt wz_c_X9_write_1 := goodIn_ca (zz_sub (by decide +kernel) (by decide +kernel)) (goodIn_app (gu_RX0) (goodIn_app (gl_c_X0_pushText_11) (goodIn_app (gl_c_X9_label_1) (goodIn_app (gl_c_X0_pushText_4) (goodIn_app (gl_c_X0_pushText_5) (goodIn_app (gl_c_X0_push) (goodIn_app (gl_c_X9_sumOf) (goodIn_app (gl_c_X9_writeGroup) (goodIn_app (gl_c_X0_pushText_9) (gl_nil _))))))))))
set_option maxHeartbeats 4000000 in
set_option maxRecDepth 100000 in
theorem gl_c_X11_armor_1 : GoodIn zt wz_c_X11_armor_1 := goodIn_ca (zz_sub (by decide +kernel) (by decide +kernel)) (goodIn_app (gu_RX11) (goodIn_app (gu_RX0) (goodIn_app (gl_c_X9_write_1) (gl_nil _))))
set_option maxHeartbeats 4000000 in
set_option maxRecDepth 100000 in
theorem gl_c_L_armor_1 : GoodIn zt wz_c_L_armor_1 := goodIn_ca (zz_sub (by decide +kernel) (by decide +kernel)) (goodIn_app (gl_c_X11_armor_1) (gl_nil _))
theorem gl_c_M_label_1 : GoodIn zt wz_c_M_label_1 := gl_c_M_label_0
theorem gl_c_ens_16_15 : GoodIn zt wz_c_ens_16_15 := gl_c_ens_16_11
theorem gl_c_getBytes_8_11_16 : GoodIn zt wz_c_getBytes_8_11_16 := gl_c_getBytes_6_0_16
theorem gl_c_putStr_8_11_16 : GoodIn zt wz_c_putStr_8_11_16 := gl_c_putStr_6_0_16
theorem gl_c_ASBapp_8_11_16 : GoodIn zt wz_c_ASBapp_8_11_16 := gl_c_ASBapp_6_0_16
theorem gl_c_SBapp_8_11_16 : GoodIn zt wz_c_SBapp_8_11_16 := gl_c_SBapp_6_0_16
theorem gl_c_copyOf_b1 : GoodIn zt wz_c_copyOf_b1 := gl_c_copyOf_b0
theorem gl_c_ens_b1 : GoodIn zt wz_c_ens_b1 := gl_c_ens_b0
theorem gl_c_getBytes_10_15_34 : GoodIn zt wz_c_getBytes_10_15_34 := gl_c_getBytes_6_0_16
theorem gl_c_putStr_10_15_34 : GoodIn zt wz_c_putStr_10_15_34 := gl_c_putStr_6_0_16
theorem gl_c_ASBapp_b1 : GoodIn zt wz_c_ASBapp_b1 := gl_c_ASBapp_b0
theorem gl_c_SBapp_b1 : GoodIn zt wz_c_SBapp_b1 := gl_c_SBapp_b0
theorem gl_c_chkLen_20 : GoodIn zt wz_c_chkLen_20 := gl_c_chkLen_27
theorem gl_c_cRB_b1 : GoodIn zt wz_c_cRB_b1 := gl_c_cRB_b0
theorem gl_c_cR_b1 : GoodIn zt wz_c_cR_b1 := gl_c_cR_b0
theorem gl_c_Si1_b1 : GoodIn zt wz_c_Si1_b1 := gl_c_Si1_b0
theorem gl_c_Si2_b1 : GoodIn zt wz_c_Si2_b1 := gl_c_Si2_b0
theorem gl_c_toS_b1 : GoodIn zt wz_c_toS_b1 := gl_c_toS_b0
theorem gl_c_len_w_20 : GoodIn zt wz_c_len_w_20 := gl_c_len_w_27
theorem gl_c_chkN_20 : GoodIn zt wz_c_chkN_20 := gl_c_chkN_11
theorem gl_c_chkR_20 : GoodIn zt wz_c_chkR_20 := gl_c_chkN_11
theorem gl_c_chk_20 : GoodIn zt wz_c_chk_20 := gl_c_chk_11
theorem gl_c_chr1_w_20 : GoodIn zt wz_c_chr1_w_20 := gl_c_chr1_o_11
theorem gl_c_chr_w_20 : GoodIn zt wz_c_chr_w_20 := gl_c_chr_w_27
theorem gl_c_M_putText_20 : GoodIn zt wz_c_M_putText_20 := gl_c_M_putText_27
theorem gl_c_ens_16_13 : GoodIn zt wz_c_ens_16_13 := gl_c_ens_16_11
theorem gl_c_getBytes_8_9_16 : GoodIn zt wz_c_getBytes_8_9_16 := gl_c_getBytes_6_0_16
theorem gl_c_putStr_8_9_16 : GoodIn zt wz_c_putStr_8_9_16 := gl_c_putStr_6_0_16
theorem gl_c_ASBapp_8_9_16 : GoodIn zt wz_c_ASBapp_8_9_16 := gl_c_ASBapp_6_0_16
theorem gl_c_SBapp_8_9_16 : GoodIn zt wz_c_SBapp_8_9_16 := gl_c_SBapp_6_0_16
theorem gl_c_newLen_18 : GoodIn zt wz_c_newLen_18 := gl_c_newLen_22
theorem gl_c_newCap_18 : GoodIn zt wz_c_newCap_18 := gl_c_newCap_22
theorem gl_c_copyOf_e1 : GoodIn zt wz_c_copyOf_e1 := gl_c_copyOf_b0
theorem gl_c_ens_e1 : GoodIn zt wz_c_ens_e1 := gl_c_ens_b0
theorem gl_c_getBytes_10_13_34 : GoodIn zt wz_c_getBytes_10_13_34 := gl_c_getBytes_6_0_16
theorem gl_c_putStr_10_13_34 : GoodIn zt wz_c_putStr_10_13_34 := gl_c_putStr_6_0_16
theorem gl_c_ASBapp_e1 : GoodIn zt wz_c_ASBapp_e1 := gl_c_ASBapp_b0
theorem gl_c_SBapp_e1 : GoodIn zt wz_c_SBapp_e1 := gl_c_SBapp_b0
theorem gl_c_chkLen_18 : GoodIn zt wz_c_chkLen_18 := gl_c_chkLen_27
theorem gl_c_cRB_e1 : GoodIn zt wz_c_cRB_e1 := gl_c_cRB_b0
theorem gl_c_cR_e1 : GoodIn zt wz_c_cR_e1 := gl_c_cR_b0
theorem gl_c_Si1_e1 : GoodIn zt wz_c_Si1_e1 := gl_c_Si1_b0
theorem gl_c_Si2_e1 : GoodIn zt wz_c_Si2_e1 := gl_c_Si2_b0
theorem gl_c_toS_e1 : GoodIn zt wz_c_toS_e1 := gl_c_toS_b0
theorem gl_c_len_w_18 : GoodIn zt wz_c_len_w_18 := gl_c_len_w_27
theorem gl_c_chkN_18 : GoodIn zt wz_c_chkN_18 := gl_c_chkN_11
theorem gl_c_chkR_18 : GoodIn zt wz_c_chkR_18 := gl_c_chkN_11
theorem gl_c_chk_18 : GoodIn zt wz_c_chk_18 := gl_c_chk_11
theorem gl_c_chr1_w_18 : GoodIn zt wz_c_chr1_w_18 := gl_c_chr1_o_11
theorem gl_c_chr_w_18 : GoodIn zt wz_c_chr_w_18 := gl_c_chr_w_27
theorem gl_c_M_putText_18 : GoodIn zt wz_c_M_putText_18 := gl_c_M_putText_27
set_option maxHeartbeats 4000000 in
set_option maxRecDepth 100000 in
theorem gl_c_M_putSigns_1 : GoodIn zt wz_c_M_putSigns_1 := goodIn_ca (zz_sub (by decide +kernel) (by decide +kernel)) (goodIn_app (gu_RJ4) (goodIn_app (gl_c_SB_init) (goodIn_app (gl_c_SBapp_6_0_16) (goodIn_app (gl_c_M_label_1) (goodIn_app (gl_c_SBapp_8_11_16) (goodIn_app (gl_c_SBapp_b1) (goodIn_app (gl_c_toS_b1) (goodIn_app (gl_c_M_putText_20) (goodIn_app (gl_c_M_put) (goodIn_app (gl_c_M_sumOf) (goodIn_app (gl_c_M_signOf_45) (goodIn_app (gl_c_M_signOf_48) (goodIn_app (gl_c_M_signOf_19) (goodIn_app (gl_c_M_signOf_14) (goodIn_app (gl_c_SBapp_11_0_16) (goodIn_app (gl_c_SBapp_8_9_16) (goodIn_app (gl_c_SBapp_e1) (goodIn_app (gl_c_toS_e1) (goodIn_app (gl_c_M_putText_18) (gl_nil _))))))))))))))))))))
set_option maxHeartbeats 4000000 in
set_option maxRecDepth 100000 in
theorem gl_c_M_armor_1 : GoodIn zt wz_c_M_armor_1 := goodIn_ca (zz_sub (by decide +kernel) (by decide +kernel)) (goodIn_app (gu_RX12) (goodIn_app (gl_c_M_part0) (goodIn_app (gl_c_M_putSigns_1) (gl_nil _))))
theorem gl_c_X9_label_2 : GoodIn zt wz_c_X9_label_2 := gl_c_X9_label_0
theorem gl_c_len_o_13 : GoodIn zt wz_c_len_o_13 := gl_c_len_o_11
theorem gl_c_chkN_13 : GoodIn zt wz_c_chkN_13 := gl_c_chkN_11
theorem gl_c_chkR_13 : GoodIn zt wz_c_chkR_13 := gl_c_chkN_11
theorem gl_c_chk_13 : GoodIn zt wz_c_chk_13 := gl_c_chk_11
theorem gl_c_chr1_o_13 : GoodIn zt wz_c_chr1_o_13 := gl_c_chr1_o_11
theorem gl_c_chr_o_13 : GoodIn zt wz_c_chr_o_13 := gl_c_chr_o_11
theorem gl_c_X0_pushText_13 : GoodIn zt wz_c_X0_pushText_13 := gl_c_X0_pushText_11
theorem gl_c_X9_write_2 : GoodIn zt wz_c_X9_write_2 := gl_c_X9_write_1
theorem gl_c_X11_armor_2 : GoodIn zt wz_c_X11_armor_2 := gl_c_X11_armor_1
theorem gl_c_L_armor_2 : GoodIn zt wz_c_L_armor_2 := gl_c_L_armor_1
theorem gl_c_M_label_2 : GoodIn zt wz_c_M_label_2 := gl_c_M_label_0
theorem gl_c_newLen_24 : GoodIn zt wz_c_newLen_24 := gl_c_newLen_22
theorem gl_c_newCap_24 : GoodIn zt wz_c_newCap_24 := gl_c_newCap_22
theorem gl_c_ens_b2 : GoodIn zt wz_c_ens_b2 := gl_c_ens_b0
theorem gl_c_getBytes_9_11_34 : GoodIn zt wz_c_getBytes_9_11_34 := gl_c_getBytes_6_0_16
theorem gl_c_putStr_9_11_34 : GoodIn zt wz_c_putStr_9_11_34 := gl_c_putStr_6_0_16
theorem gl_c_ASBapp_b2 : GoodIn zt wz_c_ASBapp_b2 := gl_c_ASBapp_b0
theorem gl_c_SBapp_b2 : GoodIn zt wz_c_SBapp_b2 := gl_c_SBapp_b0
theorem gl_c_ens_34_29 : GoodIn zt wz_c_ens_34_29 := gl_c_ens_16_11
theorem gl_c_getBytes_10_24_34 : GoodIn zt wz_c_getBytes_10_24_34 := gl_c_getBytes_6_0_16
theorem gl_c_putStr_10_24_34 : GoodIn zt wz_c_putStr_10_24_34 := gl_c_putStr_6_0_16
theorem gl_c_ASBapp_10_24_34 : GoodIn zt wz_c_ASBapp_10_24_34 := gl_c_ASBapp_6_0_16
theorem gl_c_SBapp_10_24_34 : GoodIn zt wz_c_SBapp_10_24_34 := gl_c_SBapp_6_0_16
theorem gl_c_chkLen_29 : GoodIn zt wz_c_chkLen_29 := gl_c_chkLen_27
theorem gl_c_cRB_b2 : GoodIn zt wz_c_cRB_b2 := gl_c_cRB_b0
theorem gl_c_cR_b2 : GoodIn zt wz_c_cR_b2 := gl_c_cR_b0
theorem gl_c_Si1_b2 : GoodIn zt wz_c_Si1_b2 := gl_c_Si1_b0
theorem gl_c_Si2_b2 : GoodIn zt wz_c_Si2_b2 := gl_c_Si2_b0
theorem gl_c_toS_b2 : GoodIn zt wz_c_toS_b2 := gl_c_toS_b0
theorem gl_c_len_w_29 : GoodIn zt wz_c_len_w_29 := gl_c_len_w_27
theorem gl_c_chkN_29 : GoodIn zt wz_c_chkN_29 := gl_c_chkN_11
theorem gl_c_chkR_29 : GoodIn zt wz_c_chkR_29 := gl_c_chkN_11
theorem gl_c_chk_29 : GoodIn zt wz_c_chk_29 := gl_c_chk_11
theorem gl_c_chr1_w_29 : GoodIn zt wz_c_chr1_w_29 := gl_c_chr1_o_11
theorem gl_c_chr_w_29 : GoodIn zt wz_c_chr_w_29 := gl_c_chr_w_27
theorem gl_c_M_putText_29 : GoodIn zt wz_c_M_putText_29 := gl_c_M_putText_27
theorem gl_c_ens_e2 : GoodIn zt wz_c_ens_e2 := gl_c_ens_b0
theorem gl_c_getBytes_9_9_34 : GoodIn zt wz_c_getBytes_9_9_34 := gl_c_getBytes_6_0_16
theorem gl_c_putStr_9_9_34 : GoodIn zt wz_c_putStr_9_9_34 := gl_c_putStr_6_0_16
theorem gl_c_ASBapp_e2 : GoodIn zt wz_c_ASBapp_e2 := gl_c_ASBapp_b0
theorem gl_c_SBapp_e2 : GoodIn zt wz_c_SBapp_e2 := gl_c_SBapp_b0
theorem gl_c_cRB_e2 : GoodIn zt wz_c_cRB_e2 := gl_c_cRB_b0
theorem gl_c_cR_e2 : GoodIn zt wz_c_cR_e2 := gl_c_cR_b0
theorem gl_c_Si1_e2 : GoodIn zt wz_c_Si1_e2 := gl_c_Si1_b0
theorem gl_c_Si2_e2 : GoodIn zt wz_c_Si2_e2 := gl_c_Si2_b0
theorem gl_c_toS_e2 : GoodIn zt wz_c_toS_e2 := gl_c_toS_b0
theorem gl_c_M_putSigns_2 : GoodIn zt wz_c_M_putSigns_2 := gl_c_M_putSigns_0
theorem gl_c_M_armor_2 : GoodIn zt wz_c_M_armor_2 := gl_c_M_armor_0
set_option maxHeartbeats 4000000 in
set_option maxRecDepth 100000 in
theorem gl_c_X11_hash_w : GoodIn zt wz_c_X11_hash_w := goodIn_ca (zz_sub (by decide +kernel) (by decide +kernel)) (goodIn_app (gc_2) (gl_nil _))
set_option maxHeartbeats 4000000 in
set_option maxRecDepth 100000 in
theorem gl_c_L_hash_w : GoodIn zt wz_c_L_hash_w := goodIn_ca (zz_sub (by decide +kernel) (by decide +kernel)) (goodIn_app (gl_c_X11_hash_w) (gl_nil _))
set_option maxHeartbeats 4000000 in
set_option maxRecDepth 100000 in
theorem gl_c_M_hash_w : GoodIn zt wz_c_M_hash_w := goodIn_ca (zz_sub (by decide +kernel) (by decide +kernel)) (goodIn_app (gu_RX12) (gl_nil _))
set_option maxHeartbeats 4000000 in
set_option maxRecDepth 100000 in
theorem gl_c_X11_hash_1lo : GoodIn zt wz_c_X11_hash_1lo := goodIn_ca (zz_sub (by decide +kernel) (by decide +kernel)) (goodIn_app (gc_0) (gl_nil _))
set_option maxHeartbeats 4000000 in
set_option maxRecDepth 100000 in
theorem gl_c_L_hash_1lo : GoodIn zt wz_c_L_hash_1lo := goodIn_ca (zz_sub (by decide +kernel) (by decide +kernel)) (goodIn_app (gl_c_X11_hash_1lo) (gl_nil _))
theorem gl_c_M_hash_1lo : GoodIn zt wz_c_M_hash_1lo := gl_c_M_hash_w
theorem gl_c_X11_hash_1hi : GoodIn zt wz_c_X11_hash_1hi := gl_c_X11_hash_1lo
theorem gl_c_L_hash_1hi : GoodIn zt wz_c_L_hash_1hi := gl_c_L_hash_1lo
theorem gl_c_M_hash_1hi : GoodIn zt wz_c_M_hash_1hi := gl_c_M_hash_w
set_option maxHeartbeats 4000000 in
set_option maxRecDepth 100000 in
theorem gl_c_num4_0 : GoodIn zt wz_c_num4_0 := goodIn_ca (zz_sub (by decide +kernel) (by decide +kernel)) (goodIn_app (gu_RX0) (gl_nil _))
set_option maxHeartbeats 4000000 in
set_option maxRecDepth 100000 in
theorem gl_c_X1_wordOf_0 : GoodIn zt wz_c_X1_wordOf_0 := goodIn_ca (zz_sub (by decide +kernel) (by decide +kernel)) (goodIn_app (gu_RX0) (goodIn_app (gl_c_num4_0) (gl_nil _)))
theorem gl_c_num4_4 : GoodIn zt wz_c_num4_4 := gl_c_num4_0
theorem gl_c_X1_wordOf_4 : GoodIn zt wz_c_X1_wordOf_4 := gl_c_X1_wordOf_0
theorem gl_c_num4_8 : GoodIn zt wz_c_num4_8 := gl_c_num4_0
theorem gl_c_X1_wordOf_8 : GoodIn zt wz_c_X1_wordOf_8 := gl_c_X1_wordOf_0
theorem gl_c_num4_12 : GoodIn zt wz_c_num4_12 := gl_c_num4_0
theorem gl_c_X1_wordOf_12 : GoodIn zt wz_c_X1_wordOf_12 := gl_c_X1_wordOf_0
theorem gl_c_num4_16 : GoodIn zt wz_c_num4_16 := gl_c_num4_0
theorem gl_c_X1_wordOf_16 : GoodIn zt wz_c_X1_wordOf_16 := gl_c_X1_wordOf_0
theorem gl_c_num4_20 : GoodIn zt wz_c_num4_20 := gl_c_num4_0
theorem gl_c_X1_wordOf_20 : GoodIn zt wz_c_X1_wordOf_20 := gl_c_X1_wordOf_0
theorem gl_c_num4_24 : GoodIn zt wz_c_num4_24 := gl_c_num4_0
theorem gl_c_X1_wordOf_24 : GoodIn zt wz_c_X1_wordOf_24 := gl_c_X1_wordOf_0
theorem gl_c_num4_28 : GoodIn zt wz_c_num4_28 := gl_c_num4_0
theorem gl_c_X1_wordOf_28 : GoodIn zt wz_c_X1_wordOf_28 := gl_c_X1_wordOf_0
theorem gl_c_num4_32 : GoodIn zt wz_c_num4_32 := gl_c_num4_0
theorem gl_c_X1_wordOf_32 : GoodIn zt wz_c_X1_wordOf_32 := gl_c_X1_wordOf_0
theorem gl_c_num4_36 : GoodIn zt wz_c_num4_36 := gl_c_num4_0
theorem gl_c_X1_wordOf_36 : GoodIn zt wz_c_X1_wordOf_36 := gl_c_X1_wordOf_0
theorem gl_c_num4_40 : GoodIn zt wz_c_num4_40 := gl_c_num4_0
theorem gl_c_X1_wordOf_40 : GoodIn zt wz_c_X1_wordOf_40 := gl_c_X1_wordOf_0
theorem gl_c_num4_44 : GoodIn zt wz_c_num4_44 := gl_c_num4_0
theorem gl_c_X1_wordOf_44 : GoodIn zt wz_c_X1_wordOf_44 := gl_c_X1_wordOf_0
theorem gl_c_num4_48 : GoodIn zt wz_c_num4_48 := gl_c_num4_0
theorem gl_c_X1_wordOf_48 : GoodIn zt wz_c_X1_wordOf_48 := gl_c_X1_wordOf_0
theorem gl_c_num4_52 : GoodIn zt wz_c_num4_52 := gl_c_num4_0
theorem gl_c_X1_wordOf_52 : GoodIn zt wz_c_X1_wordOf_52 := gl_c_X1_wordOf_0
theorem gl_c_num4_56 : GoodIn zt wz_c_num4_56 := gl_c_num4_0
theorem gl_c_X1_wordOf_56 : GoodIn zt wz_c_X1_wordOf_56 := gl_c_X1_wordOf_0
theorem gl_c_num4_60 : GoodIn zt wz_c_num4_60 := gl_c_num4_0
theorem gl_c_X1_wordOf_60 : GoodIn zt wz_c_X1_wordOf_60 := gl_c_X1_wordOf_0
set_option maxHeartbeats 4000000 in
set_option maxRecDepth 100000 in
theorem gl_c_X1_mixFirst : GoodIn zt wz_c_X1_mixFirst := goodIn_ca (zz_sub (by decide +kernel) (by decide +kernel)) (goodIn_app (gu_RX1) (gl_nil _))
set_option maxHeartbeats 4000000 in
set_option maxRecDepth 100000 in
theorem gl_c_X1_make_1 : GoodIn zt wz_c_X1_make_1 := goodIn_ca (zz_sub (by decide +kernel) (by decide +kernel)) (goodIn_app (gu_RX1) (goodIn_app (gu_RX0) (goodIn_app (gl_c_X1_wordOf_0) (goodIn_app (gl_c_X1_wordOf_4) (goodIn_app (gl_c_X1_wordOf_8) (goodIn_app (gl_c_X1_wordOf_12) (goodIn_app (gl_c_X1_wordOf_16) (goodIn_app (gl_c_X1_wordOf_20) (goodIn_app (gl_c_X1_wordOf_24) (goodIn_app (gl_c_X1_wordOf_28) (goodIn_app (gl_c_X1_wordOf_32) (goodIn_app (gl_c_X1_wordOf_36) (goodIn_app (gl_c_X1_wordOf_40) (goodIn_app (gl_c_X1_wordOf_44) (goodIn_app (gl_c_X1_wordOf_48) (goodIn_app (gl_c_X1_wordOf_52) (goodIn_app (gl_c_X1_wordOf_56) (goodIn_app (gl_c_X1_wordOf_60) (goodIn_app (gl_c_X1_mixFirst) (gl_nil _))))))))))))))))))))
set_option maxHeartbeats 4000000 in
set_option maxRecDepth 100000 in
theorem gl_c_X1_at_1 : GoodIn zt wz_c_X1_at_1 := goodIn_ca (zz_sub (by decide +kernel) (by decide +kernel)) (goodIn_app (gu_RX1) (gl_nil _))
set_option maxHeartbeats 4000000 in
set_option maxRecDepth 100000 in
theorem gl_c_X11_hash_1 : GoodIn zt wz_c_X11_hash_1 := goodIn_ca (zz_sub (by decide +kernel) (by decide +kernel)) (goodIn_app (gu_RX11) (goodIn_app (gl_c_X1_make_1) (goodIn_app (gl_c_X1_at_1) (gl_nil _))))
set_option maxHeartbeats 4000000 in
set_option maxRecDepth 100000 in
theorem gl_c_L_hash_1 : GoodIn zt wz_c_L_hash_1 := goodIn_ca (zz_sub (by decide +kernel) (by decide +kernel)) (goodIn_app (gl_c_X11_hash_1) (gl_nil _))
set_option maxHeartbeats 4000000 in
set_option maxRecDepth 100000 in
theorem gl_c_M_sayRow0 : GoodIn zt wz_c_M_sayRow0 := goodIn_ca (zz_sub (by decide +kernel) (by decide +kernel)) (gl_nil _)
set_option maxHeartbeats 4000000 in
set_option maxRecDepth 100000 in
theorem gl_c_M_say : GoodIn zt wz_c_M_say := goodIn_ca (zz_sub (by decide +kernel) (by decide +kernel)) (goodIn_app (gu_RX12) (gl_nil _))
set_option maxHeartbeats 4000000 in
set_option maxRecDepth 100000 in
theorem gl_c_M_sayNumber : GoodIn zt wz_c_M_sayNumber := goodIn_ca (zz_sub (by decide +kernel) (by decide +kernel)) (goodIn_app (gl_c_M_say) (gl_nil _))
set_option maxHeartbeats 4000000 in
set_option maxRecDepth 100000 in
theorem gl_c_M_close : GoodIn zt wz_c_M_close := goodIn_ca (zz_sub (by decide +kernel) (by decide +kernel)) (goodIn_app (gu_RX12) (goodIn_app (gl_c_M_say) (goodIn_app (gl_c_M_sayNumber) (gl_nil _))))
set_option maxHeartbeats 4000000 in
set_option maxRecDepth 100000 in
theorem gl_c_M_number : GoodIn zt wz_c_M_number := goodIn_ca (zz_sub (by decide +kernel) (by decide +kernel)) (gl_nil _)
set_option maxHeartbeats 4000000 in
set_option maxRecDepth 100000 in
theorem gl_c_M_left : GoodIn zt wz_c_M_left := goodIn_ca (zz_sub (by decide +kernel) (by decide +kernel)) (gl_nil _)
set_option maxHeartbeats 4000000 in
set_option maxRecDepth 100000 in
theorem gl_c_M_keep_1_0 : GoodIn zt wz_c_M_keep_1_0 := goodIn_ca (zz_sub (by decide +kernel) (by decide +kernel)) (goodIn_app (gu_RX12) (gl_nil _))
theorem gl_c_M_keep_1_1 : GoodIn zt wz_c_M_keep_1_1 := gl_c_M_keep_1_0
theorem gl_c_M_keep_1_2 : GoodIn zt wz_c_M_keep_1_2 := gl_c_M_keep_1_0
theorem gl_c_M_keep_1_3 : GoodIn zt wz_c_M_keep_1_3 := gl_c_M_keep_1_0
theorem gl_c_M_keep_1_4 : GoodIn zt wz_c_M_keep_1_4 := gl_c_M_keep_1_0
set_option maxHeartbeats 4000000 in
set_option maxRecDepth 100000 in
theorem gl_c_M_firstHash : GoodIn zt wz_c_M_firstHash := goodIn_ca (zz_sub (by decide +kernel) (by decide +kernel)) (goodIn_app (gu_RX12) (goodIn_app (gl_c_M_close) (goodIn_app (gl_c_M_number) (goodIn_app (gl_c_M_left) (goodIn_app (gl_c_M_keep_1_0) (goodIn_app (gl_c_M_keep_1_1) (goodIn_app (gl_c_M_keep_1_2) (goodIn_app (gl_c_M_keep_1_3) (goodIn_app (gl_c_M_keep_1_4) (gl_nil _))))))))))
set_option maxHeartbeats 4000000 in
set_option maxRecDepth 100000 in
theorem gl_c_M_hashOf_1 : GoodIn zt wz_c_M_hashOf_1 := goodIn_ca (zz_sub (by decide +kernel) (by decide +kernel)) (goodIn_app (gl_c_M_firstHash) (gl_nil _))
set_option maxHeartbeats 4000000 in
set_option maxRecDepth 100000 in
theorem gl_c_M_hash_1 : GoodIn zt wz_c_M_hash_1 := goodIn_ca (zz_sub (by decide +kernel) (by decide +kernel)) (goodIn_app (gu_RX12) (goodIn_app (gl_c_M_sayRow0) (goodIn_app (gl_c_M_hashOf_1) (gl_nil _))))
theorem gl_c_X11_hash_2lo : GoodIn zt wz_c_X11_hash_2lo := gl_c_X11_hash_1lo
theorem gl_c_L_hash_2lo : GoodIn zt wz_c_L_hash_2lo := gl_c_L_hash_1lo
theorem gl_c_M_hash_2lo : GoodIn zt wz_c_M_hash_2lo := gl_c_M_hash_w
theorem gl_c_X11_hash_2hi : GoodIn zt wz_c_X11_hash_2hi := gl_c_X11_hash_1lo
theorem gl_c_L_hash_2hi : GoodIn zt wz_c_L_hash_2hi := gl_c_L_hash_1lo
theorem gl_c_M_hash_2hi : GoodIn zt wz_c_M_hash_2hi := gl_c_M_hash_w
set_option maxHeartbeats 4000000 in
set_option maxRecDepth 100000 in
theorem gl_c_X1_mixSecond : GoodIn zt wz_c_X1_mixSecond := goodIn_ca (zz_sub (by decide +kernel) (by decide +kernel)) (goodIn_app (gu_RX1) (gl_nil _))
set_option maxHeartbeats 4000000 in
set_option maxRecDepth 100000 in
theorem gl_c_X1_make_2 : GoodIn zt wz_c_X1_make_2 := goodIn_ca (zz_sub (by decide +kernel) (by decide +kernel)) (goodIn_app (gu_RX1) (goodIn_app (gu_RX0) (goodIn_app (gl_c_X1_wordOf_0) (goodIn_app (gl_c_X1_wordOf_4) (goodIn_app (gl_c_X1_wordOf_8) (goodIn_app (gl_c_X1_wordOf_12) (goodIn_app (gl_c_X1_wordOf_16) (goodIn_app (gl_c_X1_wordOf_20) (goodIn_app (gl_c_X1_wordOf_24) (goodIn_app (gl_c_X1_wordOf_28) (goodIn_app (gl_c_X1_wordOf_32) (goodIn_app (gl_c_X1_wordOf_36) (goodIn_app (gl_c_X1_wordOf_40) (goodIn_app (gl_c_X1_wordOf_44) (goodIn_app (gl_c_X1_wordOf_48) (goodIn_app (gl_c_X1_wordOf_52) (goodIn_app (gl_c_X1_wordOf_56) (goodIn_app (gl_c_X1_wordOf_60) (goodIn_app (gl_c_X1_mixSecond) (gl_nil _))))))))))))))))))))
theorem gl_c_X1_at_2 : GoodIn zt wz_c_X1_at_2 := gl_c_X1_at_1
set_option maxHeartbeats 4000000 in
set_option maxRecDepth 100000 in
theorem gl_c_X11_hash_2 : GoodIn zt wz_c_X11_hash_2 := goodIn_ca (zz_sub (by decide +kernel) (by decide +kernel)) (goodIn_app (gu_RX11) (goodIn_app (gl_c_X1_make_2) (goodIn_app (gl_c_X1_at_2) (gl_nil _))))
set_option maxHeartbeats 4000000 in
set_option maxRecDepth 100000 in
theorem gl_c_L_hash_2 : GoodIn zt wz_c_L_hash_2 := goodIn_ca (zz_sub (by decide +kernel) (by decide +kernel)) (goodIn_app (gl_c_X11_hash_2) (gl_nil _))
theorem gl_c_M_keep_2_0 : GoodIn zt wz_c_M_keep_2_0 := gl_c_M_keep_1_0
theorem gl_c_M_keep_2_1 : GoodIn zt wz_c_M_keep_2_1 := gl_c_M_keep_1_0
theorem gl_c_M_keep_2_2 : GoodIn zt wz_c_M_keep_2_2 := gl_c_M_keep_1_0
theorem gl_c_M_keep_2_3 : GoodIn zt wz_c_M_keep_2_3 := gl_c_M_keep_1_0
theorem gl_c_M_keep_2_4 : GoodIn zt wz_c_M_keep_2_4 := gl_c_M_keep_1_0
theorem gl_c_M_keep_2_5 : GoodIn zt wz_c_M_keep_2_5 := gl_c_M_keep_1_0
theorem gl_c_M_keep_2_6 : GoodIn zt wz_c_M_keep_2_6 := gl_c_M_keep_1_0
theorem gl_c_M_keep_2_7 : GoodIn zt wz_c_M_keep_2_7 := gl_c_M_keep_1_0
set_option maxHeartbeats 4000000 in
set_option maxRecDepth 100000 in
theorem gl_c_M_secondHash : GoodIn zt wz_c_M_secondHash := goodIn_ca (zz_sub (by decide +kernel) (by decide +kernel)) (goodIn_app (gu_RX12) (goodIn_app (gl_c_M_close) (goodIn_app (gl_c_M_number) (goodIn_app (gl_c_M_left) (goodIn_app (gl_c_M_keep_2_0) (goodIn_app (gl_c_M_keep_2_1) (goodIn_app (gl_c_M_keep_2_2) (goodIn_app (gl_c_M_keep_2_3) (goodIn_app (gl_c_M_keep_2_4) (goodIn_app (gl_c_M_keep_2_5) (goodIn_app (gl_c_M_keep_2_6) (goodIn_app (gl_c_M_keep_2_7) (gl_nil _)))))))))))))
set_option maxHeartbeats 4000000 in
set_option maxRecDepth 100000 in
theorem gl_c_M_hashOf_2 : GoodIn zt wz_c_M_hashOf_2 := goodIn_ca (zz_sub (by decide +kernel) (by decide +kernel)) (goodIn_app (gl_c_M_secondHash) (gl_nil _))
set_option maxHeartbeats 4000000 in
set_option maxRecDepth 100000 in
theorem gl_c_M_hash_2 : GoodIn zt wz_c_M_hash_2 := goodIn_ca (zz_sub (by decide +kernel) (by decide +kernel)) (goodIn_app (gu_RX12) (goodIn_app (gl_c_M_sayRow0) (goodIn_app (gl_c_M_hashOf_2) (gl_nil _))))
set_option maxHeartbeats 4000000 in
set_option maxRecDepth 100000 in
theorem gl_c_X10_init_X0 : GoodIn zt wz_c_X10_init_X0 := goodIn_ca (zz_sub (by decide +kernel) (by decide +kernel)) (goodIn_app (gu_RX0) (gl_nil _))
set_option maxHeartbeats 4000000 in
set_option maxRecDepth 100000 in
theorem gl_c_X0_init_4096 : GoodIn zt wz_c_X0_init_4096 := goodIn_ca (zz_sub (by decide +kernel) (by decide +kernel)) (goodIn_app (gl_c_X10_init_X0) (gl_nil _))
theorem gl_c_X0_init_1024 : GoodIn zt wz_c_X0_init_1024 := gl_c_X0_init_4096
theorem gl_c_X0_init_256 : GoodIn zt wz_c_X0_init_256 := gl_c_X0_init_4096
set_option maxHeartbeats 4000000 in
set_option maxRecDepth 100000 in
theorem gl_c_X10_init_X10 : GoodIn zt wz_c_X10_init_X10 := goodIn_ca (zz_sub (by decide +kernel) (by decide +kernel)) (goodIn_app (gu_RX10) (gl_nil _))
set_option maxHeartbeats 4000000 in
set_option maxRecDepth 100000 in
theorem gl_c_X4_init : GoodIn zt wz_c_X4_init := goodIn_ca (zz_sub (by decide +kernel) (by decide +kernel)) (goodIn_app (gu_RX10) (goodIn_app (gu_RX4) (goodIn_app (gu_RX0) (goodIn_app (gl_c_X10_init_X10) (goodIn_app (gl_c_X0_init_256) (gl_nil _))))))
set_option maxHeartbeats 4000000 in
set_option maxRecDepth 100000 in
theorem gl_c_X9_init : GoodIn zt wz_c_X9_init := goodIn_ca (zz_sub (by decide +kernel) (by decide +kernel)) (goodIn_app (gu_RX0) (goodIn_app (gu_RX9) (goodIn_app (gl_c_X0_init_1024) (gl_nil _))))
set_option maxHeartbeats 4000000 in
set_option maxRecDepth 100000 in
theorem gl_c_X1_init : GoodIn zt wz_c_X1_init := goodIn_ca (zz_sub (by decide +kernel) (by decide +kernel)) (goodIn_app (gu_RX1) (gl_nil _))
set_option maxHeartbeats 4000000 in
set_option maxRecDepth 100000 in
theorem gl_c_AbsColl_init : GoodIn zt wz_c_AbsColl_init := goodIn_ca (zz_sub (by decide +kernel) (by decide +kernel)) (gl_nil _)
set_option maxHeartbeats 4000000 in
set_option maxRecDepth 100000 in
theorem gl_c_AbsList_init : GoodIn zt wz_c_AbsList_init := goodIn_ca (zz_sub (by decide +kernel) (by decide +kernel)) (goodIn_app (gu_RJx4a65c) (goodIn_app (gl_c_AbsColl_init) (gl_nil _)))
set_option maxHeartbeats 4000000 in
set_option maxRecDepth 100000 in
theorem gl_c_ArrayList_init : GoodIn zt wz_c_ArrayList_init := goodIn_ca (zz_sub (by decide +kernel) (by decide +kernel)) (goodIn_app (gu_RJx4a65c) (goodIn_app (gl_c_AbsList_init) (gl_nil _)))
set_option maxHeartbeats 4000000 in
set_option maxRecDepth 100000 in
theorem gl_c_X10_init_X3 : GoodIn zt wz_c_X10_init_X3 := goodIn_ca (zz_sub (by decide +kernel) (by decide +kernel)) (goodIn_app (gu_RX3) (gl_nil _))
set_option maxHeartbeats 4000000 in
set_option maxRecDepth 100000 in
theorem gl_c_X5_init : GoodIn zt wz_c_X5_init := goodIn_ca (zz_sub (by decide +kernel) (by decide +kernel)) (goodIn_app (gu_RJx4a65c) (goodIn_app (gu_RX3) (goodIn_app (gl_c_X10_init_X3) (goodIn_app (gl_c_ArrayList_init) (gl_nil _)))))
set_option maxHeartbeats 4000000 in
set_option maxRecDepth 100000 in
theorem gl_c_X3_init : GoodIn zt wz_c_X3_init := goodIn_ca (zz_sub (by decide +kernel) (by decide +kernel)) (goodIn_app (gu_RJx4a65c) (goodIn_app (gu_RX3) (goodIn_app (gl_c_X5_init) (goodIn_app (gl_c_ArrayList_init) (gl_nil _)))))
set_option maxHeartbeats 4000000 in
set_option maxRecDepth 100000 in
theorem gl_c_X10_init_X8 : GoodIn zt wz_c_X10_init_X8 := goodIn_ca (zz_sub (by decide +kernel) (by decide +kernel)) (goodIn_app (gu_RX8) (gl_nil _))
set_option maxHeartbeats 4000000 in
set_option maxRecDepth 100000 in
theorem gl_c_X8_init : GoodIn zt wz_c_X8_init := goodIn_ca (zz_sub (by decide +kernel) (by decide +kernel)) (goodIn_app (gl_c_X10_init_X8) (gl_nil _))
set_option maxHeartbeats 4000000 in
set_option maxRecDepth 100000 in
theorem gl_c_X7_init : GoodIn zt wz_c_X7_init := goodIn_ca (zz_sub (by decide +kernel) (by decide +kernel)) (goodIn_app (gu_RJx4a65c) (goodIn_app (gu_RX7) (goodIn_app (gu_RX1) (goodIn_app (gu_RX0) (goodIn_app (gu_RX3) (goodIn_app (gu_RX8) (goodIn_app (gl_c_ArrayList_init) (goodIn_app (gl_c_X1_init) (goodIn_app (gl_c_X0_init_256) (goodIn_app (gl_c_X3_init) (goodIn_app (gl_c_X8_init) (gl_nil _))))))))))))
set_option maxHeartbeats 4000000 in
set_option maxRecDepth 100000 in
theorem gl_c_X6_init : GoodIn zt wz_c_X6_init := goodIn_ca (zz_sub (by decide +kernel) (by decide +kernel)) (goodIn_app (gu_RX6) (gl_nil _))
theorem gl_c_X0_init_128 : GoodIn zt wz_c_X0_init_128 := gl_c_X0_init_4096
set_option maxHeartbeats 4000000 in
set_option maxRecDepth 100000 in
theorem gl_c_X2_init : GoodIn zt wz_c_X2_init := goodIn_ca (zz_sub (by decide +kernel) (by decide +kernel)) (goodIn_app (gu_RX1) (goodIn_app (gu_RX2) (goodIn_app (gu_RX0) (goodIn_app (gu_RX6) (goodIn_app (gu_RX8) (goodIn_app (gl_c_X1_init) (goodIn_app (gl_c_X0_init_1024) (goodIn_app (gl_c_X6_init) (goodIn_app (gl_c_X0_init_128) (goodIn_app (gl_c_X8_init) (gl_nil _)))))))))))
set_option maxHeartbeats 4000000 in
set_option maxRecDepth 100000 in
theorem gl_c_X11_init : GoodIn zt wz_c_X11_init := goodIn_ca (zz_sub (by decide +kernel) (by decide +kernel)) (goodIn_app (gu_RX0) (goodIn_app (gu_RX11) (goodIn_app (gu_RX10) (goodIn_app (gu_RX4) (goodIn_app (gu_RX9) (goodIn_app (gu_RX1) (goodIn_app (gu_RX7) (goodIn_app (gu_RX2) (goodIn_app (gu_RX8) (goodIn_app (gl_c_X0_init_4096) (goodIn_app (gl_c_X0_init_1024) (goodIn_app (gl_c_X0_init_256) (goodIn_app (gl_c_X10_init_X10) (goodIn_app (gl_c_X4_init) (goodIn_app (gl_c_X9_init) (goodIn_app (gl_c_X1_init) (goodIn_app (gl_c_X7_init) (goodIn_app (gl_c_X2_init) (goodIn_app (gl_c_X8_init) (gl_nil _))))))))))))))))))))
set_option maxHeartbeats 4000000 in
set_option maxRecDepth 100000 in
theorem gl_c_X12_init : GoodIn zt wz_c_X12_init := goodIn_ca (zz_sub (by decide +kernel) (by decide +kernel)) (goodIn_app (gu_RX12) (gl_nil _))

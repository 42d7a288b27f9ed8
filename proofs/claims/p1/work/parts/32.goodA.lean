theorem gl_nil (b : List Cond) : GoodIn b [] := fun _ h => nomatch h
def zz_ck (L : List Cond) : List Cond → List Nat → Bool
  | [], _ => true
  | w :: ws, i :: js => decide (L[i]? = some w) && zz_ck L ws js
  | _ :: _, [] => false
theorem zz_ck_in {L : List Cond} : ∀ {ws : List Cond} {js : List Nat}, zz_ck L ws js = true → ∀ w ∈ ws, w ∈ L
  | [], _, _, _, h => nomatch h
  | w :: ws, i :: js, hc, v, hv => by
    have hc : (decide (L[i]? = some w) && zz_ck L ws js) = true := hc
    rw [Bool.and_eq_true] at hc
    rcases List.mem_cons.mp hv with e | h
    · rw [e]; exact List.mem_of_getElem? (of_decide_eq_true hc.1)
    · exact zz_ck_in hc.2 v h
  | _ :: _, [], hc, _, _ => nomatch hc
/-- the words ws stand in L, each behind the last one, with so many others between -/
def zz_cd : List Cond → List Cond → List Nat → Bool
  | _, [], _ => true
  | L, w :: ws, g :: gs => match L.drop g with
    | v :: R => decide (v = w) && zz_cd R ws gs
    | [] => false
  | _, _ :: _, [] => false
theorem zz_cd_in : ∀ {L ws : List Cond} {gs : List Nat}, zz_cd L ws gs = true → ∀ w ∈ ws, w ∈ L
  | _, [], _, _, _, h => nomatch h
  | L, w :: ws, g :: gs, hc, v, hv => by
    unfold zz_cd at hc
    cases hd : L.drop g with
    | nil => rw [hd] at hc; exact nomatch hc
    | cons u R =>
      rw [hd] at hc
      have hc : (decide (u = w) && zz_cd R ws gs) = true := hc
      rw [Bool.and_eq_true] at hc
      have hsub : ∀ z ∈ u :: R, z ∈ L := fun z hz => List.mem_of_mem_drop (hd ▸ hz)
      rcases List.mem_cons.mp hv with e | h
      · rw [e, ← of_decide_eq_true hc.1]; exact hsub _ List.mem_cons_self
      · exact hsub _ (List.mem_cons_of_mem _ (zz_cd_in hc.2 v h))
  | _, _ :: _, [], hc, _, _ => nomatch hc
def zA0 : List Cond := [.selects RJ4 ⟨"java/lang/AbstractStringBuilder", "ensureCapacityInternal", "(I)V"⟩ yJ5_ensureCapacityInternal_d00df, .selects RJ4 ⟨"java/lang/AbstractStringBuilder", "newCapacity", "(I)I"⟩ yJ5_newCapacity_0f7a4, .selects RJ4 ⟨"java/lang/AbstractStringBuilder", "inflateIfNeededFor", "(Ljava/lang/String;)V"⟩ yJ5_inflateIfNeededFor_a7421, .selects RJ4 ⟨"java/lang/AbstractStringBuilder", "putStringAt", "(ILjava/lang/String;)V"⟩ yJ5_putStringAt_47b60, .selects RX11 yX11_openKeys yX11_openKeys, .selects RX11 yX11_isInSigns yX11_isInSigns, .selects RX11 yX11_openLooked yX11_openLooked, .selects RX11 yX11_readSealed yX11_readSealed, .selects RX11 yX11_found yX11_found, .selects RX12 yX12_taken yX12_taken, .selects RX12 yX12_fail yX12_fail, .selects RX12 yX12_open yX12_open, .selects RX12 yX12_readKeys yX12_readKeys, .selects RX12 yX12_say yX12_say, .selects RX12 yX12_sayNumber yX12_sayNumber, .selects RX12 yX12_sayRow yX12_sayRow, .selects RX12 yX12_hashOf yX12_hashOf, .selects RX12 yX12_firstHash yX12_firstHash, .selects RX12 yX12_close yX12_close, .selects RX12 yX12_keep yX12_keep, .selects RX12 yX12_secondHash yX12_secondHash, .selects RX12 yX12_readCase yX12_readCase, .selects RX12 yX12_placeOf yX12_placeOf, .selects RX12 yX12_thingOf yX12_thingOf, .selects RX12 yX12_putText yX12_putText, .selects RX12 yX12_put yX12_put, .selects RX12 yX12_putSigns yX12_putSigns, .initialized RX11, .initialized RX10, .initialized RX0, .initialized "java/lang/Math", .initialized RX4, .initialized RX9, .initialized RX1, .initialized RX7, .initialized RJxa1e45, .initialized RJxc12de, .initialized RJx4a65c, .initialized RX5, .initialized RX3, .initialized RX8, .initialized RX2, .initialized RX6, .initialized RX12, .initialized RJ7, .initialized "java/lang/System", .initialized RJ0, .initialized RJ1, .initialized RJ3, .initialized "java/lang/IllegalArgumentException", .initialized RJ5, .initialized RJ4, .initialized RJ8, .initialized "java/lang/IndexOutOfBoundsException", .initialized "java/lang/ArrayIndexOutOfBoundsException", .methodLink RX11 1 objectInit, .instanceMethod objectInit, .classLink RX11 7 RX0, .instantiable RX0 3, .methodLink RX11 11 yX0_init]
set_option maxHeartbeats 4000000 in
set_option maxRecDepth 100000 in
theorem zA0_in : ∀ w ∈ zA0, w ∈ zt := zz_cd_in (gs := [0, 0, 0, 0, 0, 0, 6, 0, 7, 6, 3, 5, 0, 12, 0, 0, 0, 0, 0, 0, 0, 13, 26, 1, 2, 0, 4, 1, 0, 0, 0, 0, 0, 0, 0, 0, 0, 0, 0, 0, 0, 0, 0, 0, 0, 0, 0, 0, 0, 5, 0, 0, 1, 0, 2, 5, 0, 1, 0, 0]) (by decide +kernel)
def zA1 : List Cond := [.instanceMethod yX0_init, .methodLink RX0 1 Lib.Math.max.name, .static Lib.Math.max.name, .methodLink RX0 7 yX10_init, .instanceMethod yX10_init, .methodLink RX10 1 objectInit, .fieldLink RX10 7 "SignetRing$Span" "row" "[B", .fieldLink RX0 19 "SignetRing$Bytes" "row" "[B", .sameField "SignetRing$Bytes" "SignetRing$Span" "row" "[B", .fieldLink RX11 261 "SignetRing$Bytes" "row" "[B", .fieldLink RX10 13 "SignetRing$Span" "from" "I", .fieldLink RX0 33 "SignetRing$Span" "from" "I", .fieldLink RX11 264 "SignetRing$Bytes" "from" "I", .sameField "SignetRing$Bytes" "SignetRing$Span" "from" "I", .fieldLink RX10 17 "SignetRing$Span" "size" "I", .fieldLink RX0 13 "SignetRing$Bytes" "size" "I", .sameField "SignetRing$Bytes" "SignetRing$Span" "size" "I", .fieldLink RX11 86 "SignetRing$Bytes" "size" "I", .fieldLink RX1 28 "SignetRing$Span" "size" "I", .fieldLink RX7 100 "SignetRing$Span" "size" "I", .fieldLink RX4 39 "SignetRing$Span" "size" "I", .fieldLink RX9 31 "SignetRing$Span" "size" "I", .arrayClass .byte, .classLink RX11 27 RX10, .instantiable RX10 3, .methodLink RX11 29 yX10_init, .classLink RX11 36 RX4, .instantiable RX4 6, .instanceMethod yX4_init, .methodLink RX4 3 objectInit, .classLink RX4 9 RX10, .methodLink RX4 11 yX10_init, .classLink RX4 20 RX0, .methodLink RX4 22 yX0_init, .fieldLink RX4 14 "SignetRing$Packets" "body" "LSignetRing$Span;", .fieldLink RX4 25 "SignetRing$Packets" "parts" "LSignetRing$Bytes;", .fieldLink RX4 29 "SignetRing$Packets" "in" "LSignetRing$Span;", .fieldLink RX7 97 "SignetRing$Packets" "in" "LSignetRing$Span;", .fieldLink RX4 32 "SignetRing$Packets" "place" "I", .fieldLink RX4 36 "SignetRing$Packets" "next" "I", .classLink RX11 43 RX9, .instantiable RX9 7, .instanceMethod yX9_init, .methodLink RX9 3 objectInit, .classLink RX9 9 RX0, .methodLink RX9 11 yX0_init, .fieldLink RX9 14 "SignetRing$Signs" "plain" "LSignetRing$Bytes;", .fieldLink RX9 20 "SignetRing$Signs" "in" "LSignetRing$Span;", .classLink RX11 50 RX1, .instantiable RX1 3, .instanceMethod yX1_init, .methodLink RX1 3 objectInit, .fieldLink RX1 9 "SignetRing$Digest" "state" "[I", .fieldLink RX1 15 "SignetRing$Digest" "words" "[I", .fieldLink RX1 18 "SignetRing$Digest" "second" "Z", .arrayClass .int, .classLink RX11 57 RX7, .instantiable RX7 7, .instanceMethod yX7_init, .methodLink RX7 3 objectInit]
set_option maxHeartbeats 4000000 in
set_option maxRecDepth 100000 in
theorem zA1_in : ∀ w ∈ zA1, w ∈ zt := zz_cd_in (gs := [160, 1, 0, 1, 0, 1, 0, 0, 0, 7, 1, 0, 5, 0, 1, 0, 0, 5, 2, 0, 0, 1, 16, 0, 0, 0, 4, 0, 1, 1, 0, 0, 0, 0, 0, 2, 0, 0, 0, 0, 17, 0, 1, 1, 0, 0, 0, 1, 20, 0, 1, 1, 0, 0, 0, 8, 0, 0, 1, 1]) (by decide +kernel)
def zA2 : List Cond := [.classLink RX7 9 RJx4a65c, .instantiable RJx4a65c 3, .methodLink RX7 11 yJx4a65c_init_da8c8, .instanceMethod yJx4a65c_init_da8c8, .methodLink RJx4a65c 1 yJxc12de_init_da8c8, .instanceMethod yJxc12de_init_da8c8, .methodLink RJxc12de 1 yJxa1e45_init_da8c8, .instanceMethod yJxa1e45_init_da8c8, .methodLink RJxa1e45 1 objectInit, .fieldLink RJx4a65c 39 "java/util/ArrayList" "DEFAULTCAPACITY_EMPTY_ELEMENTDATA" "[Ljava/lang/Object;", .fieldLink RJx4a65c 9 "java/util/ArrayList" "elementData" "[Ljava/lang/Object;", .fieldLink RJx4a65c 48 "java/util/ArrayList" "size" "I", .fieldLink RJxc12de 7 "java/util/AbstractList" "modCount" "I", .classLink RX7 18 RX1, .classLink RX7 25 RX0, .methodLink RX7 27 yX0_init, .classLink RX7 34 RX3, .instantiable RX3 17, .methodLink RX7 36 yX3_init, .instanceMethod yX3_init, .methodLink RX3 3 yX5_init, .instanceMethod yX5_init, .methodLink RX5 3 yX10_init, .classLink RX5 9 RJx4a65c, .methodLink RX5 11 yJx4a65c_init_da8c8, .classLink RX3 9 RJx4a65c, .methodLink RX3 11 yJx4a65c_init_da8c8, .fieldLink RX3 27 "SignetRing$Key" "owner" "LSignetRing$Key;", .fieldLink RX3 14 "SignetRing$Key" "users" "Ljava/util/ArrayList;", .fieldLink RX3 20 "SignetRing$Key" "parts" "Ljava/util/ArrayList;", .fieldLink RX3 23 "SignetRing$Key" "print" "[B", .fieldLink RX5 14 "SignetRing$Place" "seals" "Ljava/util/ArrayList;", .classLink RX7 43 RX8, .instantiable RX8 18, .methodLink RX7 45 yX8_init, .instanceMethod yX8_init, .methodLink RX8 3 yX10_init, .fieldLink RX7 12 "SignetRing$Ring" "keys" "Ljava/util/ArrayList;", .fieldLink RX11 130 "SignetRing$Ring" "keys" "Ljava/util/ArrayList;", .fieldLink RX7 21 "SignetRing$Ring" "digest" "LSignetRing$Digest;", .fieldLink RX7 30 "SignetRing$Ring" "message" "LSignetRing$Bytes;", .fieldLink RX7 39 "SignetRing$Ring" "newKey" "LSignetRing$Key;", .fieldLink RX7 48 "SignetRing$Ring" "newSeal" "LSignetRing$Seal;", .fieldLink RX7 52 "SignetRing$Ring" "key" "LSignetRing$Key;", .fieldLink RX7 55 "SignetRing$Ring" "place" "LSignetRing$Place;", .classLink RX11 64 RX2, .instantiable RX2 5, .instanceMethod yX2_init, .methodLink RX2 3 objectInit, .classLink RX2 9 RX1, .classLink RX2 18 RX0, .methodLink RX2 20 yX0_init, .classLink RX2 27 RX6, .instantiable RX6 11, .methodLink RX2 29 yX6_init, .instanceMethod yX6_init, .methodLink RX6 3 objectInit, .fieldLink RX6 9 "SignetRing$Power" "modulus" "[J", .fieldLink RX6 13 "SignetRing$Power" "quotient" "[J", .fieldLink RX6 16 "SignetRing$Power" "one" "[J"]
set_option maxHeartbeats 4000000 in
set_option maxRecDepth 100000 in
theorem zA2_in : ∀ w ∈ zA2, w ∈ zt := zz_cd_in (gs := [321, 0, 0, 0, 1, 0, 1, 0, 1, 0, 1, 0, 0, 9, 1, 0, 0, 0, 0, 0, 1, 0, 1, 0, 0, 0, 0, 0, 2, 3, 3, 18, 39, 0, 0, 0, 1, 68, 0, 0, 0, 0, 0, 0, 0, 15, 0, 1, 1, 0, 1, 0, 0, 0, 0, 0, 1, 0, 0, 0]) (by decide +kernel)
def zA3 : List Cond := [.fieldLink RX6 19 "SignetRing$Power" "unit" "[J", .fieldLink RX6 22 "SignetRing$Power" "square" "[J", .fieldLink RX6 25 "SignetRing$Power" "base" "[J", .fieldLink RX6 28 "SignetRing$Power" "power" "[J", .fieldLink RX6 31 "SignetRing$Power" "limbs" "I", .arrayClass .long, .classLink RX2 37 RX8, .methodLink RX2 39 yX8_init, .fieldLink RX2 12 "SignetRing$Judge" "digest" "LSignetRing$Digest;", .fieldLink RX2 23 "SignetRing$Judge" "message" "LSignetRing$Bytes;", .fieldLink RX2 30 "SignetRing$Judge" "power" "LSignetRing$Power;", .fieldLink RX2 34 "SignetRing$Judge" "frame" "LSignetRing$Bytes;", .fieldLink RX2 42 "SignetRing$Judge" "inner" "LSignetRing$Seal;", .classLink RX11 71 RX8, .methodLink RX11 73 yX8_init, .fieldLink RX11 14 "SignetRing" "bytes" "LSignetRing$Bytes;", .fieldLink RX11 18 "SignetRing" "told" "LSignetRing$Bytes;", .fieldLink RX11 21 "SignetRing" "clear" "LSignetRing$Bytes;", .fieldLink RX11 24 "SignetRing" "packet" "LSignetRing$Bytes;", .fieldLink RX11 32 "SignetRing" "letter" "LSignetRing$Span;", .fieldLink RX11 39 "SignetRing" "packets" "LSignetRing$Packets;", .fieldLink RX11 46 "SignetRing" "signs" "LSignetRing$Signs;", .fieldLink RX11 53 "SignetRing" "toldDigest" "LSignetRing$Digest;", .fieldLink RX11 60 "SignetRing" "ring" "LSignetRing$Ring;", .fieldLink RX11 67 "SignetRing" "judge" "LSignetRing$Judge;", .fieldLink RX11 76 "SignetRing" "looked" "LSignetRing$Seal;", .fieldLink RX11 80 "SignetRing" "out" "LSignetRing$Bytes;", .fieldLink RX11 83 "SignetRing" "spare" "LSignetRing$Bytes;", .fieldLink RX11 105 "SignetRing" "toldHash" "I", .methodLink RX11 90 yX0_push, .instanceMethod yX0_push, .selects RX0 yX0_push yX0_push, .static yJ7_copyOf_9075b, .methodLink RJ7 304 Lib.Math.min.name, .static Lib.Math.min.name, .methodLink RJ7 150 arraycopyName, .static arraycopyName, .native arraycopyName, .methodLink RX11 93 yX11_openKeys, .instanceMethod yX11_openKeys, .methodLink RX11 234 yX4_open, .instanceMethod yX4_open, .selects RX4 yX4_open yX4_open, .methodLink RX11 238 yX11_isInSigns, .instanceMethod yX11_isInSigns, .instanceMethod yX10_at, .methodLink RX9 84 yX9_label, .static yX9_label, .instanceMethod yJ0_length_8abf5, .selects RJ0 yJ0_length_8abf5 yJ0_length_8abf5, .methodLink RJ0 335 yJ0_coder_7d493, .instanceMethod yJ0_coder_7d493, .selects RJ0 yJ0_coder_7d493 yJ0_coder_7d493, .fieldLink RJ0 38 "java/lang/String" "COMPACT_STRINGS" "Z", .instanceMethod yJ0_charAt_5068e, .selects RJ0 yJ0_charAt_5068e yJ0_charAt_5068e, .methodLink RJ0 492 yJ0_isLatin1_aae02, .instanceMethod yJ0_isLatin1_aae02, .selects RJ0 yJ0_isLatin1_aae02 yJ0_isLatin1_aae02, .methodLink RJ0 495 yJ1_charAt_3b067]
set_option maxHeartbeats 4000000 in
set_option maxRecDepth 100000 in
theorem zA3_in : ∀ w ∈ zA3, w ∈ zt := zz_cd_in (gs := [550, 0, 0, 1, 1, 26, 0, 0, 0, 1, 0, 0, 0, 11, 0, 0, 0, 0, 0, 0, 0, 0, 0, 0, 0, 0, 0, 0, 0, 36, 0, 0, 2, 8, 0, 1, 0, 0, 4, 1, 1, 0, 0, 1, 1, 5, 23, 0, 9, 0, 1, 0, 0, 1, 6, 0, 1, 0, 0, 1]) (by decide +kernel)
def zA4 : List Cond := [.static yJ1_charAt_3b067, .methodLink RJ1 9 yJ0_checkIndex_df160, .static yJ0_checkIndex_df160, .fieldLink RJ0 1053 "jdk/internal/util/Preconditions" "SIOOBE_FORMATTER" "Ljava/util/function/BiFunction;", .methodLink RJ0 1059 yJ3_checkIndex_8e157, .static yJ3_checkIndex_8e157, .methodLink RX9 138 yX9_sumOf, .static yX9_sumOf, .constant RX9 30 11994318, .methodLink RX9 135 yX0_push, .methodLink RX11 97 yX7_joinAll, .instanceMethod yX7_joinAll, .selects RX7 yX7_joinAll yX7_joinAll, .methodLink RX7 59 yJx4a65c_size_8abf5, .instanceMethod yJx4a65c_size_8abf5, .selects RJx4a65c yJx4a65c_size_8abf5 yJx4a65c_size_8abf5, .methodLink RX7 63 yX4_more, .instanceMethod yX4_more, .selects RX4 yX4_more yX4_more, .instanceMethod yX4_read, .selects RX4 yX4_read yX4_read, .methodLink RX4 42 ⟨"SignetRing$Span", "at", "(I)I"⟩, .instanceMethod yX10_view, .selects RX10 yX10_view yX10_view, .instanceMethod yX0_pushSpan, .selects RX0 yX0_pushSpan yX0_pushSpan, .instanceMethod yX10_number, .sameMethod "SignetRing$Span" "SignetRing$Span" "number" "(II)J", .selects RX0 ⟨"SignetRing$Span", "number", "(II)J"⟩ yX10_number, .static yJ7_copyOfRange_39247, .methodLink RJ7 339 yJ7_copyOfRangeByte_39247, .static yJ7_copyOfRangeByte_39247, .methodLink RJ7 343 yJ7_checkLength_df160, .static yJ7_checkLength_df160, .instantiable RJ4 4, .instanceMethod yJ4_init_da8c8, .methodLink RJ4 1 yJ5_init_d00df, .instanceMethod yJ5_init_d00df, .methodLink RJ5 3 objectInit, .fieldLink RJ5 18 "java/lang/String" "COMPACT_STRINGS" "Z", .fieldLink RJ5 15 "java/lang/AbstractStringBuilder" "value" "[B", .fieldLink RJ5 22 "java/lang/AbstractStringBuilder" "coder" "B", .fieldLink RJ5 79 "java/lang/AbstractStringBuilder" "count" "I", .superclass RJ4 RJ5, .methodLink RJ5 100 ⟨"java/lang/AbstractStringBuilder", "ensureCapacityInternal", "(I)V"⟩, .instanceMethod yJ5_ensureCapacityInternal_d00df, .methodLink RJ5 104 ⟨"java/lang/AbstractStringBuilder", "newCapacity", "(I)I"⟩, .instanceMethod yJ5_newCapacity_0f7a4, .methodLink RJ5 114 yJ8_newLength_cabcc, .static yJ8_newLength_cabcc, .methodLink RJ8 194 Lib.Math.max.name, .constant RJ8 200 2147483639, .constant RJ5 39 2147483647, .methodLink RJ5 108 yJ7_copyOf_9075b, .instanceMethod yJ5_isLatin1_aae02, .sameMethod "java/lang/AbstractStringBuilder" "java/lang/AbstractStringBuilder" "isLatin1" "()Z", .selects RJ4 ⟨"java/lang/AbstractStringBuilder", "isLatin1", "()Z"⟩ yJ5_isLatin1_aae02, .instanceMethod yJ4_append_15ec4, .selects RJ4 yJ4_append_15ec4 yJ4_append_15ec4, .methodLink RJ4 29 yJ5_append_cf1ce]
set_option maxHeartbeats 4000000 in
set_option maxRecDepth 100000 in
theorem zA4_in : ∀ w ∈ zA4, w ∈ zt := zz_cd_in (gs := [752, 1, 0, 1, 1, 0, 55, 0, 1, 10, 6, 0, 0, 1, 0, 0, 1, 0, 0, 2, 0, 1, 13, 0, 7, 0, 26, 1, 0, 88, 1, 0, 1, 0, 45, 1, 1, 0, 1, 0, 7, 0, 1, 8, 10, 1, 1, 1, 1, 0, 1, 0, 3, 0, 1, 0, 0, 30, 0, 1]) (by decide +kernel)
def zA5 : List Cond := [.instanceMethod yJ5_append_cf1ce, .methodLink RJ5 32 yJ0_length_8abf5, .methodLink RJ5 208 ⟨"java/lang/AbstractStringBuilder", "putStringAt", "(ILjava/lang/String;)V"⟩, .instanceMethod yJ5_putStringAt_47b60, .methodLink RJ5 397 ⟨"java/lang/AbstractStringBuilder", "inflateIfNeededFor", "(Ljava/lang/String;)V"⟩, .instanceMethod yJ5_inflateIfNeededFor_a7421, .methodLink RJ5 40 yJ0_coder_7d493, .methodLink RJ5 399 yJ0_getBytes_840e7, .instanceMethod yJ0_getBytes_840e7, .selects RJ0 yJ0_getBytes_840e7 yJ0_getBytes_840e7, .methodLink RJ0 212 arraycopyName, .instanceMethod yJ4_toString_0e30d, .selects RJ4 yJ4_toString_0e30d yJ4_toString_0e30d, .classLink RJ4 18 RJ0, .instantiable RJ0 4, .methodLink RJ4 137 yJ0_init_81219, .instanceMethod yJ0_init_81219, .methodLink RJ0 489 yJ0_init_db425, .instanceMethod yJ0_init_db425, .methodLink RJ0 1 objectInit, .methodLink RJ0 552 ⟨"java/lang/AbstractStringBuilder", "getValue", "()[B"⟩, .instanceMethod yJ5_getValue_6d5f1, .sameMethod "java/lang/AbstractStringBuilder" "java/lang/AbstractStringBuilder" "getValue" "()[B", .selects RJ4 ⟨"java/lang/AbstractStringBuilder", "getValue", "()[B"⟩ yJ5_getValue_6d5f1, .methodLink RJ0 549 ⟨"java/lang/AbstractStringBuilder", "length", "()I"⟩, .instanceMethod yJ5_length_8abf5, .sameMethod RJ5 RJ5 "length" "()I", .selects RJ4 ⟨"java/lang/AbstractStringBuilder", "length", "()I"⟩ yJ4_length_8abf5, .instanceMethod yJ4_length_8abf5, .methodLink RJ4 343 yJ5_length_8abf5, .methodLink RJ0 1047 ⟨"java/lang/AbstractStringBuilder", "isLatin1", "()Z"⟩, .methodLink RJ0 54 yJ7_copyOfRange_39247, .fieldLink RJ0 9 "java/lang/String" "value" "[B", .fieldLink RJ0 15 "java/lang/String" "coder" "B", .methodLink RX0 29 yX0_push, .instanceMethod yX1_make, .selects RX1 yX1_make yX1_make, .fieldLink RX1 22 "SignetRing$Digest" "START_SECOND" "[I", .fieldLink RX1 25 "SignetRing$Digest" "START_FIRST" "[I", .methodLink RX1 34 yX1_wordOf, .static yX1_wordOf, .methodLink RX1 44 ⟨"SignetRing$Span", "number", "(II)J"⟩, .methodLink RX1 38 yX1_mixSecond, .instanceMethod yX1_mixSecond, .selects RX1 yX1_mixSecond yX1_mixSecond, .fieldLink RX1 52 "SignetRing$Digest" "ROUNDS" "[I", .methodLink RX1 41 yX1_mixFirst, .instanceMethod yX1_mixFirst, .selects RX1 yX1_mixFirst yX1_mixFirst, .constant RX1 48 1518500249, .constant RX1 49 1859775393, .constant RX1 50 (-1894007588), .constant RX1 51 (-899497514), .instanceMethod yX1_at, .selects RX1 yX1_at yX1_at, .instanceMethod yX4_fault, .selects RX4 yX4_fault yX4_fault, .methodLink RX11 101 yX0_pushSpan, .methodLink RX11 134 yJx4a65c_size_8abf5, .methodLink RX11 215 yX9_sumOf]
set_option maxHeartbeats 4000000 in
set_option maxRecDepth 100000 in
theorem zA5_in : ∀ w ∈ zA5, w ∈ zt := zz_cd_in (gs := [1143, 8, 0, 1, 1, 1, 1, 19, 0, 0, 1, 2, 0, 1, 0, 0, 0, 1, 0, 1, 0, 0, 0, 0, 1, 0, 0, 0, 0, 1, 1, 0, 10, 0, 114, 6, 0, 1, 1, 1, 0, 1, 0, 0, 0, 1, 1, 0, 0, 1, 0, 0, 0, 1, 0, 75, 0, 16, 4, 4]) (by decide +kernel)
def zA6 : List Cond := [.methodLink RX11 219 Lib.Math.min.name, .classLink RL 13 "java/lang/IllegalArgumentException", .methodLink RL 7 yX11_look, .instanceMethod yX11_look, .selects RX11 yX11_look yX11_look, .methodLink RX11 108 yX11_isTime, .static yX11_isTime, .constantLong RX11 232 4294967295, .classLink RX11 112 "java/lang/IllegalArgumentException", .methodLink RX11 115 yX11_openLooked, .instanceMethod yX11_openLooked, .methodLink RX11 267 yX10_view, .methodLink RX11 270 yX11_readSealed, .instanceMethod yX11_readSealed, .methodLink RX11 288 yX4_read, .methodLink RX11 299 yX4_fault, .classLink RL 19 "java/lang/IndexOutOfBoundsException", .methodLink RL 15 yX11_key, .instanceMethod yX11_key, .selects RX11 yX11_key yX11_key, .methodLink RX11 138 yX11_found, .instanceMethod yX11_found, .classLink RX11 142 "java/lang/IndexOutOfBoundsException", .methodLink RL 21 yX11_print, .instanceMethod yX11_print, .selects RX11 yX11_print yX11_print, .methodLink RL 25 yX11_usable, .instanceMethod yX11_usable, .selects RX11 yX11_usable yX11_usable, .methodLink RL 29 yX11_seal, .instanceMethod yX11_seal, .selects RX11 yX11_seal yX11_seal, .methodLink RX11 231 yX1_at, .instanceMethod yX0_pushText, .selects RX0 yX0_pushText yX0_pushText, .methodLink RX0 56 yJ0_length_8abf5, .methodLink RX0 62 yJ0_charAt_5068e, .methodLink RX11 204 yX9_write, .static yX9_write, .methodLink RX9 149 yX0_pushText, .methodLink RX9 157 yX9_writeGroup, .static yX9_writeGroup, .methodLink RX9 161 yX9_signOf, .static yX9_signOf, .methodLink RL 35 yX11_export, .instanceMethod yX11_export, .selects RX11 yX11_export yX11_export, .methodLink RL 39 yX11_armor, .instanceMethod yX11_armor, .selects RX11 yX11_armor yX11_armor, .classLink RL 47 "java/lang/ArrayIndexOutOfBoundsException", .methodLink RL 44 yX11_out, .instanceMethod yX11_out, .selects RX11 yX11_out yX11_out, .classLink RX11 208 "java/lang/ArrayIndexOutOfBoundsException", .methodLink RL 49 yX11_drop, .instanceMethod yX11_drop, .selects RX11 yX11_drop yX11_drop, .methodLink RL 52 yX11_hash, .instanceMethod yX11_hash]
set_option maxHeartbeats 4000000 in
set_option maxRecDepth 100000 in
theorem zA6_in : ∀ w ∈ zA6, w ∈ zt := zz_cd_in (gs := [1484, 3, 0, 0, 0, 1, 0, 1, 0, 10, 1, 1, 0, 1, 1, 0, 200, 0, 0, 0, 1, 1, 1, 21, 0, 0, 4, 0, 0, 5, 0, 0, 33, 14, 0, 1, 0, 11, 0, 1, 1, 0, 1, 0, 9, 0, 0, 11, 0, 0, 19, 0, 0, 0, 1, 19, 0, 0, 5, 0]) (by decide +kernel)
def zA7 : List Cond := [.selects RX11 yX11_hash yX11_hash, .methodLink RX11 228 yX1_make, .methodLink RX12 1 objectInit, .constant RX12 16 60000, .classLink RX12 23 "[I", .fieldLink RX12 78 "SignetRingModel" "thrown" "I", .fieldLink RX12 84 "SignetRingModel" "taped" "I", .fieldLink RX12 7 "SignetRingModel" "tape" "[I", .fieldLink RX12 13 "SignetRingModel" "document" "[I", .fieldLink RX12 602 "SignetRingModel" "outSize" "I", .fieldLink RX12 17 "SignetRingModel" "out" "[I", .fieldLink RX12 485 "SignetRingModel" "packets" "I", .fieldLink RX12 20 "SignetRingModel" "kinds" "[I", .fieldLink RX12 24 "SignetRingModel" "bodies" "[[I", .fieldLink RX12 28 "SignetRingModel" "secrets" "[[I", .fieldLink RX12 428 "SignetRingModel" "newPackets" "I", .fieldLink RX12 31 "SignetRingModel" "newKinds" "[I", .fieldLink RX12 34 "SignetRingModel" "newBodies" "[[I", .fieldLink RX12 37 "SignetRingModel" "newSecrets" "[[I", .fieldLink RX12 93 "SignetRingModel" "messageSize" "I", .fieldLink RX12 40 "SignetRingModel" "message" "[I", .fieldLink RX12 43 "SignetRingModel" "digest" "[I", .fieldLink RX12 46 "SignetRingModel" "words" "[I", .fieldLink RX12 49 "SignetRingModel" "state" "[I", .fieldLink RX12 52 "SignetRingModel" "now" "[I", .fieldLink RX12 55 "SignetRingModel" "modulus" "[J", .fieldLink RX12 59 "SignetRingModel" "sum" "[J", .fieldLink RX12 62 "SignetRingModel" "base" "[J", .fieldLink RX12 65 "SignetRingModel" "result" "[J", .fieldLink RX12 68 "SignetRingModel" "square" "[J", .fieldLink RX12 178 "SignetRingModel" "told" "I", .fieldLink RX12 272 "SignetRingModel" "row" "[I", .fieldLink RX12 275 "SignetRingModel" "next" "I", .fieldLink RX12 269 "SignetRingModel" "place" "I", .fieldLink RX12 71 "SignetRingModel" "parts" "[I", .fieldLink RX12 74 "SignetRingModel" "wasSealed" "[Z", .arrayClass .boolean, .constantLong RX12 87 255, .methodLink RX12 488 yX12_taken, .instanceMethod yX12_taken, .methodLink RX12 89 yX12_part, .static yX12_part, .methodLink RX12 182 yX12_fail, .instanceMethod yX12_fail, .classLink RX12 240 RJ4, .methodLink RX12 242 yJ4_init_da8c8, .methodLink RX12 245 yJ4_append_15ec4, .methodLink RX12 261 yX12_label, .static yX12_label, .methodLink RX12 251 yJ4_toString_0e30d, .methodLink RX12 210 yJ0_length_8abf5, .methodLink RX12 215 yJ0_charAt_5068e, .methodLink RX12 236 yX12_sumOf, .static yX12_sumOf, .constant RX12 222 11994318, .methodLink RX12 497 yX12_open, .instanceMethod yX12_open, .methodLink RX12 500 yX12_readKeys, .instanceMethod yX12_readKeys, .constantLong RX12 82 256]
set_option maxHeartbeats 4000000 in
set_option maxRecDepth 100000 in
theorem zA7_in : ∀ w ∈ zA7, w ∈ zt := zz_cd_in (gs := [1922, 1, 5, 0, 0, 1, 0, 0, 0, 0, 0, 0, 0, 0, 0, 0, 0, 0, 0, 0, 0, 0, 0, 0, 0, 1, 0, 1, 0, 0, 0, 4, 0, 0, 2, 23, 131, 8, 4, 1, 1, 0, 14, 1, 8, 0, 1, 0, 0, 5, 4, 0, 15, 0, 1, 4, 1, 1, 1, 17]) (by decide +kernel)
def zA8 : List Cond := [.methodLink RX12 96 yX12_say, .instanceMethod yX12_say, .methodLink RX12 102 yX12_sayNumber, .instanceMethod yX12_sayNumber, .methodLink RX12 342 yX12_sayRow, .instanceMethod yX12_sayRow, .methodLink RX12 350 yX12_hashOf, .instanceMethod yX12_hashOf, .methodLink RX12 142 yX12_firstHash, .instanceMethod yX12_firstHash, .methodLink RX12 106 yX12_close, .instanceMethod yX12_close, .constantLong RX12 100 8, .constant RX12 110 1732584193, .constant RX12 111 (-271733879), .constant RX12 112 (-1732584194), .constant RX12 113 271733878, .constant RX12 114 (-1009589776), .methodLink RX12 115 yX12_number, .static yX12_number, .methodLink RX12 119 yX12_left, .static yX12_left, .constant RX12 123 1518500249, .constant RX12 124 1859775393, .constant RX12 125 (-1894007588), .constant RX12 126 (-899497514), .methodLink RX12 127 yX12_keep, .instanceMethod yX12_keep, .methodLink RX12 145 yX12_secondHash, .instanceMethod yX12_secondHash, .constant RX12 131 1779033703, .constant RX12 132 (-1150833019), .constant RX12 133 1013904242, .constant RX12 134 (-1521486534), .constant RX12 135 1359893119, .constant RX12 136 (-1694144372), .constant RX12 137 528734635, .constant RX12 138 1541459225, .fieldLink RX12 139 "SignetRingModel" "ROUNDS" "[I", .methodLink RX12 573 yX12_isTime, .static yX12_isTime, .constantLong RX12 151 4294967295, .methodLink RX12 576 yX12_readCase, .instanceMethod yX12_readCase, .methodLink RX12 590 yX12_placeOf, .instanceMethod yX12_placeOf, .methodLink RX12 599 yX12_thingOf, .instanceMethod yX12_thingOf, .methodLink RX12 616 yX12_putText, .instanceMethod yX12_putText, .methodLink RX12 605 yX12_put, .instanceMethod yX12_put, .methodLink RX12 632 yX12_putSigns, .instanceMethod yX12_putSigns, .methodLink RX12 640 yX12_signOf, .static yX12_signOf, .sameMethod "SignetRing$Span" "SignetRing$Span" "at" "(I)I", .selects RX0 ⟨"SignetRing$Span", "at", "(I)I"⟩ yX10_at, .sameMethod "java/lang/AbstractStringBuilder" "java/lang/AbstractStringBuilder" "ensureCapacityInternal" "(I)V", .sameMethod "java/lang/AbstractStringBuilder" "java/lang/AbstractStringBuilder" "newCapacity" "(I)I"]
set_option maxHeartbeats 4000000 in
set_option maxRecDepth 100000 in
theorem zA8_in : ∀ w ∈ zA8, w ∈ zt := zz_cd_in (gs := [2281, 1, 1, 1, 1, 1, 1, 1, 1, 1, 1, 1, 1, 0, 0, 0, 0, 0, 0, 0, 1, 0, 1, 0, 0, 0, 0, 1, 1, 1, 1, 0, 0, 0, 0, 0, 0, 0, 0, 68, 0, 1, 0, 1, 124, 1, 9, 1, 17, 1, 1, 1, 20, 1, 1, 0, 31, 0, 6, 0]) (by decide +kernel)
def zA9 : List Cond := [.sameMethod RJ5 RJ5 "append" "(Ljava/lang/String;)Ljava/lang/AbstractStringBuilder;", .sameMethod "java/lang/AbstractStringBuilder" "java/lang/AbstractStringBuilder" "putStringAt" "(ILjava/lang/String;)V", .sameMethod "java/lang/AbstractStringBuilder" "java/lang/AbstractStringBuilder" "inflateIfNeededFor" "(Ljava/lang/String;)V"]
set_option maxHeartbeats 4000000 in
set_option maxRecDepth 100000 in
theorem zA9_in : ∀ w ∈ zA9, w ∈ zt := zz_cd_in (gs := [2643, 1, 0]) (by decide +kernel)
def zAll : List Cond := zA0 ++ (zA1 ++ (zA2 ++ (zA3 ++ (zA4 ++ (zA5 ++ (zA6 ++ (zA7 ++ (zA8 ++ (zA9 ++ ([]))))))))))
theorem zAll_in : ∀ w ∈ zAll, w ∈ zt := (List.forall_mem_append.mpr ⟨zA0_in, (List.forall_mem_append.mpr ⟨zA1_in, (List.forall_mem_append.mpr ⟨zA2_in, (List.forall_mem_append.mpr ⟨zA3_in, (List.forall_mem_append.mpr ⟨zA4_in, (List.forall_mem_append.mpr ⟨zA5_in, (List.forall_mem_append.mpr ⟨zA6_in, (List.forall_mem_append.mpr ⟨zA7_in, (List.forall_mem_append.mpr ⟨zA8_in, (List.forall_mem_append.mpr ⟨zA9_in, (fun _ h => nomatch h)⟩)⟩)⟩)⟩)⟩)⟩)⟩)⟩)⟩)⟩)
theorem zz_sub {ws : List Cond} {js : List Nat} (h : zz_ck zAll ws js = true) (g : ws.all goodWord = true) : GoodIn zt ws := goodIn_sub (fun w hw => zAll_in w (zz_ck_in h w hw)) g
theorem zz_cons {w : Cond} {ws : List Cond} (h : w ∈ zt) (g : goodWord w = true) (hw : GoodIn zt ws) : GoodIn zt (w :: ws) := fun v hv => (List.mem_cons.mp hv).elim (fun e => e ▸ ⟨h, good_of_word g⟩) (hw v)
set_option maxHeartbeats 4000000 in
set_option maxRecDepth 100000 in
theorem zc_0 : Cond.code yX4_open cX4_open 2 none ∈ zt := List.mem_append_right _ (List.mem_append_right _ (List.mem_append_right _ (List.mem_append_right _ (List.mem_append_left _ (List.mem_of_getElem? (l := tables_1_3) (i := 94) rfl)))))
set_option maxHeartbeats 4000000 in
set_option maxRecDepth 100000 in
theorem zc_1 : Cond.code yX11_isInSigns cX11_isInSigns 1 (some .boolean) ∈ zt := List.mem_append_right _ (List.mem_append_right _ (List.mem_append_right _ (List.mem_append_right _ (List.mem_append_left _ (List.mem_of_getElem? (l := tables_1_3) (i := 98) rfl)))))
set_option maxHeartbeats 4000000 in
set_option maxRecDepth 100000 in
theorem zc_2 : Cond.code yX11_openKeys cX11_openKeys 1 (some .int) ∈ zt := List.mem_append_right _ (List.mem_append_right _ (List.mem_append_right _ (List.mem_append_right _ (List.mem_append_left _ (List.mem_of_getElem? (l := tables_1_3) (i := 90) rfl)))))
set_option maxHeartbeats 4000000 in
set_option maxRecDepth 100000 in
theorem zc_3 : Cond.code yJx4a65c_size_8abf5 cJx4a65c_size_8abf5 1 (some .int) ∈ zt := List.mem_append_right _ (List.mem_append_right _ (List.mem_append_right _ (List.mem_append_right _ (List.mem_append_right _ (List.mem_append_left _ (List.mem_of_getElem? (l := tables_1_4) (i := 12) rfl))))))
set_option maxHeartbeats 4000000 in
set_option maxRecDepth 100000 in
theorem zc_4 : Cond.code yX4_more cX4_more 1 (some .boolean) ∈ zt := List.mem_append_right _ (List.mem_append_right _ (List.mem_append_right _ (List.mem_append_right _ (List.mem_append_right _ (List.mem_append_left _ (List.mem_of_getElem? (l := tables_1_4) (i := 16) rfl))))))
set_option maxHeartbeats 4000000 in
set_option maxRecDepth 100000 in
theorem zc_5 : Cond.code yX7_joinAll cX7_joinAll 5 (some .int) ∈ zt := List.mem_append_right _ (List.mem_append_right _ (List.mem_append_right _ (List.mem_append_right _ (List.mem_append_right _ (List.mem_append_left _ (List.mem_of_getElem? (l := tables_1_4) (i := 8) rfl))))))
set_option maxHeartbeats 4000000 in
set_option maxRecDepth 100000 in
theorem zc_6 : Cond.code yX11_join cX11_join 2 (some .int) ∈ zt := List.mem_append_right _ (List.mem_append_right _ (List.mem_append_right _ (List.mem_append_right _ (List.mem_append_left _ (List.mem_of_getElem? (l := tables_1_3) (i := 86) rfl)))))
set_option maxHeartbeats 4000000 in
set_option maxRecDepth 100000 in
theorem zc_7 : Cond.code yX12_part cX12_part 5 (some (.array .int)) ∈ zt := List.mem_append_right _ (List.mem_append_right _ (List.mem_append_right _ (List.mem_append_right _ (List.mem_append_right _ (List.mem_append_right _ (List.mem_append_right _ (List.mem_append_right _ (List.mem_append_right _ (List.mem_append_right _ (List.mem_append_left _ (List.mem_of_getElem? (l := tables_1_9) (i := 115) rfl)))))))))))
set_option maxHeartbeats 4000000 in
set_option maxRecDepth 100000 in
theorem zc_8 : Cond.code yX12_taken cX12_taken 2 (some (.array .int)) ∈ zt := List.mem_append_right _ (List.mem_append_right _ (List.mem_append_right _ (List.mem_append_right _ (List.mem_append_right _ (List.mem_append_right _ (List.mem_append_right _ (List.mem_append_right _ (List.mem_append_right _ (List.mem_append_right _ (List.mem_append_left _ (List.mem_of_getElem? (l := tables_1_9) (i := 112) rfl)))))))))))
set_option maxHeartbeats 4000000 in
set_option maxRecDepth 100000 in
theorem zc_9 : Cond.code yX12_open cX12_open 2 none ∈ zt := List.mem_append_right _ (List.mem_append_right _ (List.mem_append_right _ (List.mem_append_right _ (List.mem_append_right _ (List.mem_append_right _ (List.mem_append_right _ (List.mem_append_right _ (List.mem_append_right _ (List.mem_append_right _ (List.mem_append_left _ (List.mem_of_getElem? (l := tables_1_9) (i := 184) rfl)))))))))))
set_option maxHeartbeats 4000000 in
set_option maxRecDepth 100000 in
theorem zc_10 : Cond.code yX12_fail cX12_fail 2 none ∈ zt := List.mem_append_right _ (List.mem_append_right _ (List.mem_append_right _ (List.mem_append_right _ (List.mem_append_right _ (List.mem_append_right _ (List.mem_append_right _ (List.mem_append_right _ (List.mem_append_right _ (List.mem_append_right _ (List.mem_append_left _ (List.mem_of_getElem? (l := tables_1_9) (i := 132) rfl)))))))))))
set_option maxHeartbeats 4000000 in
set_option maxRecDepth 100000 in
theorem zc_11 : Cond.code yX12_readKeys cX12_readKeys 9 (some .int) ∈ zt := List.mem_append_right _ (List.mem_append_right _ (List.mem_append_right _ (List.mem_append_right _ (List.mem_append_right _ (List.mem_append_right _ (List.mem_append_right _ (List.mem_append_right _ (List.mem_append_right _ (List.mem_append_right _ (List.mem_append_left _ (List.mem_of_getElem? (l := tables_1_9) (i := 188) rfl)))))))))))
set_option maxHeartbeats 4000000 in
set_option maxRecDepth 100000 in
theorem zc_12 : Cond.code yX12_join cX12_join 6 (some .int) ∈ zt := List.mem_append_right _ (List.mem_append_right _ (List.mem_append_right _ (List.mem_append_right _ (List.mem_append_right _ (List.mem_append_right _ (List.mem_append_right _ (List.mem_append_right _ (List.mem_append_right _ (List.mem_append_right _ (List.mem_append_left _ (List.mem_of_getElem? (l := tables_1_9) (i := 108) rfl)))))))))))
set_option maxHeartbeats 4000000 in
set_option maxRecDepth 100000 in
theorem zc_13 : Cond.code yX0_pushSpan cX0_pushSpan 6 none ∈ zt := List.mem_append_right _ (List.mem_append_right _ (List.mem_append_right _ (List.mem_append_right _ (List.mem_append_right _ (List.mem_append_left _ (List.mem_of_getElem? (l := tables_1_4) (i := 46) rfl))))))
set_option maxHeartbeats 4000000 in
set_option maxRecDepth 100000 in
theorem zc_14 : Cond.code yX11_document cX11_document 1 (some .int) ∈ zt := List.mem_append_right _ (List.mem_append_right _ (List.mem_append_right _ (List.mem_append_right _ (List.mem_append_right _ (List.mem_append_right _ (List.mem_append_right _ (List.mem_append_left _ (List.mem_of_getElem? (l := tables_1_6) (i := 156) rfl))))))))
set_option maxHeartbeats 4000000 in
set_option maxRecDepth 100000 in
theorem zc_15 : Cond.code yX12_document cX12_document 1 (some .int) ∈ zt := List.mem_append_right _ (List.mem_append_right _ (List.mem_append_right _ (List.mem_append_right _ (List.mem_append_right _ (List.mem_append_right _ (List.mem_append_right _ (List.mem_append_right _ (List.mem_append_right _ (List.mem_append_right _ (List.mem_append_right _ (List.mem_append_left _ (List.mem_of_getElem? (l := tables_1_10) (i := 129) rfl))))))))))))
set_option maxHeartbeats 4000000 in
set_option maxRecDepth 100000 in
theorem zc_16 : Cond.code yX11_keys cX11_keys 1 (some .int) ∈ zt := List.mem_append_right _ (List.mem_append_right _ (List.mem_append_right _ (List.mem_append_right _ (List.mem_append_right _ (List.mem_append_right _ (List.mem_append_right _ (List.mem_append_left _ (List.mem_of_getElem? (l := tables_1_6) (i := 161) rfl))))))))
set_option maxHeartbeats 4000000 in
set_option maxRecDepth 100000 in
theorem zc_17 : Cond.code yX12_keys cX12_keys 3 (some .int) ∈ zt := List.mem_append_right _ (List.mem_append_right _ (List.mem_append_right _ (List.mem_append_right _ (List.mem_append_right _ (List.mem_append_right _ (List.mem_append_right _ (List.mem_append_right _ (List.mem_append_right _ (List.mem_append_right _ (List.mem_append_right _ (List.mem_append_right _ (List.mem_of_getElem? (l := tables_1_11) (i := 20) rfl))))))))))))
set_option maxHeartbeats 4000000 in
set_option maxRecDepth 100000 in
theorem zc_18 : Cond.code yX9_sumOf cX9_sumOf 4 (some .int) ∈ zt := List.mem_append_right _ (List.mem_append_right _ (List.mem_append_right _ (List.mem_append_right _ (List.mem_append_left _ (List.mem_of_getElem? (l := tables_1_3) (i := 226) rfl)))))
set_option maxHeartbeats 4000000 in
set_option maxRecDepth 100000 in
theorem zc_19 : Cond.code yX11_sum cX11_sum 1 (some .int) ∈ zt := List.mem_append_right _ (List.mem_append_right _ (List.mem_append_right _ (List.mem_append_right _ (List.mem_append_right _ (List.mem_append_right _ (List.mem_append_right _ (List.mem_append_left _ (List.mem_of_getElem? (l := tables_1_6) (i := 166) rfl))))))))
set_option maxHeartbeats 4000000 in
set_option maxRecDepth 100000 in
theorem zc_20 : Cond.code yX12_sumOf cX12_sumOf 5 (some .int) ∈ zt := List.mem_append_right _ (List.mem_append_right _ (List.mem_append_right _ (List.mem_append_right _ (List.mem_append_right _ (List.mem_append_right _ (List.mem_append_right _ (List.mem_append_right _ (List.mem_append_right _ (List.mem_append_right _ (List.mem_append_left _ (List.mem_of_getElem? (l := tables_1_9) (i := 175) rfl)))))))))))
set_option maxHeartbeats 4000000 in
set_option maxRecDepth 100000 in
theorem zc_21 : Cond.code yX12_sum cX12_sum 1 (some .int) ∈ zt := List.mem_append_right _ (List.mem_append_right _ (List.mem_append_right _ (List.mem_append_right _ (List.mem_append_right _ (List.mem_append_right _ (List.mem_append_right _ (List.mem_append_right _ (List.mem_append_right _ (List.mem_append_right _ (List.mem_append_right _ (List.mem_append_right _ (List.mem_of_getElem? (l := tables_1_11) (i := 106) rfl))))))))))))
set_option maxHeartbeats 4000000 in
set_option maxRecDepth 100000 in
theorem zc_22 : Cond.code yX11_take cX11_take 1 (some .int) ∈ zt := List.mem_append_right _ (List.mem_append_right _ (List.mem_append_right _ (List.mem_append_right _ (List.mem_append_right _ (List.mem_append_right _ (List.mem_append_right _ (List.mem_append_left _ (List.mem_of_getElem? (l := tables_1_6) (i := 171) rfl))))))))
set_option maxHeartbeats 4000000 in
set_option maxRecDepth 100000 in
theorem zc_23 : Cond.code Lib.Math.min.name Lib.Math.min.code 2 (some .int) ∈ zt := List.mem_append_right _ (List.mem_append_right _ (List.mem_append_right _ (List.mem_append_right _ (List.mem_append_left _ (List.mem_of_getElem? (l := tables_1_3) (i := 79) rfl)))))
set_option maxHeartbeats 4000000 in
set_option maxRecDepth 100000 in
theorem zc_24 : Cond.code yX12_take cX12_take 2 (some .int) ∈ zt := List.mem_append_right _ (List.mem_append_right _ (List.mem_append_right _ (List.mem_append_right _ (List.mem_append_right _ (List.mem_append_right _ (List.mem_append_right _ (List.mem_append_right _ (List.mem_append_right _ (List.mem_append_right _ (List.mem_append_right _ (List.mem_append_right _ (List.mem_of_getElem? (l := tables_1_11) (i := 110) rfl))))))))))))
set_option maxHeartbeats 4000000 in
set_option maxRecDepth 100000 in
theorem zc_25 : Cond.code yX11_found cX11_found 4 (some (.object "SignetRing$Key")) ∈ zt := List.mem_append_right _ (List.mem_append_right _ (List.mem_append_right _ (List.mem_append_right _ (List.mem_append_right _ (List.mem_append_right _ (List.mem_append_right _ (List.mem_append_right _ (List.mem_append_left _ (List.mem_of_getElem? (l := tables_1_7) (i := 175) rfl)))))))))
set_option maxHeartbeats 4000000 in
set_option maxRecDepth 100000 in
theorem zc_26 : Cond.code yX11_key cX11_key 4 (some .long) ∈ zt := List.mem_append_right _ (List.mem_append_right _ (List.mem_append_right _ (List.mem_append_right _ (List.mem_append_right _ (List.mem_append_right _ (List.mem_append_right _ (List.mem_append_right _ (List.mem_append_left _ (List.mem_of_getElem? (l := tables_1_7) (i := 171) rfl)))))))))
set_option maxHeartbeats 4000000 in
set_option maxRecDepth 100000 in
theorem zc_27 : Cond.codeWith yL_key cL_key 5 (some .int) [(0, 9, 12, 19)] ∈ zt := List.mem_append_right _ (List.mem_append_right _ (List.mem_append_right _ (List.mem_append_right _ (List.mem_append_right _ (List.mem_append_right _ (List.mem_append_right _ (List.mem_append_right _ (List.mem_append_left _ (List.mem_of_getElem? (l := tables_1_7) (i := 166) rfl)))))))))
set_option maxHeartbeats 4000000 in
set_option maxRecDepth 100000 in
theorem zc_28 : Cond.code yX12_placeOf cX12_placeOf 4 (some .int) ∈ zt := List.mem_append_right _ (List.mem_append_right _ (List.mem_append_right _ (List.mem_append_right _ (List.mem_append_right _ (List.mem_append_right _ (List.mem_append_right _ (List.mem_append_right _ (List.mem_append_right _ (List.mem_append_right _ (List.mem_append_right _ (List.mem_append_right _ (List.mem_of_getElem? (l := tables_1_11) (i := 28) rfl))))))))))))
set_option maxHeartbeats 4000000 in
set_option maxRecDepth 100000 in
theorem zc_29 : Cond.code yX12_key cX12_key 5 (some .long) ∈ zt := List.mem_append_right _ (List.mem_append_right _ (List.mem_append_right _ (List.mem_append_right _ (List.mem_append_right _ (List.mem_append_right _ (List.mem_append_right _ (List.mem_append_right _ (List.mem_append_right _ (List.mem_append_right _ (List.mem_append_right _ (List.mem_append_right _ (List.mem_of_getElem? (l := tables_1_11) (i := 24) rfl))))))))))))
set_option maxHeartbeats 4000000 in
set_option maxRecDepth 100000 in
theorem zc_30 : Cond.code yX12_thrown cX12_thrown 1 (some .int) ∈ zt := List.mem_append_right _ (List.mem_append_right _ (List.mem_append_right _ (List.mem_append_right _ (List.mem_append_right _ (List.mem_append_right _ (List.mem_append_right _ (List.mem_append_right _ (List.mem_append_right _ (List.mem_append_right _ (List.mem_append_left _ (List.mem_of_getElem? (l := tables_1_9) (i := 99) rfl)))))))))))
set_option maxHeartbeats 4000000 in
set_option maxRecDepth 100000 in
theorem zc_31 : Cond.code yX11_print cX11_print 5 (some .int) ∈ zt := List.mem_append_right _ (List.mem_append_right _ (List.mem_append_right _ (List.mem_append_right _ (List.mem_append_right _ (List.mem_append_right _ (List.mem_append_right _ (List.mem_append_right _ (List.mem_append_left _ (List.mem_of_getElem? (l := tables_1_7) (i := 201) rfl)))))))))
set_option maxHeartbeats 4000000 in
set_option maxRecDepth 100000 in
theorem zc_32 : Cond.codeWith yL_print cL_print 6 (some .int) [(0, 12, 15, 19)] ∈ zt := List.mem_append_right _ (List.mem_append_right _ (List.mem_append_right _ (List.mem_append_right _ (List.mem_append_right _ (List.mem_append_right _ (List.mem_append_right _ (List.mem_append_right _ (List.mem_append_left _ (List.mem_of_getElem? (l := tables_1_7) (i := 197) rfl)))))))))
set_option maxHeartbeats 4000000 in
set_option maxRecDepth 100000 in
theorem zc_33 : Cond.code yX12_thingOf cX12_thingOf 4 (some .int) ∈ zt := List.mem_append_right _ (List.mem_append_right _ (List.mem_append_right _ (List.mem_append_right _ (List.mem_append_right _ (List.mem_append_right _ (List.mem_append_right _ (List.mem_append_right _ (List.mem_append_right _ (List.mem_append_right _ (List.mem_append_right _ (List.mem_append_right _ (List.mem_of_getElem? (l := tables_1_11) (i := 40) rfl))))))))))))
set_option maxHeartbeats 4000000 in
set_option maxRecDepth 100000 in
theorem zc_34 : Cond.code yX12_print cX12_print 5 (some .int) ∈ zt := List.mem_append_right _ (List.mem_append_right _ (List.mem_append_right _ (List.mem_append_right _ (List.mem_append_right _ (List.mem_append_right _ (List.mem_append_right _ (List.mem_append_right _ (List.mem_append_right _ (List.mem_append_right _ (List.mem_append_right _ (List.mem_append_right _ (List.mem_of_getElem? (l := tables_1_11) (i := 36) rfl))))))))))))
set_option maxHeartbeats 4000000 in
set_option maxRecDepth 100000 in
theorem zc_35 : Cond.code yX11_usable cX11_usable 6 (some .int) ∈ zt := List.mem_append_right _ (List.mem_append_right _ (List.mem_append_right _ (List.mem_append_right _ (List.mem_append_right _ (List.mem_append_right _ (List.mem_append_right _ (List.mem_append_right _ (List.mem_append_left _ (List.mem_of_getElem? (l := tables_1_7) (i := 208) rfl)))))))))
set_option maxHeartbeats 4000000 in
set_option maxRecDepth 100000 in
theorem zc_36 : Cond.codeWith yL_usable cL_usable 7 (some .int) [(0, 12, 15, 19), (0, 12, 19, 13)] ∈ zt := List.mem_append_right _ (List.mem_append_right _ (List.mem_append_right _ (List.mem_append_right _ (List.mem_append_right _ (List.mem_append_right _ (List.mem_append_right _ (List.mem_append_right _ (List.mem_append_left _ (List.mem_of_getElem? (l := tables_1_7) (i := 204) rfl)))))))))
set_option maxHeartbeats 4000000 in
set_option maxRecDepth 100000 in
theorem zc_37 : Cond.code yX12_usable cX12_usable 6 (some .int) ∈ zt := List.mem_append_right _ (List.mem_append_right _ (List.mem_append_right _ (List.mem_append_right _ (List.mem_append_right _ (List.mem_append_right _ (List.mem_append_right _ (List.mem_append_right _ (List.mem_append_right _ (List.mem_append_right _ (List.mem_append_right _ (List.mem_append_right _ (List.mem_of_getElem? (l := tables_1_11) (i := 48) rfl))))))))))))
set_option maxHeartbeats 4000000 in
set_option maxRecDepth 100000 in
theorem zc_38 : Cond.code yX11_seal cX11_seal 7 (some .int) ∈ zt := List.mem_append_right _ (List.mem_append_right _ (List.mem_append_right _ (List.mem_append_right _ (List.mem_append_right _ (List.mem_append_right _ (List.mem_append_right _ (List.mem_append_right _ (List.mem_append_left _ (List.mem_of_getElem? (l := tables_1_7) (i := 216) rfl)))))))))
set_option maxHeartbeats 4000000 in
set_option maxRecDepth 100000 in
theorem zc_39 : Cond.codeWith yL_seal cL_seal 8 (some .int) [(0, 14, 17, 19), (0, 14, 21, 13), (0, 14, 25, 33)] ∈ zt := List.mem_append_right _ (List.mem_append_right _ (List.mem_append_right _ (List.mem_append_right _ (List.mem_append_right _ (List.mem_append_right _ (List.mem_append_right _ (List.mem_append_right _ (List.mem_append_left _ (List.mem_of_getElem? (l := tables_1_7) (i := 211) rfl)))))))))
set_option maxHeartbeats 4000000 in
set_option maxRecDepth 100000 in
theorem zc_40 : Cond.code yX12_seal cX12_seal 11 (some .int) ∈ zt := List.mem_append_right _ (List.mem_append_right _ (List.mem_append_right _ (List.mem_append_right _ (List.mem_append_right _ (List.mem_append_right _ (List.mem_append_right _ (List.mem_append_right _ (List.mem_append_right _ (List.mem_append_right _ (List.mem_append_right _ (List.mem_append_right _ (List.mem_of_getElem? (l := tables_1_11) (i := 52) rfl))))))))))))
set_option maxHeartbeats 4000000 in
set_option maxRecDepth 100000 in
theorem zc_41 : Cond.code yX11_export cX11_export 4 (some .int) ∈ zt := List.mem_append_right _ (List.mem_append_right _ (List.mem_append_right _ (List.mem_append_right _ (List.mem_append_right _ (List.mem_append_right _ (List.mem_append_right _ (List.mem_append_right _ (List.mem_append_right _ (List.mem_append_left _ (List.mem_of_getElem? (l := tables_1_8) (i := 62) rfl))))))))))
set_option maxHeartbeats 4000000 in
set_option maxRecDepth 100000 in
theorem zc_42 : Cond.codeWith yL_export cL_export 4 (some .int) [(0, 9, 12, 19)] ∈ zt := List.mem_append_right _ (List.mem_append_right _ (List.mem_append_right _ (List.mem_append_right _ (List.mem_append_right _ (List.mem_append_right _ (List.mem_append_right _ (List.mem_append_right _ (List.mem_append_right _ (List.mem_append_left _ (List.mem_of_getElem? (l := tables_1_8) (i := 58) rfl))))))))))
set_option maxHeartbeats 4000000 in
set_option maxRecDepth 100000 in
theorem zc_43 : Cond.code yX12_export cX12_export 5 (some .int) ∈ zt := List.mem_append_right _ (List.mem_append_right _ (List.mem_append_right _ (List.mem_append_right _ (List.mem_append_right _ (List.mem_append_right _ (List.mem_append_right _ (List.mem_append_right _ (List.mem_append_right _ (List.mem_append_right _ (List.mem_append_right _ (List.mem_append_right _ (List.mem_of_getElem? (l := tables_1_11) (i := 94) rfl))))))))))))
set_option maxHeartbeats 4000000 in
set_option maxRecDepth 100000 in
theorem zc_44 : Cond.code yX11_out cX11_out 2 (some .int) ∈ zt := List.mem_append_right _ (List.mem_append_right _ (List.mem_append_right _ (List.mem_append_right _ (List.mem_append_right _ (List.mem_append_right _ (List.mem_append_right _ (List.mem_append_right _ (List.mem_append_right _ (List.mem_append_left _ (List.mem_of_getElem? (l := tables_1_8) (i := 99) rfl))))))))))
set_option maxHeartbeats 4000000 in
set_option maxRecDepth 100000 in
theorem zc_45 : Cond.codeWith yL_out cL_out 4 (some .int) [(0, 9, 12, 47)] ∈ zt := List.mem_append_right _ (List.mem_append_right _ (List.mem_append_right _ (List.mem_append_right _ (List.mem_append_right _ (List.mem_append_right _ (List.mem_append_right _ (List.mem_append_right _ (List.mem_append_right _ (List.mem_append_left _ (List.mem_of_getElem? (l := tables_1_8) (i := 94) rfl))))))))))
set_option maxHeartbeats 4000000 in
set_option maxRecDepth 100000 in
theorem zc_46 : Cond.code yX12_out cX12_out 2 (some .int) ∈ zt := List.mem_append_right _ (List.mem_append_right _ (List.mem_append_right _ (List.mem_append_right _ (List.mem_append_right _ (List.mem_append_right _ (List.mem_append_right _ (List.mem_append_right _ (List.mem_append_right _ (List.mem_append_right _ (List.mem_append_right _ (List.mem_append_right _ (List.mem_of_getElem? (l := tables_1_11) (i := 102) rfl))))))))))))
set_option maxHeartbeats 4000000 in
set_option maxRecDepth 100000 in
theorem zc_47 : Cond.code yX11_drop cX11_drop 2 (some .int) ∈ zt := List.mem_append_right _ (List.mem_append_right _ (List.mem_append_right _ (List.mem_append_right _ (List.mem_append_right _ (List.mem_append_right _ (List.mem_append_right _ (List.mem_append_right _ (List.mem_append_right _ (List.mem_append_left _ (List.mem_of_getElem? (l := tables_1_8) (i := 123) rfl))))))))))
set_option maxHeartbeats 4000000 in
set_option maxRecDepth 100000 in
theorem zc_48 : Cond.codeWith yL_drop cL_drop 4 (some .int) [(0, 9, 12, 19)] ∈ zt := List.mem_append_right _ (List.mem_append_right _ (List.mem_append_right _ (List.mem_append_right _ (List.mem_append_right _ (List.mem_append_right _ (List.mem_append_right _ (List.mem_append_right _ (List.mem_append_right _ (List.mem_append_left _ (List.mem_of_getElem? (l := tables_1_8) (i := 119) rfl))))))))))
set_option maxHeartbeats 4000000 in
set_option maxRecDepth 100000 in
theorem zc_49 : Cond.code yX12_drop cX12_drop 5 (some .int) ∈ zt := List.mem_append_right _ (List.mem_append_right _ (List.mem_append_right _ (List.mem_append_right _ (List.mem_append_right _ (List.mem_append_right _ (List.mem_append_right _ (List.mem_append_right _ (List.mem_append_right _ (List.mem_append_right _ (List.mem_append_right _ (List.mem_append_right _ (List.mem_of_getElem? (l := tables_1_11) (i := 114) rfl))))))))))))
set_option maxHeartbeats 4000000 in
set_option maxRecDepth 100000 in
theorem zc_50 : Cond.code yX11_isTime cX11_isTime 2 (some .boolean) ∈ zt := List.mem_append_right _ (List.mem_append_right _ (List.mem_append_right _ (List.mem_append_right _ (List.mem_append_right _ (List.mem_append_right _ (List.mem_append_right _ (List.mem_append_left _ (List.mem_of_getElem? (l := tables_1_6) (i := 183) rfl))))))))
set_option maxHeartbeats 4000000 in
set_option maxRecDepth 100000 in
theorem zc_51 : Cond.code yX11_look cX11_look 5 (some .int) ∈ zt := List.mem_append_right _ (List.mem_append_right _ (List.mem_append_right _ (List.mem_append_right _ (List.mem_append_right _ (List.mem_append_right _ (List.mem_append_right _ (List.mem_append_left _ (List.mem_of_getElem? (l := tables_1_6) (i := 180) rfl))))))))
set_option maxHeartbeats 4000000 in
set_option maxRecDepth 100000 in
theorem zc_52 : Cond.codeWith yL_look cL_look 5 (some .int) [(0, 9, 12, 13)] ∈ zt := List.mem_append_right _ (List.mem_append_right _ (List.mem_append_right _ (List.mem_append_right _ (List.mem_append_right _ (List.mem_append_right _ (List.mem_append_right _ (List.mem_append_left _ (List.mem_of_getElem? (l := tables_1_6) (i := 175) rfl))))))))
set_option maxHeartbeats 4000000 in
set_option maxRecDepth 100000 in
theorem zc_53 : Cond.code yX12_isTime cX12_isTime 2 (some .boolean) ∈ zt := List.mem_append_right _ (List.mem_append_right _ (List.mem_append_right _ (List.mem_append_right _ (List.mem_append_right _ (List.mem_append_right _ (List.mem_append_right _ (List.mem_append_right _ (List.mem_append_right _ (List.mem_append_right _ (List.mem_append_right _ (List.mem_append_left _ (List.mem_of_getElem? (l := tables_1_10) (i := 136) rfl))))))))))))
set_option maxHeartbeats 4000000 in
set_option maxRecDepth 100000 in
theorem zc_54 : Cond.code yX12_look cX12_look 11 (some .int) ∈ zt := List.mem_append_right _ (List.mem_append_right _ (List.mem_append_right _ (List.mem_append_right _ (List.mem_append_right _ (List.mem_append_right _ (List.mem_append_right _ (List.mem_append_right _ (List.mem_append_right _ (List.mem_append_right _ (List.mem_append_right _ (List.mem_append_left _ (List.mem_of_getElem? (l := tables_1_10) (i := 133) rfl))))))))))))
set_option maxHeartbeats 4000000 in
set_option maxRecDepth 100000 in
theorem zc_55 : Cond.code yX10_view cX10_view 4 none ∈ zt := List.mem_append_right _ (List.mem_append_right _ (List.mem_append_right _ (List.mem_append_right _ (List.mem_append_right _ (List.mem_append_left _ (List.mem_of_getElem? (l := tables_1_4) (i := 42) rfl))))))
set_option maxHeartbeats 4000000 in
set_option maxRecDepth 100000 in
theorem zc_56 : Cond.code yX10_at cX10_at 3 (some .int) ∈ zt := List.mem_append_right _ (List.mem_append_right _ (List.mem_append_right _ (List.mem_append_right _ (List.mem_append_left _ (List.mem_of_getElem? (l := tables_1_3) (i := 104) rfl)))))
set_option maxHeartbeats 4000000 in
set_option maxRecDepth 100000 in
theorem zc_57 : Cond.code yX4_read cX4_read 3 (some .boolean) ∈ zt := List.mem_append_right _ (List.mem_append_right _ (List.mem_append_right _ (List.mem_append_right _ (List.mem_append_right _ (List.mem_append_left _ (List.mem_of_getElem? (l := tables_1_4) (i := 20) rfl))))))
set_option maxHeartbeats 4000000 in
set_option maxRecDepth 100000 in
theorem zc_58 : Cond.code yX4_fault cX4_fault 1 (some .int) ∈ zt := List.mem_append_right _ (List.mem_append_right _ (List.mem_append_right _ (List.mem_append_right _ (List.mem_append_right _ (List.mem_append_right _ (List.mem_append_right _ (List.mem_append_left _ (List.mem_of_getElem? (l := tables_1_6) (i := 141) rfl))))))))
set_option maxHeartbeats 4000000 in
set_option maxRecDepth 100000 in
theorem zc_59 : Cond.code yX11_readSealed cX11_readSealed 5 (some .int) ∈ zt := List.mem_append_right _ (List.mem_append_right _ (List.mem_append_right _ (List.mem_append_right _ (List.mem_append_right _ (List.mem_append_right _ (List.mem_append_right _ (List.mem_append_left _ (List.mem_of_getElem? (l := tables_1_6) (i := 204) rfl))))))))
set_option maxHeartbeats 4000000 in
set_option maxRecDepth 100000 in
theorem zc_60 : Cond.code yX11_openLooked cX11_openLooked 2 (some .int) ∈ zt := List.mem_append_right _ (List.mem_append_right _ (List.mem_append_right _ (List.mem_append_right _ (List.mem_append_right _ (List.mem_append_right _ (List.mem_append_right _ (List.mem_append_left _ (List.mem_of_getElem? (l := tables_1_6) (i := 199) rfl))))))))
set_option maxHeartbeats 4000000 in
set_option maxRecDepth 100000 in
theorem zc_61 : Cond.code yX12_readCase cX12_readCase 3 none ∈ zt := List.mem_append_right _ (List.mem_append_right _ (List.mem_append_right _ (List.mem_append_right _ (List.mem_append_right _ (List.mem_append_right _ (List.mem_append_right _ (List.mem_append_right _ (List.mem_append_right _ (List.mem_append_right _ (List.mem_append_right _ (List.mem_append_left _ (List.mem_of_getElem? (l := tables_1_10) (i := 141) rfl))))))))))))
set_option maxHeartbeats 4000000 in
set_option maxRecDepth 100000 in
theorem zc_62 : Cond.code yX11_add cX11_add 5 (some .boolean) ∈ zt := List.mem_append_right _ (List.mem_append_right _ (List.mem_append_right _ (List.mem_append_right _ (List.mem_append_left _ (List.mem_of_getElem? (l := tables_1_3) (i := 62) rfl)))))
set_option maxHeartbeats 4000000 in
set_option maxRecDepth 100000 in
theorem zc_63 : Cond.code yX12_add cX12_add 5 (some .boolean) ∈ zt := List.mem_append_right _ (List.mem_append_right _ (List.mem_append_right _ (List.mem_append_right _ (List.mem_append_right _ (List.mem_append_right _ (List.mem_append_right _ (List.mem_append_right _ (List.mem_append_right _ (List.mem_append_right _ (List.mem_append_left _ (List.mem_of_getElem? (l := tables_1_9) (i := 103) rfl)))))))))))
set_option maxHeartbeats 4000000 in
set_option maxRecDepth 100000 in
theorem zc_64 : Cond.code yX0_push cX0_push 2 none ∈ zt := List.mem_append_right _ (List.mem_append_right _ (List.mem_append_right _ (List.mem_append_right _ (List.mem_append_left _ (List.mem_of_getElem? (l := tables_1_3) (i := 66) rfl)))))
set_option maxHeartbeats 4000000 in
set_option maxRecDepth 100000 in
theorem zc_65 : Cond.code yX11_armor cX11_armor 3 (some .int) ∈ zt := List.mem_append_right _ (List.mem_append_right _ (List.mem_append_right _ (List.mem_append_right _ (List.mem_append_right _ (List.mem_append_right _ (List.mem_append_right _ (List.mem_append_right _ (List.mem_append_right _ (List.mem_append_left _ (List.mem_of_getElem? (l := tables_1_8) (i := 76) rfl))))))))))
set_option maxHeartbeats 4000000 in
set_option maxRecDepth 100000 in
theorem zc_66 : Cond.codeWith yL_armor cL_armor 4 (some .int) [(0, 9, 12, 13), (0, 9, 15, 42)] ∈ zt := List.mem_append_right _ (List.mem_append_right _ (List.mem_append_right _ (List.mem_append_right _ (List.mem_append_right _ (List.mem_append_right _ (List.mem_append_right _ (List.mem_append_right _ (List.mem_append_right _ (List.mem_append_left _ (List.mem_of_getElem? (l := tables_1_8) (i := 71) rfl))))))))))
set_option maxHeartbeats 4000000 in
set_option maxRecDepth 100000 in
theorem zc_67 : Cond.code yX12_armor cX12_armor 3 (some .int) ∈ zt := List.mem_append_right _ (List.mem_append_right _ (List.mem_append_right _ (List.mem_append_right _ (List.mem_append_right _ (List.mem_append_right _ (List.mem_append_right _ (List.mem_append_right _ (List.mem_append_right _ (List.mem_append_right _ (List.mem_append_right _ (List.mem_append_right _ (List.mem_of_getElem? (l := tables_1_11) (i := 98) rfl))))))))))))
set_option maxHeartbeats 4000000 in
set_option maxRecDepth 100000 in
theorem zc_68 : Cond.code yJ0_coder_7d493 cJ0_coder_7d493 1 (some .byte) ∈ zt := List.mem_append_right _ (List.mem_append_right _ (List.mem_append_right _ (List.mem_append_right _ (List.mem_append_left _ (List.mem_of_getElem? (l := tables_1_3) (i := 144) rfl)))))
set_option maxHeartbeats 4000000 in
set_option maxRecDepth 100000 in
theorem zc_69 : Cond.code yJ0_length_8abf5 cJ0_length_8abf5 1 (some .int) ∈ zt := List.mem_append_right _ (List.mem_append_right _ (List.mem_append_right _ (List.mem_append_right _ (List.mem_append_left _ (List.mem_of_getElem? (l := tables_1_3) (i := 140) rfl)))))
set_option maxHeartbeats 4000000 in
set_option maxRecDepth 100000 in
theorem zc_70 : Cond.code yJ0_isLatin1_aae02 cJ0_isLatin1_aae02 1 (some .boolean) ∈ zt := List.mem_append_right _ (List.mem_append_right _ (List.mem_append_right _ (List.mem_append_right _ (List.mem_append_left _ (List.mem_of_getElem? (l := tables_1_3) (i := 158) rfl)))))
set_option maxHeartbeats 4000000 in
set_option maxRecDepth 100000 in
theorem zc_71 : Cond.code yJ3_checkIndex_8e157 cJ3_checkIndex_8e157 3 (some .int) ∈ zt := List.mem_append_right _ (List.mem_append_right _ (List.mem_append_right _ (List.mem_append_right _ (List.mem_append_left _ (List.mem_of_getElem? (l := tables_1_3) (i := 169) rfl)))))
set_option maxHeartbeats 4000000 in
set_option maxRecDepth 100000 in
theorem zc_72 : Cond.code yJ0_checkIndex_df160 cJ0_checkIndex_df160 2 none ∈ zt := List.mem_append_right _ (List.mem_append_right _ (List.mem_append_right _ (List.mem_append_right _ (List.mem_append_left _ (List.mem_of_getElem? (l := tables_1_3) (i := 164) rfl)))))
set_option maxHeartbeats 4000000 in
set_option maxRecDepth 100000 in
theorem zc_73 : Cond.code yJ1_charAt_3b067 cJ1_charAt_3b067 2 (some .char) ∈ zt := List.mem_append_right _ (List.mem_append_right _ (List.mem_append_right _ (List.mem_append_right _ (List.mem_append_left _ (List.mem_of_getElem? (l := tables_1_3) (i := 161) rfl)))))
set_option maxHeartbeats 4000000 in
set_option maxRecDepth 100000 in
theorem zc_74 : Cond.code yJ0_charAt_5068e cJ0_charAt_5068e 2 (some .char) ∈ zt := List.mem_append_right _ (List.mem_append_right _ (List.mem_append_right _ (List.mem_append_right _ (List.mem_append_left _ (List.mem_of_getElem? (l := tables_1_3) (i := 154) rfl)))))
set_option maxHeartbeats 4000000 in
set_option maxRecDepth 100000 in
theorem zc_75 : Cond.code yX0_pushText cX0_pushText 3 none ∈ zt := List.mem_append_right _ (List.mem_append_right _ (List.mem_append_right _ (List.mem_append_right _ (List.mem_append_right _ (List.mem_append_right _ (List.mem_append_right _ (List.mem_append_right _ (List.mem_append_right _ (List.mem_append_left _ (List.mem_of_getElem? (l := tables_1_8) (i := 26) rfl))))))))))
set_option maxHeartbeats 4000000 in
set_option maxRecDepth 100000 in
theorem zc_76 : Cond.code yX9_label cX9_label 1 (some (.object "java/lang/String")) ∈ zt := List.mem_append_right _ (List.mem_append_right _ (List.mem_append_right _ (List.mem_append_right _ (List.mem_append_left _ (List.mem_of_getElem? (l := tables_1_3) (i := 129) rfl)))))
set_option maxHeartbeats 4000000 in
set_option maxRecDepth 100000 in
theorem zc_77 : Cond.code yX9_signOf cX9_signOf 1 (some .int) ∈ zt := List.mem_append_right _ (List.mem_append_right _ (List.mem_append_right _ (List.mem_append_right _ (List.mem_append_right _ (List.mem_append_right _ (List.mem_append_right _ (List.mem_append_right _ (List.mem_append_right _ (List.mem_append_left _ (List.mem_of_getElem? (l := tables_1_8) (i := 50) rfl))))))))))
set_option maxHeartbeats 4000000 in
set_option maxRecDepth 100000 in
theorem zc_78 : Cond.code yX9_writeGroup cX9_writeGroup 5 none ∈ zt := List.mem_append_right _ (List.mem_append_right _ (List.mem_append_right _ (List.mem_append_right _ (List.mem_append_right _ (List.mem_append_right _ (List.mem_append_right _ (List.mem_append_right _ (List.mem_append_right _ (List.mem_append_left _ (List.mem_of_getElem? (l := tables_1_8) (i := 47) rfl))))))))))
set_option maxHeartbeats 4000000 in
set_option maxRecDepth 100000 in
theorem zc_79 : Cond.code yX9_write cX9_write 4 none ∈ zt := List.mem_append_right _ (List.mem_append_right _ (List.mem_append_right _ (List.mem_append_right _ (List.mem_append_right _ (List.mem_append_right _ (List.mem_append_right _ (List.mem_append_right _ (List.mem_append_right _ (List.mem_append_left _ (List.mem_of_getElem? (l := tables_1_8) (i := 42) rfl))))))))))
set_option maxHeartbeats 4000000 in
set_option maxRecDepth 100000 in
theorem zc_80 : Cond.code yJ5_init_d00df cJ5_init_d00df 2 none ∈ zt := List.mem_append_right _ (List.mem_append_right _ (List.mem_append_right _ (List.mem_append_right _ (List.mem_append_right _ (List.mem_append_left _ (List.mem_of_getElem? (l := tables_1_4) (i := 222) rfl))))))
set_option maxHeartbeats 4000000 in
set_option maxRecDepth 100000 in
theorem zc_81 : Cond.code objectInit ⟨#[0xb1]⟩ 1 none ∈ zt := List.mem_append_right _ (List.mem_append_right _ (List.mem_append_left _ (List.mem_of_getElem? (l := tables_1_1) (i := 44) rfl)))
set_option maxHeartbeats 4000000 in
set_option maxRecDepth 100000 in
theorem zc_82 : Cond.code yJ4_init_da8c8 cJ4_init_da8c8 1 none ∈ zt := List.mem_append_right _ (List.mem_append_right _ (List.mem_append_right _ (List.mem_append_right _ (List.mem_append_right _ (List.mem_append_left _ (List.mem_of_getElem? (l := tables_1_4) (i := 219) rfl))))))
set_option maxHeartbeats 4000000 in
set_option maxRecDepth 100000 in
theorem zc_83 : Cond.code yJ5_ensureCapacityInternal_d00df cJ5_ensureCapacityInternal_d00df 3 none ∈ zt := List.mem_append_right _ (List.mem_append_right _ (List.mem_append_right _ (List.mem_append_right _ (List.mem_append_right _ (List.mem_append_right _ (List.mem_append_left _ (List.mem_of_getElem? (l := tables_1_5) (i := 18) rfl)))))))
set_option maxHeartbeats 4000000 in
set_option maxRecDepth 100000 in
theorem zc_84 : Cond.code yJ5_inflateIfNeededFor_a7421 cJ5_inflateIfNeededFor_a7421 2 none ∈ zt := List.mem_append_right _ (List.mem_append_right _ (List.mem_append_right _ (List.mem_append_right _ (List.mem_append_right _ (List.mem_append_right _ (List.mem_append_left _ (List.mem_of_getElem? (l := tables_1_5) (i := 88) rfl)))))))
set_option maxHeartbeats 4000000 in
set_option maxRecDepth 100000 in
theorem zc_85 : Cond.code yJ0_getBytes_840e7 cJ0_getBytes_840e7 4 none ∈ zt := List.mem_append_right _ (List.mem_append_right _ (List.mem_append_right _ (List.mem_append_right _ (List.mem_append_right _ (List.mem_append_right _ (List.mem_append_left _ (List.mem_of_getElem? (l := tables_1_5) (i := 112) rfl)))))))
set_option maxHeartbeats 4000000 in
set_option maxRecDepth 100000 in
theorem zc_86 : Cond.code yJ5_putStringAt_47b60 cJ5_putStringAt_47b60 3 none ∈ zt := List.mem_append_right _ (List.mem_append_right _ (List.mem_append_right _ (List.mem_append_right _ (List.mem_append_right _ (List.mem_append_right _ (List.mem_append_left _ (List.mem_of_getElem? (l := tables_1_5) (i := 84) rfl)))))))
set_option maxHeartbeats 4000000 in
set_option maxRecDepth 100000 in
theorem zc_87 : Cond.code yJ5_append_cf1ce cJ5_append_cf1ce 3 (some (.object "java/lang/AbstractStringBuilder")) ∈ zt := List.mem_append_right _ (List.mem_append_right _ (List.mem_append_right _ (List.mem_append_right _ (List.mem_append_right _ (List.mem_append_right _ (List.mem_append_left _ (List.mem_of_getElem? (l := tables_1_5) (i := 72) rfl)))))))
set_option maxHeartbeats 4000000 in
set_option maxRecDepth 100000 in
theorem zc_88 : Cond.code yJ4_append_15ec4 cJ4_append_15ec4 2 (some (.object "java/lang/StringBuilder")) ∈ zt := List.mem_append_right _ (List.mem_append_right _ (List.mem_append_right _ (List.mem_append_right _ (List.mem_append_right _ (List.mem_append_right _ (List.mem_append_left _ (List.mem_of_getElem? (l := tables_1_5) (i := 69) rfl)))))))
set_option maxHeartbeats 4000000 in
set_option maxRecDepth 100000 in
theorem zc_89 : Cond.code yX12_label cX12_label 1 (some (.object "java/lang/String")) ∈ zt := List.mem_append_right _ (List.mem_append_right _ (List.mem_append_right _ (List.mem_append_right _ (List.mem_append_right _ (List.mem_append_right _ (List.mem_append_right _ (List.mem_append_right _ (List.mem_append_right _ (List.mem_append_right _ (List.mem_append_left _ (List.mem_of_getElem? (l := tables_1_9) (i := 146) rfl)))))))))))
set_option maxHeartbeats 4000000 in
set_option maxRecDepth 100000 in
theorem zc_90 : Cond.code yJ8_newLength_cabcc cJ8_newLength_cabcc 4 (some .int) ∈ zt := List.mem_append_right _ (List.mem_append_right _ (List.mem_append_right _ (List.mem_append_right _ (List.mem_append_right _ (List.mem_append_right _ (List.mem_append_left _ (List.mem_of_getElem? (l := tables_1_5) (i := 25) rfl)))))))
set_option maxHeartbeats 4000000 in
set_option maxRecDepth 100000 in
theorem zc_91 : Cond.code Lib.Math.max.name Lib.Math.max.code 2 (some .int) ∈ zt := List.mem_append_right _ (List.mem_append_right _ (List.mem_append_left _ (List.mem_of_getElem? (l := tables_1_1) (i := 52) rfl)))
set_option maxHeartbeats 4000000 in
set_option maxRecDepth 100000 in
theorem zc_92 : Cond.code yJ5_newCapacity_0f7a4 cJ5_newCapacity_0f7a4 6 (some .int) ∈ zt := List.mem_append_right _ (List.mem_append_right _ (List.mem_append_right _ (List.mem_append_right _ (List.mem_append_right _ (List.mem_append_right _ (List.mem_append_left _ (List.mem_of_getElem? (l := tables_1_5) (i := 22) rfl)))))))
set_option maxHeartbeats 4000000 in
set_option maxRecDepth 100000 in
theorem zc_93 : Cond.code yJ7_copyOf_9075b cJ7_copyOf_9075b 3 (some (.array .byte)) ∈ zt := List.mem_append_right _ (List.mem_append_right _ (List.mem_append_right _ (List.mem_append_right _ (List.mem_append_left _ (List.mem_of_getElem? (l := tables_1_3) (i := 69) rfl)))))
set_option maxHeartbeats 4000000 in
set_option maxRecDepth 100000 in
theorem zc_94 : Cond.code yJ5_getValue_6d5f1 cJ5_getValue_6d5f1 1 (some (.array .byte)) ∈ zt := List.mem_append_right _ (List.mem_append_right _ (List.mem_append_right _ (List.mem_append_right _ (List.mem_append_right _ (List.mem_append_right _ (List.mem_append_left _ (List.mem_of_getElem? (l := tables_1_5) (i := 132) rfl)))))))
set_option maxHeartbeats 4000000 in
set_option maxRecDepth 100000 in
theorem zc_95 : Cond.code yJ5_length_8abf5 cJ5_length_8abf5 1 (some .int) ∈ zt := List.mem_append_right _ (List.mem_append_right _ (List.mem_append_right _ (List.mem_append_right _ (List.mem_append_right _ (List.mem_append_right _ (List.mem_append_left _ (List.mem_of_getElem? (l := tables_1_5) (i := 140) rfl)))))))
set_option maxHeartbeats 4000000 in
set_option maxRecDepth 100000 in
theorem zc_96 : Cond.code yJ4_length_8abf5 cJ4_length_8abf5 1 (some .int) ∈ zt := List.mem_append_right _ (List.mem_append_right _ (List.mem_append_right _ (List.mem_append_right _ (List.mem_append_right _ (List.mem_append_right _ (List.mem_append_left _ (List.mem_of_getElem? (l := tables_1_5) (i := 138) rfl)))))))
set_option maxHeartbeats 4000000 in
set_option maxRecDepth 100000 in
theorem zc_97 : Cond.code yJ5_isLatin1_aae02 cJ5_isLatin1_aae02 1 (some .boolean) ∈ zt := List.mem_append_right _ (List.mem_append_right _ (List.mem_append_right _ (List.mem_append_right _ (List.mem_append_right _ (List.mem_append_right _ (List.mem_append_left _ (List.mem_of_getElem? (l := tables_1_5) (i := 37) rfl)))))))
set_option maxHeartbeats 4000000 in
set_option maxRecDepth 100000 in
theorem zc_98 : Cond.code yJ7_checkLength_df160 cJ7_checkLength_df160 2 none ∈ zt := List.mem_append_right _ (List.mem_append_right _ (List.mem_append_right _ (List.mem_append_right _ (List.mem_append_right _ (List.mem_append_left _ (List.mem_of_getElem? (l := tables_1_4) (i := 171) rfl))))))
set_option maxHeartbeats 4000000 in
set_option maxRecDepth 100000 in
theorem zc_99 : Cond.code yJ7_copyOfRangeByte_39247 cJ7_copyOfRangeByte_39247 5 (some (.array .byte)) ∈ zt := List.mem_append_right _ (List.mem_append_right _ (List.mem_append_right _ (List.mem_append_right _ (List.mem_append_right _ (List.mem_append_left _ (List.mem_of_getElem? (l := tables_1_4) (i := 168) rfl))))))
set_option maxHeartbeats 4000000 in
set_option maxRecDepth 100000 in
theorem zc_100 : Cond.code yJ7_copyOfRange_39247 cJ7_copyOfRange_39247 3 (some (.array .byte)) ∈ zt := List.mem_append_right _ (List.mem_append_right _ (List.mem_append_right _ (List.mem_append_right _ (List.mem_append_right _ (List.mem_append_left _ (List.mem_of_getElem? (l := tables_1_4) (i := 165) rfl))))))
set_option maxHeartbeats 4000000 in
set_option maxRecDepth 100000 in
theorem zc_101 : Cond.code yJ0_init_db425 cJ0_init_db425 5 none ∈ zt := List.mem_append_right _ (List.mem_append_right _ (List.mem_append_right _ (List.mem_append_right _ (List.mem_append_right _ (List.mem_append_right _ (List.mem_append_left _ (List.mem_of_getElem? (l := tables_1_5) (i := 126) rfl)))))))
set_option maxHeartbeats 4000000 in
set_option maxRecDepth 100000 in
theorem zc_102 : Cond.code yJ0_init_81219 cJ0_init_81219 2 none ∈ zt := List.mem_append_right _ (List.mem_append_right _ (List.mem_append_right _ (List.mem_append_right _ (List.mem_append_right _ (List.mem_append_right _ (List.mem_append_left _ (List.mem_of_getElem? (l := tables_1_5) (i := 123) rfl)))))))
set_option maxHeartbeats 4000000 in
set_option maxRecDepth 100000 in
theorem zc_103 : Cond.code yJ4_toString_0e30d cJ4_toString_0e30d 1 (some (.object "java/lang/String")) ∈ zt := List.mem_append_right _ (List.mem_append_right _ (List.mem_append_right _ (List.mem_append_right _ (List.mem_append_right _ (List.mem_append_right _ (List.mem_append_left _ (List.mem_of_getElem? (l := tables_1_5) (i := 118) rfl)))))))
set_option maxHeartbeats 4000000 in
set_option maxRecDepth 100000 in
theorem zc_104 : Cond.code yX12_put cX12_put 2 none ∈ zt := List.mem_append_right _ (List.mem_append_right _ (List.mem_append_right _ (List.mem_append_right _ (List.mem_append_right _ (List.mem_append_right _ (List.mem_append_right _ (List.mem_append_right _ (List.mem_append_right _ (List.mem_append_right _ (List.mem_append_right _ (List.mem_append_right _ (List.mem_of_getElem? (l := tables_1_11) (i := 64) rfl))))))))))))
set_option maxHeartbeats 4000000 in
set_option maxRecDepth 100000 in
theorem zc_105 : Cond.code yX12_putText cX12_putText 3 none ∈ zt := List.mem_append_right _ (List.mem_append_right _ (List.mem_append_right _ (List.mem_append_right _ (List.mem_append_right _ (List.mem_append_right _ (List.mem_append_right _ (List.mem_append_right _ (List.mem_append_right _ (List.mem_append_right _ (List.mem_append_right _ (List.mem_append_right _ (List.mem_of_getElem? (l := tables_1_11) (i := 60) rfl))))))))))))
set_option maxHeartbeats 4000000 in
set_option maxRecDepth 100000 in
theorem zc_106 : Cond.code yX12_signOf cX12_signOf 1 (some .int) ∈ zt := List.mem_append_right _ (List.mem_append_right _ (List.mem_append_right _ (List.mem_append_right _ (List.mem_append_right _ (List.mem_append_right _ (List.mem_append_right _ (List.mem_append_right _ (List.mem_append_right _ (List.mem_append_right _ (List.mem_append_right _ (List.mem_append_right _ (List.mem_of_getElem? (l := tables_1_11) (i := 90) rfl))))))))))))
set_option maxHeartbeats 4000000 in
set_option maxRecDepth 100000 in
theorem zc_107 : Cond.code yX12_putSigns cX12_putSigns 8 none ∈ zt := List.mem_append_right _ (List.mem_append_right _ (List.mem_append_right _ (List.mem_append_right _ (List.mem_append_right _ (List.mem_append_right _ (List.mem_append_right _ (List.mem_append_right _ (List.mem_append_right _ (List.mem_append_right _ (List.mem_append_right _ (List.mem_append_right _ (List.mem_of_getElem? (l := tables_1_11) (i := 87) rfl))))))))))))
set_option maxHeartbeats 4000000 in
set_option maxRecDepth 100000 in
theorem zc_108 : Cond.code yX11_hash cX11_hash 3 (some .int) ∈ zt := List.mem_append_right _ (List.mem_append_right _ (List.mem_append_right _ (List.mem_append_right _ (List.mem_append_right _ (List.mem_append_right _ (List.mem_append_right _ (List.mem_append_right _ (List.mem_append_right _ (List.mem_append_left _ (List.mem_of_getElem? (l := tables_1_8) (i := 131) rfl))))))))))
set_option maxHeartbeats 4000000 in
set_option maxRecDepth 100000 in
theorem zc_109 : Cond.codeWith yL_hash cL_hash 5 (some .int) [(0, 10, 13, 13), (0, 10, 17, 19)] ∈ zt := List.mem_append_right _ (List.mem_append_right _ (List.mem_append_right _ (List.mem_append_right _ (List.mem_append_right _ (List.mem_append_right _ (List.mem_append_right _ (List.mem_append_right _ (List.mem_append_right _ (List.mem_append_left _ (List.mem_of_getElem? (l := tables_1_8) (i := 127) rfl))))))))))
set_option maxHeartbeats 4000000 in
set_option maxRecDepth 100000 in
theorem zc_110 : Cond.code yX12_hash cX12_hash 4 (some .int) ∈ zt := List.mem_append_right _ (List.mem_append_right _ (List.mem_append_right _ (List.mem_append_right _ (List.mem_append_right _ (List.mem_append_right _ (List.mem_append_right _ (List.mem_append_right _ (List.mem_append_right _ (List.mem_append_right _ (List.mem_append_right _ (List.mem_append_right _ (List.mem_of_getElem? (l := tables_1_11) (i := 119) rfl))))))))))))
set_option maxHeartbeats 4000000 in
set_option maxRecDepth 100000 in
theorem zc_111 : Cond.code yX10_number cX10_number 8 (some .long) ∈ zt := List.mem_append_right _ (List.mem_append_right _ (List.mem_append_right _ (List.mem_append_right _ (List.mem_append_right _ (List.mem_append_left _ (List.mem_of_getElem? (l := tables_1_4) (i := 79) rfl))))))
set_option maxHeartbeats 4000000 in
set_option maxRecDepth 100000 in
theorem zc_112 : Cond.code yX1_wordOf cX1_wordOf 4 (some .int) ∈ zt := List.mem_append_right _ (List.mem_append_right _ (List.mem_append_right _ (List.mem_append_right _ (List.mem_append_right _ (List.mem_append_right _ (List.mem_append_right _ (List.mem_append_left _ (List.mem_of_getElem? (l := tables_1_6) (i := 45) rfl))))))))
set_option maxHeartbeats 4000000 in
set_option maxRecDepth 100000 in
theorem zc_113 : Cond.code yX1_mixFirst cX1_mixFirst 9 none ∈ zt := List.mem_append_right _ (List.mem_append_right _ (List.mem_append_right _ (List.mem_append_right _ (List.mem_append_right _ (List.mem_append_right _ (List.mem_append_right _ (List.mem_append_left _ (List.mem_of_getElem? (l := tables_1_6) (i := 56) rfl))))))))
set_option maxHeartbeats 4000000 in
set_option maxRecDepth 100000 in
theorem zc_114 : Cond.code yX1_make cX1_make 6 none ∈ zt := List.mem_append_right _ (List.mem_append_right _ (List.mem_append_right _ (List.mem_append_right _ (List.mem_append_right _ (List.mem_append_right _ (List.mem_append_right _ (List.mem_append_left _ (List.mem_of_getElem? (l := tables_1_6) (i := 38) rfl))))))))
set_option maxHeartbeats 4000000 in
set_option maxRecDepth 100000 in
theorem zc_115 : Cond.code yX1_at cX1_at 2 (some .int) ∈ zt := List.mem_append_right _ (List.mem_append_right _ (List.mem_append_right _ (List.mem_append_right _ (List.mem_append_right _ (List.mem_append_right _ (List.mem_append_right _ (List.mem_append_left _ (List.mem_of_getElem? (l := tables_1_6) (i := 64) rfl))))))))
set_option maxHeartbeats 4000000 in
set_option maxRecDepth 100000 in
theorem zc_116 : Cond.code yX12_sayRow cX12_sayRow 5 none ∈ zt := List.mem_append_right _ (List.mem_append_right _ (List.mem_append_right _ (List.mem_append_right _ (List.mem_append_right _ (List.mem_append_right _ (List.mem_append_right _ (List.mem_append_right _ (List.mem_append_right _ (List.mem_append_right _ (List.mem_append_right _ (List.mem_append_left _ (List.mem_of_getElem? (l := tables_1_10) (i := 20) rfl))))))))))))
set_option maxHeartbeats 4000000 in
set_option maxRecDepth 100000 in
theorem zc_117 : Cond.code yX12_say cX12_say 2 none ∈ zt := List.mem_append_right _ (List.mem_append_right _ (List.mem_append_right _ (List.mem_append_right _ (List.mem_append_right _ (List.mem_append_right _ (List.mem_append_right _ (List.mem_append_right _ (List.mem_append_right _ (List.mem_append_right _ (List.mem_append_right _ (List.mem_append_left _ (List.mem_of_getElem? (l := tables_1_10) (i := 12) rfl))))))))))))
set_option maxHeartbeats 4000000 in
set_option maxRecDepth 100000 in
theorem zc_118 : Cond.code yX12_sayNumber cX12_sayNumber 5 none ∈ zt := List.mem_append_right _ (List.mem_append_right _ (List.mem_append_right _ (List.mem_append_right _ (List.mem_append_right _ (List.mem_append_right _ (List.mem_append_right _ (List.mem_append_right _ (List.mem_append_right _ (List.mem_append_right _ (List.mem_append_right _ (List.mem_append_left _ (List.mem_of_getElem? (l := tables_1_10) (i := 16) rfl))))))))))))
set_option maxHeartbeats 4000000 in
set_option maxRecDepth 100000 in
theorem zc_119 : Cond.code yX12_close cX12_close 3 (some .int) ∈ zt := List.mem_append_right _ (List.mem_append_right _ (List.mem_append_right _ (List.mem_append_right _ (List.mem_append_right _ (List.mem_append_right _ (List.mem_append_right _ (List.mem_append_right _ (List.mem_append_right _ (List.mem_append_right _ (List.mem_append_right _ (List.mem_append_left _ (List.mem_of_getElem? (l := tables_1_10) (i := 32) rfl))))))))))))
set_option maxHeartbeats 4000000 in
set_option maxRecDepth 100000 in
theorem zc_120 : Cond.code yX12_number cX12_number 6 (some .long) ∈ zt := List.mem_append_right _ (List.mem_append_right _ (List.mem_append_right _ (List.mem_append_right _ (List.mem_append_right _ (List.mem_append_right _ (List.mem_append_right _ (List.mem_append_right _ (List.mem_append_right _ (List.mem_append_right _ (List.mem_append_right _ (List.mem_append_left _ (List.mem_of_getElem? (l := tables_1_10) (i := 41) rfl))))))))))))
set_option maxHeartbeats 4000000 in
set_option maxRecDepth 100000 in
theorem zc_121 : Cond.code yX12_left cX12_left 2 (some .int) ∈ zt := List.mem_append_right _ (List.mem_append_right _ (List.mem_append_right _ (List.mem_append_right _ (List.mem_append_right _ (List.mem_append_right _ (List.mem_append_right _ (List.mem_append_right _ (List.mem_append_right _ (List.mem_append_right _ (List.mem_append_right _ (List.mem_append_left _ (List.mem_of_getElem? (l := tables_1_10) (i := 44) rfl))))))))))))
set_option maxHeartbeats 4000000 in
set_option maxRecDepth 100000 in
theorem zc_122 : Cond.code yX12_keep cX12_keep 4 none ∈ zt := List.mem_append_right _ (List.mem_append_right _ (List.mem_append_right _ (List.mem_append_right _ (List.mem_append_right _ (List.mem_append_right _ (List.mem_append_right _ (List.mem_append_right _ (List.mem_append_right _ (List.mem_append_right _ (List.mem_append_right _ (List.mem_append_left _ (List.mem_of_getElem? (l := tables_1_10) (i := 52) rfl))))))))))))
set_option maxHeartbeats 4000000 in
set_option maxRecDepth 100000 in
theorem zc_123 : Cond.code yX12_firstHash cX12_firstHash 17 none ∈ zt := List.mem_append_right _ (List.mem_append_right _ (List.mem_append_right _ (List.mem_append_right _ (List.mem_append_right _ (List.mem_append_right _ (List.mem_append_right _ (List.mem_append_right _ (List.mem_append_right _ (List.mem_append_right _ (List.mem_append_right _ (List.mem_append_left _ (List.mem_of_getElem? (l := tables_1_10) (i := 28) rfl))))))))))))
set_option maxHeartbeats 4000000 in
set_option maxRecDepth 100000 in
theorem zc_124 : Cond.code yX12_hashOf cX12_hashOf 2 (some .int) ∈ zt := List.mem_append_right _ (List.mem_append_right _ (List.mem_append_right _ (List.mem_append_right _ (List.mem_append_right _ (List.mem_append_right _ (List.mem_append_right _ (List.mem_append_right _ (List.mem_append_right _ (List.mem_append_right _ (List.mem_append_right _ (List.mem_append_left _ (List.mem_of_getElem? (l := tables_1_10) (i := 24) rfl))))))))))))
set_option maxHeartbeats 4000000 in
set_option maxRecDepth 100000 in
theorem zc_125 : Cond.code yX1_mixSecond cX1_mixSecond 12 none ∈ zt := List.mem_append_right _ (List.mem_append_right _ (List.mem_append_right _ (List.mem_append_right _ (List.mem_append_right _ (List.mem_append_right _ (List.mem_append_right _ (List.mem_append_left _ (List.mem_of_getElem? (l := tables_1_6) (i := 50) rfl))))))))
set_option maxHeartbeats 4000000 in
set_option maxRecDepth 100000 in
theorem zc_126 : Cond.code yX12_secondHash cX12_secondHash 12 none ∈ zt := List.mem_append_right _ (List.mem_append_right _ (List.mem_append_right _ (List.mem_append_right _ (List.mem_append_right _ (List.mem_append_right _ (List.mem_append_right _ (List.mem_append_right _ (List.mem_append_right _ (List.mem_append_right _ (List.mem_append_right _ (List.mem_append_left _ (List.mem_of_getElem? (l := tables_1_10) (i := 56) rfl))))))))))))
set_option maxHeartbeats 4000000 in
set_option maxRecDepth 100000 in
theorem zc_127 : Cond.code yX10_init cX10_init 4 none ∈ zt := List.mem_append_right _ (List.mem_append_right _ (List.mem_append_left _ (List.mem_of_getElem? (l := tables_1_1) (i := 55) rfl)))
set_option maxHeartbeats 4000000 in
set_option maxRecDepth 100000 in
theorem zc_128 : Cond.code yX0_init cX0_init 2 none ∈ zt := List.mem_append_right _ (List.mem_append_right _ (List.mem_append_left _ (List.mem_of_getElem? (l := tables_1_1) (i := 49) rfl)))
set_option maxHeartbeats 4000000 in
set_option maxRecDepth 100000 in
theorem zc_129 : Cond.code yX4_init cX4_init 1 none ∈ zt := List.mem_append_right _ (List.mem_append_right _ (List.mem_append_left _ (List.mem_of_getElem? (l := tables_1_1) (i := 123) rfl)))
set_option maxHeartbeats 4000000 in
set_option maxRecDepth 100000 in
theorem zc_130 : Cond.code yX9_init cX9_init 1 none ∈ zt := List.mem_append_right _ (List.mem_append_right _ (List.mem_append_left _ (List.mem_of_getElem? (l := tables_1_1) (i := 158) rfl)))
set_option maxHeartbeats 4000000 in
set_option maxRecDepth 100000 in
theorem zc_131 : Cond.code yX1_init cX1_init 1 none ∈ zt := List.mem_append_right _ (List.mem_append_right _ (List.mem_append_left _ (List.mem_of_getElem? (l := tables_1_1) (i := 189) rfl)))
set_option maxHeartbeats 4000000 in
set_option maxRecDepth 100000 in
theorem zc_132 : Cond.code yJxa1e45_init_da8c8 cJxa1e45_init_da8c8 1 none ∈ zt := List.mem_append_right _ (List.mem_append_right _ (List.mem_append_left _ (List.mem_of_getElem? (l := tables_1_1) (i := 219) rfl)))
set_option maxHeartbeats 4000000 in
set_option maxRecDepth 100000 in
theorem zc_133 : Cond.code yJxc12de_init_da8c8 cJxc12de_init_da8c8 1 none ∈ zt := List.mem_append_right _ (List.mem_append_right _ (List.mem_append_left _ (List.mem_of_getElem? (l := tables_1_1) (i := 216) rfl)))
set_option maxHeartbeats 4000000 in
set_option maxRecDepth 100000 in
theorem zc_134 : Cond.code yJx4a65c_init_da8c8 cJx4a65c_init_da8c8 1 none ∈ zt := List.mem_append_right _ (List.mem_append_right _ (List.mem_append_left _ (List.mem_of_getElem? (l := tables_1_1) (i := 213) rfl)))
set_option maxHeartbeats 4000000 in
set_option maxRecDepth 100000 in
theorem zc_135 : Cond.code yX5_init cX5_init 2 none ∈ zt := List.mem_append_right _ (List.mem_append_right _ (List.mem_append_right _ (List.mem_append_left _ (List.mem_of_getElem? (l := tables_1_2) (i := 6) rfl))))
set_option maxHeartbeats 4000000 in
set_option maxRecDepth 100000 in
theorem zc_136 : Cond.code yX3_init cX3_init 3 none ∈ zt := List.mem_append_right _ (List.mem_append_right _ (List.mem_append_right _ (List.mem_append_left _ (List.mem_of_getElem? (l := tables_1_2) (i := 3) rfl))))
set_option maxHeartbeats 4000000 in
set_option maxRecDepth 100000 in
theorem zc_137 : Cond.code yX8_init cX8_init 2 none ∈ zt := List.mem_append_right _ (List.mem_append_right _ (List.mem_append_right _ (List.mem_append_left _ (List.mem_of_getElem? (l := tables_1_2) (i := 86) rfl))))
set_option maxHeartbeats 4000000 in
set_option maxRecDepth 100000 in
theorem zc_138 : Cond.code yX7_init cX7_init 1 none ∈ zt := List.mem_append_right _ (List.mem_append_right _ (List.mem_append_left _ (List.mem_of_getElem? (l := tables_1_1) (i := 207) rfl)))
set_option maxHeartbeats 4000000 in
set_option maxRecDepth 100000 in
theorem zc_139 : Cond.code yX6_init cX6_init 1 none ∈ zt := List.mem_append_right _ (List.mem_append_right _ (List.mem_append_right _ (List.mem_append_left _ (List.mem_of_getElem? (l := tables_1_2) (i := 193) rfl))))
set_option maxHeartbeats 4000000 in
set_option maxRecDepth 100000 in
theorem zc_140 : Cond.code yX2_init cX2_init 1 none ∈ zt := List.mem_append_right _ (List.mem_append_right _ (List.mem_append_right _ (List.mem_append_left _ (List.mem_of_getElem? (l := tables_1_2) (i := 183) rfl))))
set_option maxHeartbeats 4000000 in
set_option maxRecDepth 100000 in
theorem zc_141 : Cond.code yX11_init cX11_init 1 none ∈ zt := List.mem_append_right _ (List.mem_append_right _ (List.mem_append_left _ (List.mem_of_getElem? (l := tables_1_1) (i := 41) rfl)))
set_option maxHeartbeats 4000000 in
set_option maxRecDepth 100000 in
theorem zc_142 : Cond.code yX12_init cX12_init 1 none ∈ zt := List.mem_append_right _ (List.mem_append_right _ (List.mem_append_right _ (List.mem_append_right _ (List.mem_append_right _ (List.mem_append_right _ (List.mem_append_right _ (List.mem_append_right _ (List.mem_append_right _ (List.mem_append_left _ (List.mem_of_getElem? (l := tables_1_8) (i := 137) rfl))))))))))

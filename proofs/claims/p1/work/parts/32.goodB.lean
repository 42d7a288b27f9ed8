set_option maxHeartbeats 4000000 in
set_option maxRecDepth 100000 in
theorem gc_0 : GoodIn zt ((vx_at0 RX11 144 "java/lang/IndexOutOfBoundsException" ["java/lang/RuntimeException", "java/lang/Exception"]).filter goodWord) := goodIn_sub (by decide +kernel) (by decide +kernel)
set_option maxHeartbeats 4000000 in
set_option maxRecDepth 100000 in
theorem gc_1 : GoodIn zt ((vx_at0 RX11 210 "java/lang/ArrayIndexOutOfBoundsException" ["java/lang/IndexOutOfBoundsException", "java/lang/RuntimeException", "java/lang/Exception"]).filter goodWord) := goodIn_sub (by decide +kernel) (by decide +kernel)
set_option maxHeartbeats 4000000 in
set_option maxRecDepth 100000 in
theorem gc_2 : GoodIn zt ((vx_at0 RX11 114 "java/lang/IllegalArgumentException" ["java/lang/RuntimeException", "java/lang/Exception"]).filter goodWord) := goodIn_sub (by decide +kernel) (by decide +kernel)
set_option maxHeartbeats 4000000 in
set_option maxRecDepth 100000 in
theorem gu_RX4 : GoodIn zt wsX40 := goodIn_sub it_RX4 (by decide +kernel)
set_option maxHeartbeats 4000000 in
set_option maxRecDepth 100000 in
theorem gu_RX11 : GoodIn zt wsX110 := goodIn_sub it_RX11 (by decide +kernel)
set_option maxHeartbeats 4000000 in
set_option maxRecDepth 100000 in
theorem gu_RX0 : GoodIn zt wsX00 := goodIn_sub it_RX0 (by decide +kernel)
set_option maxHeartbeats 4000000 in
set_option maxRecDepth 100000 in
theorem gu_RJx4a65c : GoodIn zt wsJx4a65c0 := goodIn_sub it_RJx4a65c (by decide +kernel)
set_option maxHeartbeats 4000000 in
set_option maxRecDepth 100000 in
theorem gu_RX7 : GoodIn zt wsX70 := goodIn_sub it_RX7 (by decide +kernel)
set_option maxHeartbeats 4000000 in
set_option maxRecDepth 100000 in
theorem gu_RX12 : GoodIn zt wsX120 := goodIn_sub it_RX12 (by decide +kernel)
set_option maxHeartbeats 4000000 in
set_option maxRecDepth 100000 in
theorem gu_RX10 : GoodIn zt wsX100 := goodIn_sub it_RX10 (by decide +kernel)
set_option maxHeartbeats 4000000 in
set_option maxRecDepth 100000 in
theorem gu_RJ4 : GoodIn zt wsJ40 := goodIn_sub it_RJ4 (by decide +kernel)
set_option maxHeartbeats 4000000 in
set_option maxRecDepth 100000 in
theorem gu_RJ0 : GoodIn zt wsJ00 := goodIn_sub it_RJ0 (by decide +kernel)
set_option maxHeartbeats 4000000 in
set_option maxRecDepth 100000 in
theorem gu_RX1 : GoodIn zt wsX10 := goodIn_sub it_RX1 (by decide +kernel)
set_option maxHeartbeats 4000000 in
set_option maxRecDepth 100000 in
theorem gu_RX9 : GoodIn zt wsX90 := goodIn_sub it_RX9 (by decide +kernel)
set_option maxHeartbeats 4000000 in
set_option maxRecDepth 100000 in
theorem gu_RX3 : GoodIn zt wsX30 := goodIn_sub it_RX3 (by decide +kernel)
set_option maxHeartbeats 4000000 in
set_option maxRecDepth 100000 in
theorem gu_RX8 : GoodIn zt wsX80 := goodIn_sub it_RX8 (by decide +kernel)
set_option maxHeartbeats 4000000 in
set_option maxRecDepth 100000 in
theorem gu_RX6 : GoodIn zt wsX60 := goodIn_sub it_RX6 (by decide +kernel)
set_option maxHeartbeats 4000000 in
set_option maxRecDepth 100000 in
theorem gu_RX2 : GoodIn zt wsX20 := goodIn_sub it_RX2 (by decide +kernel)
set_option maxHeartbeats 4000000 in
set_option maxRecDepth 100000 in
theorem gl_c_X4_open : GoodIn zt wz_c_X4_open := goodIn_ca (zz_cons zc_0 (by decide +kernel) (zz_sub (js := [96, 98, 99]) (by decide +kernel) (by decide +kernel))) (goodIn_app (gu_RX4) (gl_nil _))
set_option maxHeartbeats 4000000 in
set_option maxRecDepth 100000 in
theorem gl_c_X11_isInSigns : GoodIn zt wz_c_X11_isInSigns := goodIn_ca (zz_cons zc_1 (by decide +kernel) (zz_sub (js := [195, 77, 76]) (by decide +kernel) (by decide +kernel))) (goodIn_app (gu_RX11) (goodIn_app (gu_RX0) (gl_nil _)))
set_option maxHeartbeats 4000000 in
set_option maxRecDepth 100000 in
theorem gl_c_X11_openKeys : GoodIn zt wz_c_X11_openKeys := goodIn_ca (zz_cons zc_2 (by decide +kernel) (zz_sub (js := [200, 195, 220, 221, 222, 31, 223, 224, 5, 27]) (by decide +kernel) (by decide +kernel))) (goodIn_app (gu_RX11) (goodIn_app (gl_c_X4_open) (goodIn_app (gl_c_X11_isInSigns) (gl_nil _))))
set_option maxHeartbeats 4000000 in
set_option maxRecDepth 100000 in
theorem gl_c_size : GoodIn zt wz_c_size := goodIn_ca (zz_cons zc_3 (by decide +kernel) (zz_sub (js := [131]) (by decide +kernel) (by decide +kernel))) (goodIn_app (gu_RJx4a65c) (gl_nil _))
set_option maxHeartbeats 4000000 in
set_option maxRecDepth 100000 in
theorem gl_c_X4_more : GoodIn zt wz_c_X4_more := goodIn_ca (zz_cons zc_4 (by decide +kernel) (zz_sub (js := [99, 96, 80]) (by decide +kernel) (by decide +kernel))) (goodIn_app (gu_RX4) (goodIn_app (gu_RX0) (gl_nil _)))
set_option maxHeartbeats 4000000 in
set_option maxRecDepth 100000 in
theorem gl_c_X7_joinAll : GoodIn zt wz_c_X7_joinAll := goodIn_ca (zz_cons zc_5 (by decide +kernel) (zz_sub (js := [163, 164, 157, 253, 254, 255, 37, 256, 257, 258, 31, 97, 79]) (by decide +kernel) (by decide +kernel))) (goodIn_app (gu_RX7) (goodIn_app (gu_RX4) (goodIn_app (gu_RX0) (goodIn_app (gl_c_size) (goodIn_app (gl_c_X4_more) (gl_nil _))))))
set_option maxHeartbeats 4000000 in
set_option maxRecDepth 100000 in
theorem gl_c_X11_join : GoodIn zt wz_c_X11_join := goodIn_ca (zz_cons zc_6 (by decide +kernel) (zz_sub (js := [218, 219, 4, 27, 203, 200, 250, 251, 252, 34, 195, 77, 76]) (by decide +kernel) (by decide +kernel))) (goodIn_app (gu_RX11) (goodIn_app (gu_RX0) (goodIn_app (gl_c_X11_openKeys) (goodIn_app (gl_c_X7_joinAll) (gl_nil _)))))
set_option maxHeartbeats 4000000 in
set_option maxRecDepth 100000 in
theorem gl_c_M_part0 : GoodIn zt wz_c_M_part0 := goodIn_ca (zz_cons zc_7 (by decide +kernel) (zz_sub (js := [115]) (by decide +kernel) (by decide +kernel))) (gl_nil _)
set_option maxHeartbeats 4000000 in
set_option maxRecDepth 100000 in
theorem gl_c_M_taken : GoodIn zt wz_c_M_taken := goodIn_ca (zz_cons zc_8 (by decide +kernel) (zz_sub (js := [427, 426, 460, 461, 43]) (by decide +kernel) (by decide +kernel))) (goodIn_app (gu_RX12) (goodIn_app (gl_c_M_part0) (gl_nil _)))
set_option maxHeartbeats 4000000 in
set_option maxRecDepth 100000 in
theorem gl_c_M_open : GoodIn zt wz_c_M_open := goodIn_ca (zz_cons zc_9 (by decide +kernel) (zz_sub (js := [451, 452, 453]) (by decide +kernel) (by decide +kernel))) (goodIn_app (gu_RX12) (gl_nil _))
set_option maxHeartbeats 4000000 in
set_option maxRecDepth 100000 in
theorem gl_c_M_fail : GoodIn zt wz_c_M_fail := goodIn_ca (zz_cons zc_10 (by decide +kernel) (zz_sub (js := [450]) (by decide +kernel) (by decide +kernel))) (goodIn_app (gu_RX12) (gl_nil _))
set_option maxHeartbeats 4000000 in
set_option maxRecDepth 100000 in
theorem gl_c_M_readKeys : GoodIn zt wz_c_M_readKeys := goodIn_ca (zz_cons zc_11 (by decide +kernel) (zz_sub (js := [450, 452, 451, 462, 463, 10, 43]) (by decide +kernel) (by decide +kernel))) (goodIn_app (gu_RX12) (goodIn_app (gl_c_M_fail) (gl_nil _)))
set_option maxHeartbeats 4000000 in
set_option maxRecDepth 100000 in
theorem gl_c_M_join : GoodIn zt wz_c_M_join := goodIn_ca (zz_cons zc_12 (by decide +kernel) (zz_sub (js := [425, 450, 431, 435, 458, 459, 9, 43, 475, 476, 11, 477, 478, 12]) (by decide +kernel) (by decide +kernel))) (goodIn_app (gu_RX12) (goodIn_app (gl_c_M_taken) (goodIn_app (gl_c_M_open) (goodIn_app (gl_c_M_readKeys) (gl_nil _)))))
set_option maxHeartbeats 4000000 in
set_option maxRecDepth 100000 in
theorem gl_c_X0_pushSpan : GoodIn zt wz_c_X0_pushSpan := goodIn_ca (zz_cons zc_13 (by decide +kernel) (zz_sub (js := [71, 75, 76]) (by decide +kernel) (by decide +kernel))) (goodIn_app (gu_RX0) (gl_nil _))
set_option maxHeartbeats 4000000 in
set_option maxRecDepth 100000 in
theorem gl_c_X11_document : GoodIn zt wz_c_X11_document := goodIn_ca (zz_cons zc_14 (by decide +kernel) (zz_sub (js := [196, 77, 76, 195, 357, 264, 265, 29, 208]) (by decide +kernel) (by decide +kernel))) (goodIn_app (gu_RX11) (goodIn_app (gu_RX0) (goodIn_app (gl_c_X0_pushSpan) (gl_nil _))))
set_option maxHeartbeats 4000000 in
set_option maxRecDepth 100000 in
theorem gl_c_M_document : GoodIn zt wz_c_M_document := goodIn_ca (zz_cons zc_15 (by decide +kernel) (zz_sub (js := [425, 458, 459, 9, 43, 428]) (by decide +kernel) (by decide +kernel))) (goodIn_app (gu_RX12) (goodIn_app (gl_c_M_taken) (gl_nil _)))
set_option maxHeartbeats 4000000 in
set_option maxRecDepth 100000 in
theorem gl_c_X11_keys : GoodIn zt wz_c_X11_keys := goodIn_ca (zz_cons zc_16 (by decide +kernel) (zz_sub (js := [203, 158, 358, 254, 255, 37]) (by decide +kernel) (by decide +kernel))) (goodIn_app (gu_RX11) (goodIn_app (gu_RX7) (goodIn_app (gl_c_size) (gl_nil _))))
set_option maxHeartbeats 4000000 in
set_option maxRecDepth 100000 in
theorem gl_c_M_keys : GoodIn zt wz_c_M_keys := goodIn_ca (zz_cons zc_17 (by decide +kernel) (zz_sub (js := [425, 431]) (by decide +kernel) (by decide +kernel))) (goodIn_app (gu_RX12) (gl_nil _))
set_option maxHeartbeats 4000000 in
set_option maxRecDepth 100000 in
theorem gl_c_X9_sumOf : GoodIn zt wz_c_X9_sumOf := goodIn_ca (zz_cons zc_18 (by decide +kernel) (zz_sub (js := [248, 81]) (by decide +kernel) (by decide +kernel))) (goodIn_app (gu_RX0) (gl_nil _))
set_option maxHeartbeats 4000000 in
set_option maxRecDepth 100000 in
theorem gl_c_X11_sum : GoodIn zt wz_c_X11_sum := goodIn_ca (zz_cons zc_19 (by decide +kernel) (zz_sub (js := [206, 359, 247, 32]) (by decide +kernel) (by decide +kernel))) (goodIn_app (gu_RX11) (goodIn_app (gl_c_X9_sumOf) (gl_nil _)))
set_option maxHeartbeats 4000000 in
set_option maxRecDepth 100000 in
theorem gl_c_M_sumOf : GoodIn zt wz_c_M_sumOf := goodIn_ca (zz_cons zc_20 (by decide +kernel) (zz_sub (js := [474]) (by decide +kernel) (by decide +kernel))) (gl_nil _)
set_option maxHeartbeats 4000000 in
set_option maxRecDepth 100000 in
theorem gl_c_M_sum : GoodIn zt wz_c_M_sum := goodIn_ca (zz_cons zc_21 (by decide +kernel) (zz_sub (js := [425, 430, 429, 472, 473, 43]) (by decide +kernel) (by decide +kernel))) (goodIn_app (gu_RX12) (goodIn_app (gl_c_M_sumOf) (gl_nil _)))
set_option maxHeartbeats 4000000 in
set_option maxRecDepth 100000 in
theorem gl_c_X11_take : GoodIn zt wz_c_X11_take := goodIn_ca (zz_cons zc_22 (by decide +kernel) (goodIn_app (a := [.fieldLink RX11 14 "SignetRing" "bytes" "LSignetRing$Bytes;", .fieldLink RX11 86 "SignetRing$Bytes" "size" "I", .sameField "SignetRing$Bytes" "SignetRing$Span" "size" "I", .fieldLink RX11 80 "SignetRing" "out" "LSignetRing$Bytes;", .methodLink RX11 219 Lib.Math.min.name, .static Lib.Math.min.name, .initialized "java/lang/Math"]) (zz_sub (js := [195, 77, 76, 206, 360, 214, 30]) (by decide +kernel) (by decide +kernel)) (zz_cons zc_23 (by decide +kernel) (zz_sub (js := [357, 264, 265, 29]) (by decide +kernel) (by decide +kernel))))) (goodIn_app (gu_RX11) (goodIn_app (gu_RX0) (goodIn_app (gl_c_X0_pushSpan) (gl_nil _))))
set_option maxHeartbeats 4000000 in
set_option maxRecDepth 100000 in
theorem gl_c_M_take : GoodIn zt wz_c_M_take := goodIn_ca (zz_cons zc_24 (by decide +kernel) (zz_sub (js := [425, 429, 426]) (by decide +kernel) (by decide +kernel))) (goodIn_app (gu_RX12) (gl_nil _))
set_option maxHeartbeats 4000000 in
set_option maxRecDepth 100000 in
theorem gl_c_X11_found : GoodIn zt wz_c_X11_found := goodIn_ca (zz_cons zc_25 (by decide +kernel) (zz_sub (js := [203, 158, 358, 254, 255, 37]) (by decide +kernel) (by decide +kernel))) (goodIn_app (gu_RX11) (goodIn_app (gu_RX7) (goodIn_app (gl_c_size) (gl_nil _))))
set_option maxHeartbeats 4000000 in
set_option maxRecDepth 100000 in
theorem gl_c_X11_key : GoodIn zt wz_c_X11_key := goodIn_ca (zz_cons zc_26 (by decide +kernel) (zz_sub (js := [380, 381, 8, 27, 382, 53]) (by decide +kernel) (by decide +kernel))) (goodIn_app (gc_0) (goodIn_app (gl_c_X11_found) (gl_nil _)))
set_option maxHeartbeats 4000000 in
set_option maxRecDepth 100000 in
theorem gl_c_L_key : GoodIn zt wz_c_L_key := goodIn_ca (zz_cons zc_27 (by decide +kernel) (zz_sub (js := [377, 378, 379, 27, 376]) (by decide +kernel) (by decide +kernel))) (goodIn_app (gl_c_X11_key) (gl_nil _))
set_option maxHeartbeats 4000000 in
set_option maxRecDepth 100000 in
theorem gl_c_M_placeOf : GoodIn zt wz_c_M_placeOf := goodIn_ca (zz_cons zc_28 (by decide +kernel) (zz_sub (js := [431]) (by decide +kernel) (by decide +kernel))) (goodIn_app (gu_RX12) (gl_nil _))
set_option maxHeartbeats 4000000 in
set_option maxRecDepth 100000 in
theorem gl_c_M_key : GoodIn zt wz_c_M_key := goodIn_ca (zz_cons zc_29 (by decide +kernel) (zz_sub (js := [524, 525, 22, 43, 425]) (by decide +kernel) (by decide +kernel))) (goodIn_app (gu_RX12) (goodIn_app (gl_c_M_placeOf) (gl_nil _)))
set_option maxHeartbeats 4000000 in
set_option maxRecDepth 100000 in
theorem gl_c_M_thrown : GoodIn zt wz_c_M_thrown := goodIn_ca (zz_cons zc_30 (by decide +kernel) (zz_sub (js := [425]) (by decide +kernel) (by decide +kernel))) (goodIn_app (gu_RX12) (gl_nil _))
set_option maxHeartbeats 4000000 in
set_option maxRecDepth 100000 in
theorem gl_c_X11_print : GoodIn zt wz_c_X11_print := goodIn_ca (zz_cons zc_31 (by decide +kernel) (zz_sub (js := [380, 381, 8, 27, 382, 53]) (by decide +kernel) (by decide +kernel))) (goodIn_app (gc_0) (goodIn_app (gl_c_X11_found) (gl_nil _)))
set_option maxHeartbeats 4000000 in
set_option maxRecDepth 100000 in
theorem gl_c_L_print : GoodIn zt wz_c_L_print := goodIn_ca (zz_cons zc_32 (by decide +kernel) (zz_sub (js := [383, 384, 385, 27, 376]) (by decide +kernel) (by decide +kernel))) (goodIn_app (gl_c_X11_print) (gl_nil _))
set_option maxHeartbeats 4000000 in
set_option maxRecDepth 100000 in
theorem gl_c_M_thingOf : GoodIn zt wz_c_M_thingOf := goodIn_ca (zz_cons zc_33 (by decide +kernel) (zz_sub (js := [524, 525, 22, 43]) (by decide +kernel) (by decide +kernel))) (goodIn_app (gl_c_M_placeOf) (gl_nil _))
set_option maxHeartbeats 4000000 in
set_option maxRecDepth 100000 in
theorem gl_c_M_print : GoodIn zt wz_c_M_print := goodIn_ca (zz_cons zc_34 (by decide +kernel) (zz_sub (js := [526, 527, 23, 43, 425]) (by decide +kernel) (by decide +kernel))) (goodIn_app (gu_RX12) (goodIn_app (gl_c_M_thingOf) (gl_nil _)))
set_option maxHeartbeats 4000000 in
set_option maxRecDepth 100000 in
theorem gl_c_X11_usable : GoodIn zt wz_c_X11_usable := goodIn_ca (zz_cons zc_35 (by decide +kernel) (zz_sub (js := [380, 381, 8, 27, 382, 53]) (by decide +kernel) (by decide +kernel))) (goodIn_app (gc_0) (goodIn_app (gl_c_X11_found) (gl_nil _)))
set_option maxHeartbeats 4000000 in
set_option maxRecDepth 100000 in
theorem gl_c_L_usable : GoodIn zt wz_c_L_usable := goodIn_ca (zz_cons zc_36 (by decide +kernel) (zz_sub (js := [386, 387, 388, 27, 376]) (by decide +kernel) (by decide +kernel))) (goodIn_app (gl_c_X11_usable) (gl_nil _))
set_option maxHeartbeats 4000000 in
set_option maxRecDepth 100000 in
theorem gl_c_M_usable : GoodIn zt wz_c_M_usable := goodIn_ca (zz_cons zc_37 (by decide +kernel) (zz_sub (js := [526, 527, 23, 43, 425]) (by decide +kernel) (by decide +kernel))) (goodIn_app (gu_RX12) (goodIn_app (gl_c_M_thingOf) (gl_nil _)))
set_option maxHeartbeats 4000000 in
set_option maxRecDepth 100000 in
theorem gl_c_X11_seal : GoodIn zt wz_c_X11_seal := goodIn_ca (zz_cons zc_38 (by decide +kernel) (zz_sub (js := [380, 381, 8, 27, 382, 53]) (by decide +kernel) (by decide +kernel))) (goodIn_app (gc_0) (goodIn_app (gl_c_X11_found) (gl_nil _)))
set_option maxHeartbeats 4000000 in
set_option maxRecDepth 100000 in
theorem gl_c_L_seal : GoodIn zt wz_c_L_seal := goodIn_ca (zz_cons zc_39 (by decide +kernel) (zz_sub (js := [389, 390, 391, 27, 376]) (by decide +kernel) (by decide +kernel))) (goodIn_app (gl_c_X11_seal) (gl_nil _))
set_option maxHeartbeats 4000000 in
set_option maxRecDepth 100000 in
theorem gl_c_M_seal : GoodIn zt wz_c_M_seal := goodIn_ca (zz_cons zc_40 (by decide +kernel) (zz_sub (js := [526, 527, 23, 43, 425]) (by decide +kernel) (by decide +kernel))) (goodIn_app (gu_RX12) (goodIn_app (gl_c_M_thingOf) (gl_nil _)))
set_option maxHeartbeats 4000000 in
set_option maxRecDepth 100000 in
theorem gl_c_X11_export : GoodIn zt wz_c_X11_export := goodIn_ca (zz_cons zc_41 (by decide +kernel) (zz_sub (js := [380, 381, 8, 27, 382, 53]) (by decide +kernel) (by decide +kernel))) (goodIn_app (gc_0) (goodIn_app (gl_c_X11_found) (gl_nil _)))
set_option maxHeartbeats 4000000 in
set_option maxRecDepth 100000 in
theorem gl_c_L_export : GoodIn zt wz_c_L_export := goodIn_ca (zz_cons zc_42 (by decide +kernel) (zz_sub (js := [404, 405, 406, 27, 376]) (by decide +kernel) (by decide +kernel))) (goodIn_app (gl_c_X11_export) (gl_nil _))
set_option maxHeartbeats 4000000 in
set_option maxRecDepth 100000 in
theorem gl_c_M_export : GoodIn zt wz_c_M_export := goodIn_ca (zz_cons zc_43 (by decide +kernel) (zz_sub (js := [524, 525, 22, 43, 425]) (by decide +kernel) (by decide +kernel))) (goodIn_app (gu_RX12) (goodIn_app (gl_c_M_placeOf) (gl_nil _)))
set_option maxHeartbeats 4000000 in
set_option maxRecDepth 100000 in
theorem gl_c_X11_out : GoodIn zt wz_c_X11_out := goodIn_ca (zz_cons zc_44 (by decide +kernel) (zz_sub (js := [414, 54, 206, 77, 76]) (by decide +kernel) (by decide +kernel))) (goodIn_app (gc_1) (goodIn_app (gu_RX11) (goodIn_app (gu_RX0) (gl_nil _))))
set_option maxHeartbeats 4000000 in
set_option maxRecDepth 100000 in
theorem gl_c_L_out : GoodIn zt wz_c_L_out := goodIn_ca (zz_cons zc_45 (by decide +kernel) (zz_sub (js := [411, 412, 413, 27, 410]) (by decide +kernel) (by decide +kernel))) (goodIn_app (gl_c_X11_out) (gl_nil _))
set_option maxHeartbeats 4000000 in
set_option maxRecDepth 100000 in
theorem gl_c_M_out : GoodIn zt wz_c_M_out := goodIn_ca (zz_cons zc_46 (by decide +kernel) (zz_sub (js := [425, 429]) (by decide +kernel) (by decide +kernel))) (goodIn_app (gu_RX12) (gl_nil _))
set_option maxHeartbeats 4000000 in
set_option maxRecDepth 100000 in
theorem gl_c_X11_drop : GoodIn zt wz_c_X11_drop := goodIn_ca (zz_cons zc_47 (by decide +kernel) (zz_sub (js := [382, 53, 203, 158, 358, 254, 255, 37]) (by decide +kernel) (by decide +kernel))) (goodIn_app (gc_0) (goodIn_app (gu_RX11) (goodIn_app (gu_RX7) (goodIn_app (gl_c_size) (gl_nil _)))))
set_option maxHeartbeats 4000000 in
set_option maxRecDepth 100000 in
theorem gl_c_L_drop : GoodIn zt wz_c_L_drop := goodIn_ca (zz_cons zc_48 (by decide +kernel) (zz_sub (js := [415, 416, 417, 27, 376]) (by decide +kernel) (by decide +kernel))) (goodIn_app (gl_c_X11_drop) (gl_nil _))
set_option maxHeartbeats 4000000 in
set_option maxRecDepth 100000 in
theorem gl_c_M_drop : GoodIn zt wz_c_M_drop := goodIn_ca (zz_cons zc_49 (by decide +kernel) (zz_sub (js := [524, 525, 22, 43, 425]) (by decide +kernel) (by decide +kernel))) (goodIn_app (gu_RX12) (goodIn_app (gl_c_M_placeOf) (gl_nil _)))
set_option maxHeartbeats 4000000 in
set_option maxRecDepth 100000 in
theorem gl_c_X11_isTime_n : GoodIn zt wz_c_X11_isTime_n := goodIn_ca (zz_cons zc_50 (by decide +kernel) (gl_nil _)) (gl_nil _)
set_option maxHeartbeats 4000000 in
set_option maxRecDepth 100000 in
theorem gl_c_X11_look_n : GoodIn zt wz_c_X11_look_n := goodIn_ca (zz_cons zc_51 (by decide +kernel) (zz_sub (js := [365, 366, 27, 368, 49]) (by decide +kernel) (by decide +kernel))) (goodIn_app (gc_2) (goodIn_app (gl_c_X11_isTime_n) (gl_nil _)))
set_option maxHeartbeats 4000000 in
set_option maxRecDepth 100000 in
theorem gl_c_L_look_n : GoodIn zt wz_c_L_look_n := goodIn_ca (zz_cons zc_52 (by decide +kernel) (zz_sub (js := [362, 363, 364, 27, 361]) (by decide +kernel) (by decide +kernel))) (goodIn_app (gl_c_X11_look_n) (gl_nil _))
set_option maxHeartbeats 4000000 in
set_option maxRecDepth 100000 in
theorem gl_c_M_isTime_n : GoodIn zt wz_c_M_isTime_n := goodIn_ca (zz_cons zc_53 (by decide +kernel) (gl_nil _)) (gl_nil _)
set_option maxHeartbeats 4000000 in
set_option maxRecDepth 100000 in
theorem gl_c_M_look_n : GoodIn zt wz_c_M_look_n := goodIn_ca (zz_cons zc_54 (by decide +kernel) (zz_sub (js := [519, 520, 43, 425]) (by decide +kernel) (by decide +kernel))) (goodIn_app (gu_RX12) (goodIn_app (gl_c_M_isTime_n) (gl_nil _)))
set_option maxHeartbeats 4000000 in
set_option maxRecDepth 100000 in
theorem gl_c_X11_isTime_m : GoodIn zt wz_c_X11_isTime_m := goodIn_ca (zz_cons zc_50 (by decide +kernel) (zz_sub (js := [367]) (by decide +kernel) (by decide +kernel))) (gl_nil _)
set_option maxHeartbeats 4000000 in
set_option maxRecDepth 100000 in
theorem gl_c_X11_look_m : GoodIn zt wz_c_X11_look_m := goodIn_ca (zz_cons zc_51 (by decide +kernel) (zz_sub (js := [365, 366, 27, 368, 49]) (by decide +kernel) (by decide +kernel))) (goodIn_app (gc_2) (goodIn_app (gl_c_X11_isTime_m) (gl_nil _)))
set_option maxHeartbeats 4000000 in
set_option maxRecDepth 100000 in
theorem gl_c_L_look_m : GoodIn zt wz_c_L_look_m := goodIn_ca (zz_cons zc_52 (by decide +kernel) (zz_sub (js := [362, 363, 364, 27, 361]) (by decide +kernel) (by decide +kernel))) (goodIn_app (gl_c_X11_look_m) (gl_nil _))
set_option maxHeartbeats 4000000 in
set_option maxRecDepth 100000 in
theorem gl_c_M_isTime_m : GoodIn zt wz_c_M_isTime_m := goodIn_ca (zz_cons zc_53 (by decide +kernel) (zz_sub (js := [521]) (by decide +kernel) (by decide +kernel))) (gl_nil _)
set_option maxHeartbeats 4000000 in
set_option maxRecDepth 100000 in
theorem gl_c_M_look_m : GoodIn zt wz_c_M_look_m := goodIn_ca (zz_cons zc_54 (by decide +kernel) (zz_sub (js := [519, 520, 43, 425]) (by decide +kernel) (by decide +kernel))) (goodIn_app (gu_RX12) (goodIn_app (gl_c_M_isTime_m) (gl_nil _)))
theorem gl_c_X11_isTime_y : GoodIn zt wz_c_X11_isTime_y := gl_c_X11_isTime_m
set_option maxHeartbeats 4000000 in
set_option maxRecDepth 100000 in
theorem gl_c_X10_view : GoodIn zt wz_c_X10_view := goodIn_ca (zz_cons zc_55 (by decide +kernel) (zz_sub (js := [66, 70, 74]) (by decide +kernel) (by decide +kernel))) (goodIn_app (gu_RX10) (gl_nil _))
set_option maxHeartbeats 4000000 in
set_option maxRecDepth 100000 in
theorem gl_c_X10_at_empty : GoodIn zt wz_c_X10_at_empty := goodIn_ca (zz_cons zc_56 (by decide +kernel) (zz_sub (js := [70, 74]) (by decide +kernel) (by decide +kernel))) (goodIn_app (gu_RX0) (gl_nil _))
set_option maxHeartbeats 4000000 in
set_option maxRecDepth 100000 in
theorem gl_c_X4_read : GoodIn zt wz_c_X4_read := goodIn_ca (zz_cons zc_57 (by decide +kernel) (zz_sub (js := [99, 98, 96, 261, 536, 537, 225, 28, 80]) (by decide +kernel) (by decide +kernel))) (goodIn_app (gu_RX4) (goodIn_app (gu_RX0) (goodIn_app (gl_c_X10_at_empty) (gl_nil _))))
set_option maxHeartbeats 4000000 in
set_option maxRecDepth 100000 in
theorem gl_c_X4_fault : GoodIn zt wz_c_X4_fault := goodIn_ca (zz_cons zc_58 (by decide +kernel) (zz_sub (js := [98]) (by decide +kernel) (by decide +kernel))) (goodIn_app (gu_RX4) (gl_nil _))
set_option maxHeartbeats 4000000 in
set_option maxRecDepth 100000 in
theorem gl_c_X11_readSealed : GoodIn zt wz_c_X11_readSealed := goodIn_ca (zz_cons zc_59 (by decide +kernel) (zz_sub (js := [200, 374, 259, 260, 31, 375, 355, 356]) (by decide +kernel) (by decide +kernel))) (goodIn_app (gu_RX11) (goodIn_app (gl_c_X4_read) (goodIn_app (gl_c_X4_fault) (gl_nil _))))
set_option maxHeartbeats 4000000 in
set_option maxRecDepth 100000 in
theorem gl_c_X11_openLooked : GoodIn zt wz_c_X11_openLooked := goodIn_ca (zz_cons zc_60 (by decide +kernel) (zz_sub (js := [199, 196, 69, 68, 72, 73, 77, 76, 371, 262, 263, 28, 200, 195, 220, 221, 222, 31, 223, 224, 5, 27, 372, 373, 7]) (by decide +kernel) (by decide +kernel))) (goodIn_app (gu_RX11) (goodIn_app (gu_RX0) (goodIn_app (gl_c_X10_view) (goodIn_app (gl_c_X4_open) (goodIn_app (gl_c_X11_isInSigns) (goodIn_app (gl_c_X11_readSealed) (gl_nil _)))))))
set_option maxHeartbeats 4000000 in
set_option maxRecDepth 100000 in
theorem gl_c_X11_look_y : GoodIn zt wz_c_X11_look_y := goodIn_ca (zz_cons zc_51 (by decide +kernel) (zz_sub (js := [365, 366, 27, 369, 370, 6, 195, 77, 76]) (by decide +kernel) (by decide +kernel))) (goodIn_app (gu_RX11) (goodIn_app (gu_RX0) (goodIn_app (gl_c_X11_isTime_y) (goodIn_app (gl_c_X11_openLooked) (gl_nil _)))))
set_option maxHeartbeats 4000000 in
set_option maxRecDepth 100000 in
theorem gl_c_L_look_y : GoodIn zt wz_c_L_look_y := goodIn_ca (zz_cons zc_52 (by decide +kernel) (zz_sub (js := [362, 363, 364, 27]) (by decide +kernel) (by decide +kernel))) (goodIn_app (gl_c_X11_look_y) (gl_nil _))
theorem gl_c_M_isTime_y : GoodIn zt wz_c_M_isTime_y := gl_c_M_isTime_m
set_option maxHeartbeats 4000000 in
set_option maxRecDepth 100000 in
theorem gl_c_M_readCase : GoodIn zt wz_c_M_readCase := goodIn_ca (zz_cons zc_61 (by decide +kernel) (zz_sub (js := [462, 463, 10, 43]) (by decide +kernel) (by decide +kernel))) (goodIn_app (gl_c_M_fail) (gl_nil _))
set_option maxHeartbeats 4000000 in
set_option maxRecDepth 100000 in
theorem gl_c_M_look_y : GoodIn zt wz_c_M_look_y := goodIn_ca (zz_cons zc_54 (by decide +kernel) (zz_sub (js := [519, 520, 43, 425, 450, 458, 459, 9, 522, 523, 21]) (by decide +kernel) (by decide +kernel))) (goodIn_app (gu_RX12) (goodIn_app (gl_c_M_isTime_y) (goodIn_app (gl_c_M_taken) (goodIn_app (gl_c_M_readCase) (gl_nil _)))))
set_option maxHeartbeats 4000000 in
set_option maxRecDepth 100000 in
theorem gl_c_X11_add_lo : GoodIn zt wz_c_X11_add_lo := goodIn_ca (zz_cons zc_62 (by decide +kernel) (gl_nil _)) (gl_nil _)
set_option maxHeartbeats 4000000 in
set_option maxRecDepth 100000 in
theorem gl_c_M_add_lo : GoodIn zt wz_c_M_add_lo := goodIn_ca (zz_cons zc_63 (by decide +kernel) (zz_sub (js := [425]) (by decide +kernel) (by decide +kernel))) (goodIn_app (gu_RX12) (gl_nil _))
theorem gl_c_X11_add_hi : GoodIn zt wz_c_X11_add_hi := gl_c_X11_add_lo
theorem gl_c_M_add_hi : GoodIn zt wz_c_M_add_hi := gl_c_M_add_lo
set_option maxHeartbeats 4000000 in
set_option maxRecDepth 100000 in
theorem gl_c_X0_push : GoodIn zt wz_c_X0_push := goodIn_ca (zz_cons zc_64 (by decide +kernel) (zz_sub (js := [75, 76, 67, 68]) (by decide +kernel) (by decide +kernel))) (goodIn_app (gu_RX0) (gl_nil _))
set_option maxHeartbeats 4000000 in
set_option maxRecDepth 100000 in
theorem gl_c_X11_add_1 : GoodIn zt wz_c_X11_add_1 := goodIn_ca (zz_cons zc_62 (by decide +kernel) (zz_sub (js := [195, 77, 76, 209, 210, 211, 29]) (by decide +kernel) (by decide +kernel))) (goodIn_app (gu_RX11) (goodIn_app (gu_RX0) (goodIn_app (gl_c_X0_push) (gl_nil _))))
set_option maxHeartbeats 4000000 in
set_option maxRecDepth 100000 in
theorem gl_c_M_add_1 : GoodIn zt wz_c_M_add_1 := goodIn_ca (zz_cons zc_63 (by decide +kernel) (zz_sub (js := [425, 426, 427, 457]) (by decide +kernel) (by decide +kernel))) (goodIn_app (gu_RX12) (gl_nil _))
theorem gl_c_X11_add_2 : GoodIn zt wz_c_X11_add_2 := gl_c_X11_add_1
theorem gl_c_M_add_2 : GoodIn zt wz_c_M_add_2 := gl_c_M_add_1
theorem gl_c_X11_add_3 : GoodIn zt wz_c_X11_add_3 := gl_c_X11_add_1
theorem gl_c_M_add_3 : GoodIn zt wz_c_M_add_3 := gl_c_M_add_1
theorem gl_c_X11_add_4 : GoodIn zt wz_c_X11_add_4 := gl_c_X11_add_1
theorem gl_c_M_add_4 : GoodIn zt wz_c_M_add_4 := gl_c_M_add_1
theorem gl_c_X11_add_5 : GoodIn zt wz_c_X11_add_5 := gl_c_X11_add_1
theorem gl_c_M_add_5 : GoodIn zt wz_c_M_add_5 := gl_c_M_add_1
theorem gl_c_X11_add_6 : GoodIn zt wz_c_X11_add_6 := gl_c_X11_add_1
theorem gl_c_M_add_6 : GoodIn zt wz_c_M_add_6 := gl_c_M_add_1
theorem gl_c_X11_add_7 : GoodIn zt wz_c_X11_add_7 := gl_c_X11_add_1
theorem gl_c_M_add_7 : GoodIn zt wz_c_M_add_7 := gl_c_M_add_1
theorem gl_c_X11_add_8 : GoodIn zt wz_c_X11_add_8 := gl_c_X11_add_1
theorem gl_c_M_add_8 : GoodIn zt wz_c_M_add_8 := gl_c_M_add_1
set_option maxHeartbeats 4000000 in
set_option maxRecDepth 100000 in
theorem gl_c_X11_armor_lo : GoodIn zt wz_c_X11_armor_lo := goodIn_ca (zz_cons zc_65 (by decide +kernel) (zz_sub (js := [368, 49]) (by decide +kernel) (by decide +kernel))) (goodIn_app (gc_2) (gl_nil _))
set_option maxHeartbeats 4000000 in
set_option maxRecDepth 100000 in
theorem gl_c_L_armor_lo : GoodIn zt wz_c_L_armor_lo := goodIn_ca (zz_cons zc_66 (by decide +kernel) (zz_sub (js := [407, 408, 409, 27, 361]) (by decide +kernel) (by decide +kernel))) (goodIn_app (gl_c_X11_armor_lo) (gl_nil _))
set_option maxHeartbeats 4000000 in
set_option maxRecDepth 100000 in
theorem gl_c_M_armor_lo : GoodIn zt wz_c_M_armor_lo := goodIn_ca (zz_cons zc_67 (by decide +kernel) (zz_sub (js := [425]) (by decide +kernel) (by decide +kernel))) (goodIn_app (gu_RX12) (gl_nil _))
theorem gl_c_X11_armor_hi : GoodIn zt wz_c_X11_armor_hi := gl_c_X11_armor_lo
theorem gl_c_L_armor_hi : GoodIn zt wz_c_L_armor_hi := gl_c_L_armor_lo
theorem gl_c_M_armor_hi : GoodIn zt wz_c_M_armor_hi := gl_c_M_armor_lo
set_option maxHeartbeats 4000000 in
set_option maxRecDepth 100000 in
theorem gl_c_coder_o : GoodIn zt wz_c_coder_o := goodIn_ca (zz_cons zc_68 (by decide +kernel) (zz_sub (js := [233, 333]) (by decide +kernel) (by decide +kernel))) (gl_nil _)
set_option maxHeartbeats 4000000 in
set_option maxRecDepth 100000 in
theorem gl_c_len_o_11 : GoodIn zt wz_c_len_o_11 := goodIn_ca (zz_cons zc_69 (by decide +kernel) (zz_sub (js := [332, 230, 231, 232, 46]) (by decide +kernel) (by decide +kernel))) (goodIn_app (gl_c_coder_o) (gl_nil _))
set_option maxHeartbeats 4000000 in
set_option maxRecDepth 100000 in
theorem gl_c_isLatin1_o : GoodIn zt wz_c_isLatin1_o := goodIn_ca (zz_cons zc_70 (by decide +kernel) (zz_sub (js := [233, 333]) (by decide +kernel) (by decide +kernel))) (gl_nil _)
set_option maxHeartbeats 4000000 in
set_option maxRecDepth 100000 in
theorem gl_c_chkN_11 : GoodIn zt wz_c_chkN_11 := goodIn_ca (zz_cons zc_71 (by decide +kernel) (gl_nil _)) (gl_nil _)
theorem gl_c_chkR_11 : GoodIn zt wz_c_chkR_11 := gl_c_chkN_11
set_option maxHeartbeats 4000000 in
set_option maxRecDepth 100000 in
theorem gl_c_chk_11 : GoodIn zt wz_c_chk_11 := goodIn_ca (zz_cons zc_72 (by decide +kernel) (zz_sub (js := [243, 244, 245, 48]) (by decide +kernel) (by decide +kernel))) (goodIn_app (gl_c_chkN_11) (goodIn_app (gl_c_chkR_11) (gl_nil _)))
set_option maxHeartbeats 4000000 in
set_option maxRecDepth 100000 in
theorem gl_c_chr1_o_11 : GoodIn zt wz_c_chr1_o_11 := goodIn_ca (zz_cons zc_73 (by decide +kernel) (zz_sub (js := [241, 242, 46]) (by decide +kernel) (by decide +kernel))) (goodIn_app (gl_c_chk_11) (gl_nil _))
set_option maxHeartbeats 4000000 in
set_option maxRecDepth 100000 in
theorem gl_c_chr_o_11 : GoodIn zt wz_c_chr_o_11 := goodIn_ca (zz_cons zc_74 (by decide +kernel) (zz_sub (js := [236, 237, 238, 46, 332, 239, 240, 47]) (by decide +kernel) (by decide +kernel))) (goodIn_app (gl_c_isLatin1_o) (goodIn_app (gl_c_chr1_o_11) (gl_nil _)))
set_option maxHeartbeats 4000000 in
set_option maxRecDepth 100000 in
theorem gl_c_X0_pushText_11 : GoodIn zt wz_c_X0_pushText_11 := goodIn_ca (zz_cons zc_75 (by decide +kernel) (zz_sub (js := [395, 228, 229, 46, 396, 234, 235, 334, 210, 211, 29]) (by decide +kernel) (by decide +kernel))) (goodIn_app (gl_c_len_o_11) (goodIn_app (gl_c_chr_o_11) (goodIn_app (gl_c_X0_push) (gl_nil _))))
set_option maxHeartbeats 4000000 in
set_option maxRecDepth 100000 in
theorem gl_c_X9_label_0 : GoodIn zt wz_c_X9_label_0 := goodIn_ca (zz_cons zc_76 (by decide +kernel) (gl_nil _)) (gl_nil _)
theorem gl_c_len_o_5 : GoodIn zt wz_c_len_o_5 := gl_c_len_o_11
theorem gl_c_chkN_5 : GoodIn zt wz_c_chkN_5 := gl_c_chkN_11
theorem gl_c_chkR_5 : GoodIn zt wz_c_chkR_5 := gl_c_chkN_11
theorem gl_c_chk_5 : GoodIn zt wz_c_chk_5 := gl_c_chk_11
theorem gl_c_chr1_o_5 : GoodIn zt wz_c_chr1_o_5 := gl_c_chr1_o_11
theorem gl_c_chr_o_5 : GoodIn zt wz_c_chr_o_5 := gl_c_chr_o_11
theorem gl_c_X0_pushText_5 : GoodIn zt wz_c_X0_pushText_5 := gl_c_X0_pushText_11
set_option maxHeartbeats 4000000 in
set_option maxRecDepth 100000 in
theorem gl_c_X9_signOf_45 : GoodIn zt wz_c_X9_signOf_45 := goodIn_ca (zz_cons zc_77 (by decide +kernel) (gl_nil _)) (gl_nil _)
theorem gl_c_X9_signOf_48 : GoodIn zt wz_c_X9_signOf_48 := gl_c_X9_signOf_45
theorem gl_c_X9_signOf_19 : GoodIn zt wz_c_X9_signOf_19 := gl_c_X9_signOf_45
theorem gl_c_X9_signOf_14 : GoodIn zt wz_c_X9_signOf_14 := gl_c_X9_signOf_45
set_option maxHeartbeats 4000000 in
set_option maxRecDepth 100000 in
theorem gl_c_X9_writeGroup : GoodIn zt wz_c_X9_writeGroup := goodIn_ca (zz_cons zc_78 (by decide +kernel) (zz_sub (js := [402, 403, 32, 249, 210, 211, 29]) (by decide +kernel) (by decide +kernel))) (goodIn_app (gl_c_X9_signOf_45) (goodIn_app (gl_c_X0_push) (goodIn_app (gl_c_X9_signOf_48) (goodIn_app (gl_c_X9_signOf_19) (goodIn_app (gl_c_X9_signOf_14) (gl_nil _))))))
theorem gl_c_len_o_9 : GoodIn zt wz_c_len_o_9 := gl_c_len_o_11
theorem gl_c_chkN_9 : GoodIn zt wz_c_chkN_9 := gl_c_chkN_11
theorem gl_c_chkR_9 : GoodIn zt wz_c_chkR_9 := gl_c_chkN_11
theorem gl_c_chk_9 : GoodIn zt wz_c_chk_9 := gl_c_chk_11
theorem gl_c_chr1_o_9 : GoodIn zt wz_c_chr1_o_9 := gl_c_chr1_o_11
theorem gl_c_chr_o_9 : GoodIn zt wz_c_chr_o_9 := gl_c_chr_o_11
theorem gl_c_X0_pushText_9 : GoodIn zt wz_c_X0_pushText_9 := gl_c_X0_pushText_11
set_option maxHeartbeats 4000000 in
set_option maxRecDepth 100000 in
theorem gl_c_X9_write_0 : GoodIn zt wz_c_X9_write_0 := goodIn_ca (zz_cons zc_79 (by decide +kernel) (zz_sub (js := [399, 393, 394, 29, 226, 227, 32, 249, 210, 211, 81, 246, 247, 400, 401]) (by decide +kernel) (by decide +kernel))) (goodIn_app (gu_RX0) (goodIn_app (gl_c_X0_pushText_11) (goodIn_app (gl_c_X9_label_0) (goodIn_app (gl_c_X0_pushText_5) (goodIn_app (gl_c_X0_push) (goodIn_app (gl_c_X9_sumOf) (goodIn_app (gl_c_X9_writeGroup) (goodIn_app (gl_c_X0_pushText_9) (gl_nil _)))))))))
set_option maxHeartbeats 4000000 in
set_option maxRecDepth 100000 in
theorem gl_c_X11_armor_0 : GoodIn zt wz_c_X11_armor_0 := goodIn_ca (zz_cons zc_65 (by decide +kernel) (zz_sub (js := [206, 77, 76, 207, 397, 398, 32]) (by decide +kernel) (by decide +kernel))) (goodIn_app (gu_RX11) (goodIn_app (gu_RX0) (goodIn_app (gl_c_X9_write_0) (gl_nil _))))
set_option maxHeartbeats 4000000 in
set_option maxRecDepth 100000 in
theorem gl_c_L_armor_0 : GoodIn zt wz_c_L_armor_0 := goodIn_ca (zz_cons zc_66 (by decide +kernel) (zz_sub (js := [407, 408, 409, 27]) (by decide +kernel) (by decide +kernel))) (goodIn_app (gl_c_X11_armor_0) (gl_nil _))
set_option maxHeartbeats 4000000 in
set_option maxRecDepth 100000 in
theorem gl_c_ASB_init : GoodIn zt wz_c_ASB_init := goodIn_ca (zz_cons zc_80 (by decide +kernel) (goodIn_app (a := [.methodLink RJ5 3 objectInit, .instanceMethod objectInit]) (zz_sub (js := [278, 56]) (by decide +kernel) (by decide +kernel)) (zz_cons zc_81 (by decide +kernel) (zz_sub (js := [279, 82, 280, 281]) (by decide +kernel) (by decide +kernel))))) (goodIn_app (gu_RJ4) (gl_nil _))
set_option maxHeartbeats 4000000 in
set_option maxRecDepth 100000 in
theorem gl_c_SB_init : GoodIn zt wz_c_SB_init := goodIn_ca (zz_cons zc_82 (by decide +kernel) (zz_sub (js := [50, 276, 277]) (by decide +kernel) (by decide +kernel))) (goodIn_app (gl_c_ASB_init) (gl_nil _))
set_option maxHeartbeats 4000000 in
set_option maxRecDepth 100000 in
theorem gl_c_ens_16_11 : GoodIn zt wz_c_ens_16_11 := goodIn_ca (zz_cons zc_83 (by decide +kernel) (zz_sub (js := [280, 281]) (by decide +kernel) (by decide +kernel))) (goodIn_app (gu_RJ4) (gl_nil _))
set_option maxHeartbeats 4000000 in
set_option maxRecDepth 100000 in
theorem gl_c_inflIf : GoodIn zt wz_c_inflIf := goodIn_ca (zz_cons zc_84 (by decide +kernel) (zz_sub (js := [279, 281, 306, 231, 232, 46]) (by decide +kernel) (by decide +kernel))) (goodIn_app (gu_RJ4) (goodIn_app (gl_c_coder_o) (gl_nil _)))
set_option maxHeartbeats 4000000 in
set_option maxRecDepth 100000 in
theorem gl_c_getBytes_6_0_16 : GoodIn zt wz_c_getBytes_6_0_16 := goodIn_ca (zz_cons zc_85 (by decide +kernel) (zz_sub (js := [230, 231, 232, 46, 332, 310, 217, 216, 45]) (by decide +kernel) (by decide +kernel))) (goodIn_app (gl_c_coder_o) (gl_nil _))
set_option maxHeartbeats 4000000 in
set_option maxRecDepth 100000 in
theorem gl_c_putStr_6_0_16 : GoodIn zt wz_c_putStr_6_0_16 := goodIn_ca (zz_cons zc_86 (by decide +kernel) (zz_sub (js := [304, 542, 2, 305, 50, 280, 281, 307, 308, 309, 46]) (by decide +kernel) (by decide +kernel))) (goodIn_app (gu_RJ4) (goodIn_app (gl_c_inflIf) (goodIn_app (gl_c_getBytes_6_0_16) (gl_nil _))))
set_option maxHeartbeats 4000000 in
set_option maxRecDepth 100000 in
theorem gl_c_ASBapp_6_0_16 : GoodIn zt wz_c_ASBapp_6_0_16 := goodIn_ca (zz_cons zc_87 (by decide +kernel) (zz_sub (js := [301, 228, 229, 46, 282, 284, 538, 0, 285, 50, 302, 541, 3, 303]) (by decide +kernel) (by decide +kernel))) (goodIn_app (gu_RJ4) (goodIn_app (gl_c_len_o_11) (goodIn_app (gl_c_ens_16_11) (goodIn_app (gl_c_putStr_6_0_16) (gl_nil _)))))
set_option maxHeartbeats 4000000 in
set_option maxRecDepth 100000 in
theorem gl_c_SBapp_6_0_16 : GoodIn zt wz_c_SBapp_6_0_16 := goodIn_ca (zz_cons zc_88 (by decide +kernel) (zz_sub (js := [299, 540, 283, 300, 50]) (by decide +kernel) (by decide +kernel))) (goodIn_app (gl_c_ASBapp_6_0_16) (gl_nil _))
set_option maxHeartbeats 4000000 in
set_option maxRecDepth 100000 in
theorem gl_c_M_label_0 : GoodIn zt wz_c_M_label_0 := goodIn_ca (zz_cons zc_89 (by decide +kernel) (gl_nil _)) (gl_nil _)
set_option maxHeartbeats 4000000 in
set_option maxRecDepth 100000 in
theorem gl_c_newLen_22 : GoodIn zt wz_c_newLen_22 := goodIn_ca (zz_cons zc_90 (by decide +kernel) (goodIn_app (a := [.methodLink RJ8 194 Lib.Math.max.name, .static Lib.Math.max.name, .initialized "java/lang/Math"]) (zz_sub (js := [290, 62, 30]) (by decide +kernel) (by decide +kernel)) (zz_cons zc_91 (by decide +kernel) (zz_sub (js := [291]) (by decide +kernel) (by decide +kernel))))) (gl_nil _)
set_option maxHeartbeats 4000000 in
set_option maxRecDepth 100000 in
theorem gl_c_newCap_22 : GoodIn zt wz_c_newCap_22 := goodIn_ca (zz_cons zc_92 (by decide +kernel) (zz_sub (js := [280, 281, 288, 289, 52, 292]) (by decide +kernel) (by decide +kernel))) (goodIn_app (gu_RJ4) (goodIn_app (gl_c_newLen_22) (gl_nil _)))
set_option maxHeartbeats 4000000 in
set_option maxRecDepth 100000 in
theorem gl_c_copyOf_b0 : GoodIn zt wz_c_copyOf_b0 := goodIn_ca (zz_cons zc_93 (by decide +kernel) (goodIn_app (a := [.arrayClass .byte, .methodLink RJ7 304 Lib.Math.min.name, .static Lib.Math.min.name, .initialized "java/lang/Math"]) (zz_sub (js := [82, 213, 214, 30]) (by decide +kernel) (by decide +kernel)) (zz_cons zc_23 (by decide +kernel) (zz_sub (js := [215, 217, 216, 45]) (by decide +kernel) (by decide +kernel))))) (gl_nil _)
set_option maxHeartbeats 4000000 in
set_option maxRecDepth 100000 in
theorem gl_c_ens_b0 : GoodIn zt wz_c_ens_b0 := goodIn_ca (zz_cons zc_83 (by decide +kernel) (zz_sub (js := [280, 281, 286, 539, 1, 287, 50, 293, 212, 44]) (by decide +kernel) (by decide +kernel))) (goodIn_app (gu_RJ4) (goodIn_app (gl_c_newCap_22) (goodIn_app (gl_c_copyOf_b0) (gl_nil _))))
theorem gl_c_getBytes_7_11_34 : GoodIn zt wz_c_getBytes_7_11_34 := gl_c_getBytes_6_0_16
theorem gl_c_putStr_7_11_34 : GoodIn zt wz_c_putStr_7_11_34 := gl_c_putStr_6_0_16
set_option maxHeartbeats 4000000 in
set_option maxRecDepth 100000 in
theorem gl_c_ASBapp_b0 : GoodIn zt wz_c_ASBapp_b0 := goodIn_ca (zz_cons zc_87 (by decide +kernel) (zz_sub (js := [301, 228, 229, 46, 282, 284, 538, 0, 285, 50, 302, 541, 3, 303]) (by decide +kernel) (by decide +kernel))) (goodIn_app (gu_RJ4) (goodIn_app (gl_c_len_o_11) (goodIn_app (gl_c_ens_b0) (goodIn_app (gl_c_putStr_7_11_34) (gl_nil _)))))
set_option maxHeartbeats 4000000 in
set_option maxRecDepth 100000 in
theorem gl_c_SBapp_b0 : GoodIn zt wz_c_SBapp_b0 := goodIn_ca (zz_cons zc_88 (by decide +kernel) (zz_sub (js := [299, 540, 283, 300, 50]) (by decide +kernel) (by decide +kernel))) (goodIn_app (gl_c_ASBapp_b0) (gl_nil _))
theorem gl_c_ens_34_27 : GoodIn zt wz_c_ens_34_27 := gl_c_ens_16_11
theorem gl_c_getBytes_10_22_34 : GoodIn zt wz_c_getBytes_10_22_34 := gl_c_getBytes_6_0_16
theorem gl_c_putStr_10_22_34 : GoodIn zt wz_c_putStr_10_22_34 := gl_c_putStr_6_0_16
theorem gl_c_ASBapp_10_22_34 : GoodIn zt wz_c_ASBapp_10_22_34 := gl_c_ASBapp_6_0_16
theorem gl_c_SBapp_10_22_34 : GoodIn zt wz_c_SBapp_10_22_34 := gl_c_SBapp_6_0_16
set_option maxHeartbeats 4000000 in
set_option maxRecDepth 100000 in
theorem gl_c_getValue : GoodIn zt wz_c_getValue := goodIn_ca (zz_cons zc_94 (by decide +kernel) (zz_sub (js := [280]) (by decide +kernel) (by decide +kernel))) (goodIn_app (gu_RJ4) (gl_nil _))
set_option maxHeartbeats 4000000 in
set_option maxRecDepth 100000 in
theorem gl_c_ASB_length : GoodIn zt wz_c_ASB_length := goodIn_ca (zz_cons zc_95 (by decide +kernel) (zz_sub (js := [282]) (by decide +kernel) (by decide +kernel))) (goodIn_app (gu_RJ4) (gl_nil _))
set_option maxHeartbeats 4000000 in
set_option maxRecDepth 100000 in
theorem gl_c_SB_length : GoodIn zt wz_c_SB_length := goodIn_ca (zz_cons zc_96 (by decide +kernel) (zz_sub (js := [329, 326, 283, 325, 50]) (by decide +kernel) (by decide +kernel))) (goodIn_app (gl_c_ASB_length) (gl_nil _))
set_option maxHeartbeats 4000000 in
set_option maxRecDepth 100000 in
theorem gl_c_ASB_isLatin1 : GoodIn zt wz_c_ASB_isLatin1 := goodIn_ca (zz_cons zc_97 (by decide +kernel) (zz_sub (js := [279, 281]) (by decide +kernel) (by decide +kernel))) (goodIn_app (gu_RJ4) (gl_nil _))
set_option maxHeartbeats 4000000 in
set_option maxRecDepth 100000 in
theorem gl_c_chkLen_27 : GoodIn zt wz_c_chkLen_27 := goodIn_ca (zz_cons zc_98 (by decide +kernel) (gl_nil _)) (gl_nil _)
set_option maxHeartbeats 4000000 in
set_option maxRecDepth 100000 in
theorem gl_c_cRB_b0 : GoodIn zt wz_c_cRB_b0 := goodIn_ca (zz_cons zc_99 (by decide +kernel) (goodIn_app (a := [.methodLink RJ7 343 yJ7_checkLength_df160, .static yJ7_checkLength_df160, .initialized RJ7, .arrayClass .byte, .methodLink RJ7 304 Lib.Math.min.name, .static Lib.Math.min.name, .initialized "java/lang/Math"]) (zz_sub (js := [272, 273, 44, 82, 213, 214, 30]) (by decide +kernel) (by decide +kernel)) (zz_cons zc_23 (by decide +kernel) (zz_sub (js := [215, 217, 216, 45]) (by decide +kernel) (by decide +kernel))))) (goodIn_app (gl_c_chkLen_27) (gl_nil _))
set_option maxHeartbeats 4000000 in
set_option maxRecDepth 100000 in
theorem gl_c_cR_b0 : GoodIn zt wz_c_cR_b0 := goodIn_ca (zz_cons zc_100 (by decide +kernel) (zz_sub (js := [270, 271, 44]) (by decide +kernel) (by decide +kernel))) (goodIn_app (gl_c_cRB_b0) (gl_nil _))
set_option maxHeartbeats 4000000 in
set_option maxRecDepth 100000 in
theorem gl_c_Si1_b0 : GoodIn zt wz_c_Si1_b0 := goodIn_ca (zz_cons zc_101 (by decide +kernel) (goodIn_app (a := [.methodLink RJ0 1 objectInit, .instanceMethod objectInit]) (zz_sub (js := [319, 56]) (by decide +kernel) (by decide +kernel)) (zz_cons zc_81 (by decide +kernel) (goodIn_app (a := [.methodLink RJ0 552 ⟨"java/lang/AbstractStringBuilder", "getValue", "()[B"⟩, .sameMethod "java/lang/AbstractStringBuilder" "java/lang/AbstractStringBuilder" "getValue" "()[B", .selects RJ4 ⟨"java/lang/AbstractStringBuilder", "getValue", "()[B"⟩ yJ5_getValue_6d5f1, .instanceMethod yJ5_getValue_6d5f1, .initialized RJ5, .methodLink RJ0 549 ⟨"java/lang/AbstractStringBuilder", "length", "()I"⟩, .sameMethod RJ5 RJ5 "length" "()I", .instanceMethod yJ5_length_8abf5, .selects RJ4 ⟨"java/lang/AbstractStringBuilder", "length", "()I"⟩ yJ4_length_8abf5, .instanceMethod yJ4_length_8abf5, .initialized RJ4]) (zz_sub (js := [320, 322, 323, 321, 50, 324, 326, 325, 327, 328, 51]) (by decide +kernel) (by decide +kernel)) (zz_cons zc_95 (by decide +kernel) (zz_sub (js := [330, 295, 296, 294, 333, 331, 269, 44, 332]) (by decide +kernel) (by decide +kernel))))))) (goodIn_app (gu_RJ0) (goodIn_app (gl_c_getValue) (goodIn_app (gl_c_SB_length) (goodIn_app (gl_c_ASB_isLatin1) (goodIn_app (gl_c_cR_b0) (gl_nil _))))))
set_option maxHeartbeats 4000000 in
set_option maxRecDepth 100000 in
theorem gl_c_Si2_b0 : GoodIn zt wz_c_Si2_b0 := goodIn_ca (zz_cons zc_102 (by decide +kernel) (zz_sub (js := [46, 317, 318]) (by decide +kernel) (by decide +kernel))) (goodIn_app (gl_c_Si1_b0) (gl_nil _))
set_option maxHeartbeats 4000000 in
set_option maxRecDepth 100000 in
theorem gl_c_toS_b0 : GoodIn zt wz_c_toS_b0 := goodIn_ca (zz_cons zc_103 (by decide +kernel) (zz_sub (js := [313, 314, 46, 315, 316]) (by decide +kernel) (by decide +kernel))) (goodIn_app (gu_RJ0) (goodIn_app (gl_c_Si2_b0) (gl_nil _)))
set_option maxHeartbeats 4000000 in
set_option maxRecDepth 100000 in
theorem gl_c_coder_w : GoodIn zt wz_c_coder_w := goodIn_ca (zz_cons zc_68 (by decide +kernel) (zz_sub (js := [233, 333]) (by decide +kernel) (by decide +kernel))) (goodIn_app (gu_RJ0) (gl_nil _))
set_option maxHeartbeats 4000000 in
set_option maxRecDepth 100000 in
theorem gl_c_len_w_27 : GoodIn zt wz_c_len_w_27 := goodIn_ca (zz_cons zc_69 (by decide +kernel) (zz_sub (js := [332, 230, 231, 232, 46]) (by decide +kernel) (by decide +kernel))) (goodIn_app (gu_RJ0) (goodIn_app (gl_c_coder_w) (gl_nil _)))
set_option maxHeartbeats 4000000 in
set_option maxRecDepth 100000 in
theorem gl_c_isLatin1_w : GoodIn zt wz_c_isLatin1_w := goodIn_ca (zz_cons zc_70 (by decide +kernel) (zz_sub (js := [233, 333]) (by decide +kernel) (by decide +kernel))) (goodIn_app (gu_RJ0) (gl_nil _))
theorem gl_c_chkN_27 : GoodIn zt wz_c_chkN_27 := gl_c_chkN_11
theorem gl_c_chkR_27 : GoodIn zt wz_c_chkR_27 := gl_c_chkN_11
theorem gl_c_chk_27 : GoodIn zt wz_c_chk_27 := gl_c_chk_11
theorem gl_c_chr1_w_27 : GoodIn zt wz_c_chr1_w_27 := gl_c_chr1_o_11
set_option maxHeartbeats 4000000 in
set_option maxRecDepth 100000 in
theorem gl_c_chr_w_27 : GoodIn zt wz_c_chr_w_27 := goodIn_ca (zz_cons zc_74 (by decide +kernel) (zz_sub (js := [236, 237, 238, 46, 332, 239, 240, 47]) (by decide +kernel) (by decide +kernel))) (goodIn_app (gu_RJ0) (goodIn_app (gl_c_isLatin1_w) (goodIn_app (gl_c_chr1_w_27) (gl_nil _))))
set_option maxHeartbeats 4000000 in
set_option maxRecDepth 100000 in
theorem gl_c_M_put : GoodIn zt wz_c_M_put := goodIn_ca (zz_cons zc_104 (by decide +kernel) (zz_sub (js := [430, 429]) (by decide +kernel) (by decide +kernel))) (goodIn_app (gu_RX12) (gl_nil _))
set_option maxHeartbeats 4000000 in
set_option maxRecDepth 100000 in
theorem gl_c_M_putText_27 : GoodIn zt wz_c_M_putText_27 := goodIn_ca (zz_cons zc_105 (by decide +kernel) (zz_sub (js := [470, 228, 229, 46, 471, 234, 235, 530, 531, 25, 43]) (by decide +kernel) (by decide +kernel))) (goodIn_app (gl_c_len_w_27) (goodIn_app (gl_c_chr_w_27) (goodIn_app (gl_c_M_put) (gl_nil _))))
set_option maxHeartbeats 4000000 in
set_option maxRecDepth 100000 in
theorem gl_c_M_signOf_45 : GoodIn zt wz_c_M_signOf_45 := goodIn_ca (zz_cons zc_106 (by decide +kernel) (gl_nil _)) (gl_nil _)
theorem gl_c_M_signOf_48 : GoodIn zt wz_c_M_signOf_48 := gl_c_M_signOf_45
theorem gl_c_M_signOf_19 : GoodIn zt wz_c_M_signOf_19 := gl_c_M_signOf_45
theorem gl_c_M_signOf_14 : GoodIn zt wz_c_M_signOf_14 := gl_c_M_signOf_45
theorem gl_c_ens_16_9 : GoodIn zt wz_c_ens_16_9 := gl_c_ens_16_11
theorem gl_c_getBytes_11_0_16 : GoodIn zt wz_c_getBytes_11_0_16 := gl_c_getBytes_6_0_16
theorem gl_c_putStr_11_0_16 : GoodIn zt wz_c_putStr_11_0_16 := gl_c_putStr_6_0_16
theorem gl_c_ASBapp_11_0_16 : GoodIn zt wz_c_ASBapp_11_0_16 := gl_c_ASBapp_6_0_16
theorem gl_c_SBapp_11_0_16 : GoodIn zt wz_c_SBapp_11_0_16 := gl_c_SBapp_6_0_16
theorem gl_c_newLen_20 : GoodIn zt wz_c_newLen_20 := gl_c_newLen_22
theorem gl_c_newCap_20 : GoodIn zt wz_c_newCap_20 := gl_c_newCap_22
theorem gl_c_copyOf_e0 : GoodIn zt wz_c_copyOf_e0 := gl_c_copyOf_b0
theorem gl_c_ens_e0 : GoodIn zt wz_c_ens_e0 := gl_c_ens_b0
theorem gl_c_getBytes_7_9_34 : GoodIn zt wz_c_getBytes_7_9_34 := gl_c_getBytes_6_0_16
theorem gl_c_putStr_7_9_34 : GoodIn zt wz_c_putStr_7_9_34 := gl_c_putStr_6_0_16
theorem gl_c_ASBapp_e0 : GoodIn zt wz_c_ASBapp_e0 := gl_c_ASBapp_b0
theorem gl_c_SBapp_e0 : GoodIn zt wz_c_SBapp_e0 := gl_c_SBapp_b0
theorem gl_c_ens_34_25 : GoodIn zt wz_c_ens_34_25 := gl_c_ens_16_11
theorem gl_c_getBytes_10_20_34 : GoodIn zt wz_c_getBytes_10_20_34 := gl_c_getBytes_6_0_16
theorem gl_c_putStr_10_20_34 : GoodIn zt wz_c_putStr_10_20_34 := gl_c_putStr_6_0_16
theorem gl_c_ASBapp_10_20_34 : GoodIn zt wz_c_ASBapp_10_20_34 := gl_c_ASBapp_6_0_16
theorem gl_c_SBapp_10_20_34 : GoodIn zt wz_c_SBapp_10_20_34 := gl_c_SBapp_6_0_16
theorem gl_c_chkLen_25 : GoodIn zt wz_c_chkLen_25 := gl_c_chkLen_27
theorem gl_c_cRB_e0 : GoodIn zt wz_c_cRB_e0 := gl_c_cRB_b0
theorem gl_c_cR_e0 : GoodIn zt wz_c_cR_e0 := gl_c_cR_b0
theorem gl_c_Si1_e0 : GoodIn zt wz_c_Si1_e0 := gl_c_Si1_b0
theorem gl_c_Si2_e0 : GoodIn zt wz_c_Si2_e0 := gl_c_Si2_b0
theorem gl_c_toS_e0 : GoodIn zt wz_c_toS_e0 := gl_c_toS_b0
theorem gl_c_len_w_25 : GoodIn zt wz_c_len_w_25 := gl_c_len_w_27
theorem gl_c_chkN_25 : GoodIn zt wz_c_chkN_25 := gl_c_chkN_11
theorem gl_c_chkR_25 : GoodIn zt wz_c_chkR_25 := gl_c_chkN_11
theorem gl_c_chk_25 : GoodIn zt wz_c_chk_25 := gl_c_chk_11
theorem gl_c_chr1_w_25 : GoodIn zt wz_c_chr1_w_25 := gl_c_chr1_o_11
theorem gl_c_chr_w_25 : GoodIn zt wz_c_chr_w_25 := gl_c_chr_w_27
theorem gl_c_M_putText_25 : GoodIn zt wz_c_M_putText_25 := gl_c_M_putText_27
set_option maxHeartbeats 4000000 in
set_option maxRecDepth 100000 in
theorem gl_c_M_putSigns_0 : GoodIn zt wz_c_M_putSigns_0 := goodIn_ca (zz_cons zc_107 (by decide +kernel) (zz_sub (js := [464, 274, 51, 465, 275, 466, 297, 298, 467, 468, 43, 469, 311, 312, 528, 529, 24, 530, 531, 25, 472, 473, 534, 535]) (by decide +kernel) (by decide +kernel))) (goodIn_app (gu_RJ4) (goodIn_app (gl_c_SB_init) (goodIn_app (gl_c_SBapp_6_0_16) (goodIn_app (gl_c_M_label_0) (goodIn_app (gl_c_SBapp_b0) (goodIn_app (gl_c_SBapp_10_22_34) (goodIn_app (gl_c_toS_b0) (goodIn_app (gl_c_M_putText_27) (goodIn_app (gl_c_M_put) (goodIn_app (gl_c_M_sumOf) (goodIn_app (gl_c_M_signOf_45) (goodIn_app (gl_c_M_signOf_48) (goodIn_app (gl_c_M_signOf_19) (goodIn_app (gl_c_M_signOf_14) (goodIn_app (gl_c_SBapp_11_0_16) (goodIn_app (gl_c_SBapp_e0) (goodIn_app (gl_c_SBapp_10_20_34) (goodIn_app (gl_c_toS_e0) (goodIn_app (gl_c_M_putText_25) (gl_nil _))))))))))))))))))))
set_option maxHeartbeats 4000000 in
set_option maxRecDepth 100000 in
theorem gl_c_M_armor_0 : GoodIn zt wz_c_M_armor_0 := goodIn_ca (zz_cons zc_67 (by decide +kernel) (zz_sub (js := [429, 425, 430, 460, 461, 43, 532, 533, 26]) (by decide +kernel) (by decide +kernel))) (goodIn_app (gu_RX12) (goodIn_app (gl_c_M_part0) (goodIn_app (gl_c_M_putSigns_0) (gl_nil _))))
theorem gl_c_X9_label_1 : GoodIn zt wz_c_X9_label_1 := gl_c_X9_label_0
theorem gl_c_len_o_4 : GoodIn zt wz_c_len_o_4 := gl_c_len_o_11
theorem gl_c_chkN_4 : GoodIn zt wz_c_chkN_4 := gl_c_chkN_11
theorem gl_c_chkR_4 : GoodIn zt wz_c_chkR_4 := gl_c_chkN_11
theorem gl_c_chk_4 : GoodIn zt wz_c_chk_4 := gl_c_chk_11

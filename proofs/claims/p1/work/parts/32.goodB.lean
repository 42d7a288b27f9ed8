set_option maxHeartbeats 4000000 in
set_option maxRecDepth 100000 in
theorem gc_0 : GoodIn zt ((vx_at0 RX11 144 "java/lang/IndexOutOfBoundsException" ["java/lang/RuntimeException", "java/lang/Exception"]).filter goodWord) := goodIn_sub (by decide +kernel) (by decide +kernel)
set_option maxHeartbeats 4000000 in
set_option maxRecDepth 100000 in
theorem gc_1 : GoodIn zt ((vx_at0 RX11 210 "java/lang/ArrayIndexOutOfBoundsException" ["java/lang/IndexOutOfBoundsException", "java/lang/RuntimeException", "java/lang/Exception"]).filter goodWord) := goodIn_sub (by decide +kernel) (by decide +kernel)
set_option maxHeartbeats 4000000 in
set_option maxRecDepth 100000 in
theorem gc_2 : GoodIn zt ((vx_at0 RX11 114 "java/lang/IllegalArgumentException" ["java/lang/RuntimeException", "java/lang/Exception"]).filter goodWord) := goodIn_sub (by decide +kernel) (by decide +kernel)
set_option maxHeartbeats 4000000 in
set_option maxRecDepth 100000 in
theorem gu_RX4 : GoodIn zt wsX40 := goodIn_sub it_RX4 (by decide +kernel)
set_option maxHeartbeats 4000000 in
set_option maxRecDepth 100000 in
theorem gu_RX11 : GoodIn zt wsX110 := goodIn_sub it_RX11 (by decide +kernel)
set_option maxHeartbeats 4000000 in
set_option maxRecDepth 100000 in
theorem gu_RX0 : GoodIn zt wsX00 := goodIn_sub it_RX0 (by decide +kernel)
set_option maxHeartbeats 4000000 in
set_option maxRecDepth 100000 in
theorem gu_RJx4a65c : GoodIn zt wsJx4a65c0 := goodIn_sub it_RJx4a65c (by decide +kernel)
set_option maxHeartbeats 4000000 in
set_option maxRecDepth 100000 in
theorem gu_RX7 : GoodIn zt wsX70 := goodIn_sub it_RX7 (by decide +kernel)
set_option maxHeartbeats 4000000 in
set_option maxRecDepth 100000 in
theorem gu_RX12 : GoodIn zt wsX120 := goodIn_sub it_RX12 (by decide +kernel)
set_option maxHeartbeats 4000000 in
set_option maxRecDepth 100000 in
theorem gu_RX10 : GoodIn zt wsX100 := goodIn_sub it_RX10 (by decide +kernel)
set_option maxHeartbeats 4000000 in
set_option maxRecDepth 100000 in
theorem gu_RJ4 : GoodIn zt wsJ40 := goodIn_sub it_RJ4 (by decide +kernel)
set_option maxHeartbeats 4000000 in
set_option maxRecDepth 100000 in
theorem gu_RJ0 : GoodIn zt wsJ00 := goodIn_sub it_RJ0 (by decide +kernel)
set_option maxHeartbeats 4000000 in
set_option maxRecDepth 100000 in
theorem gu_RX1 : GoodIn zt wsX10 := goodIn_sub it_RX1 (by decide +kernel)
set_option maxHeartbeats 4000000 in
set_option maxRecDepth 100000 in
theorem gu_RX9 : GoodIn zt wsX90 := goodIn_sub it_RX9 (by decide +kernel)
set_option maxHeartbeats 4000000 in
set_option maxRecDepth 100000 in
theorem gu_RX3 : GoodIn zt wsX30 := goodIn_sub it_RX3 (by decide +kernel)
set_option maxHeartbeats 4000000 in
set_option maxRecDepth 100000 in
theorem gu_RX8 : GoodIn zt wsX80 := goodIn_sub it_RX8 (by decide +kernel)
set_option maxHeartbeats 4000000 in
set_option maxRecDepth 100000 in
theorem gu_RX6 : GoodIn zt wsX60 := goodIn_sub it_RX6 (by decide +kernel)
set_option maxHeartbeats 4000000 in
set_option maxRecDepth 100000 in
theorem gu_RX2 : GoodIn zt wsX20 := goodIn_sub it_RX2 (by decide +kernel)
set_option maxHeartbeats 4000000 in
set_option maxRecDepth 100000 in
theorem gl_c_X4_open : GoodIn zt wz_c_X4_open := goodIn_ca (zz_sub (js := [246, 102, 104, 105]) (by decide +kernel) (by decide +kernel)) (goodIn_app (gu_RX4) (gl_nil _))
set_option maxHeartbeats 4000000 in
set_option maxRecDepth 100000 in
theorem gl_c_X11_isInSigns : GoodIn zt wz_c_X11_isInSigns := goodIn_ca (zz_sub (js := [249, 212, 82, 81]) (by decide +kernel) (by decide +kernel)) (goodIn_app (gu_RX11) (goodIn_app (gu_RX0) (gl_nil _)))
set_option maxHeartbeats 4000000 in
set_option maxRecDepth 100000 in
theorem gl_c_X11_openKeys : GoodIn zt wz_c_X11_openKeys := goodIn_ca (zz_sub (js := [242, 217, 212, 243, 244, 245, 31, 247, 248, 5, 27]) (by decide +kernel) (by decide +kernel)) (goodIn_app (gu_RX11) (goodIn_app (gl_c_X4_open) (goodIn_app (gl_c_X11_isInSigns) (gl_nil _))))
set_option maxHeartbeats 4000000 in
set_option maxRecDepth 100000 in
theorem gl_c_size : GoodIn zt wz_c_size := goodIn_ca (zz_sub (js := [292, 143]) (by decide +kernel) (by decide +kernel)) (goodIn_app (gu_RJx4a65c) (gl_nil _))
set_option maxHeartbeats 4000000 in
set_option maxRecDepth 100000 in
theorem gl_c_X4_more : GoodIn zt wz_c_X4_more := goodIn_ca (zz_sub (js := [296, 105, 102, 85]) (by decide +kernel) (by decide +kernel)) (goodIn_app (gu_RX4) (goodIn_app (gu_RX0) (gl_nil _)))
set_option maxHeartbeats 4000000 in
set_option maxRecDepth 100000 in
theorem gl_c_X7_joinAll : GoodIn zt wz_c_X7_joinAll := goodIn_ca (zz_sub (js := [288, 178, 179, 172, 289, 290, 291, 37, 293, 294, 295, 31, 103, 84]) (by decide +kernel) (by decide +kernel)) (goodIn_app (gu_RX7) (goodIn_app (gu_RX4) (goodIn_app (gu_RX0) (goodIn_app (gl_c_size) (goodIn_app (gl_c_X4_more) (gl_nil _))))))
set_option maxHeartbeats 4000000 in
set_option maxRecDepth 100000 in
theorem gl_c_X11_join : GoodIn zt wz_c_X11_join := goodIn_ca (zz_sub (js := [239, 240, 241, 4, 27, 220, 217, 285, 286, 287, 34, 212, 82, 81]) (by decide +kernel) (by decide +kernel)) (goodIn_app (gu_RX11) (goodIn_app (gu_RX0) (goodIn_app (gl_c_X11_openKeys) (goodIn_app (gl_c_X7_joinAll) (gl_nil _)))))
set_option maxHeartbeats 4000000 in
set_option maxRecDepth 100000 in
theorem gl_c_M_part0 : GoodIn zt wz_c_M_part0 := goodIn_ca (zz_sub (js := [567, 123]) (by decide +kernel) (by decide +kernel)) (gl_nil _)
set_option maxHeartbeats 4000000 in
set_option maxRecDepth 100000 in
theorem gl_c_M_taken : GoodIn zt wz_c_M_taken := goodIn_ca (zz_sub (js := [564, 528, 527, 565, 566, 43]) (by decide +kernel) (by decide +kernel)) (goodIn_app (gu_RX12) (goodIn_app (gl_c_M_part0) (gl_nil _)))
set_option maxHeartbeats 4000000 in
set_option maxRecDepth 100000 in
theorem gl_c_M_open : GoodIn zt wz_c_M_open := goodIn_ca (zz_sub (js := [586, 552, 553, 554]) (by decide +kernel) (by decide +kernel)) (goodIn_app (gu_RX12) (gl_nil _))
set_option maxHeartbeats 4000000 in
set_option maxRecDepth 100000 in
theorem gl_c_M_fail : GoodIn zt wz_c_M_fail := goodIn_ca (zz_sub (js := [570, 551]) (by decide +kernel) (by decide +kernel)) (goodIn_app (gu_RX12) (gl_nil _))
set_option maxHeartbeats 4000000 in
set_option maxRecDepth 100000 in
theorem gl_c_M_readKeys : GoodIn zt wz_c_M_readKeys := goodIn_ca (zz_sub (js := [589, 551, 553, 552, 568, 569, 10, 43]) (by decide +kernel) (by decide +kernel)) (goodIn_app (gu_RX12) (goodIn_app (gl_c_M_fail) (gl_nil _)))
set_option maxHeartbeats 4000000 in
set_option maxRecDepth 100000 in
theorem gl_c_M_join : GoodIn zt wz_c_M_join := goodIn_ca (zz_sub (js := [561, 526, 551, 532, 536, 562, 563, 9, 43, 584, 585, 11, 587, 588, 12]) (by decide +kernel) (by decide +kernel)) (goodIn_app (gu_RX12) (goodIn_app (gl_c_M_taken) (goodIn_app (gl_c_M_open) (goodIn_app (gl_c_M_readKeys) (gl_nil _)))))
set_option maxHeartbeats 4000000 in
set_option maxRecDepth 100000 in
theorem gl_c_X0_pushSpan : GoodIn zt wz_c_X0_pushSpan := goodIn_ca (zz_sub (js := [306, 76, 80, 81]) (by decide +kernel) (by decide +kernel)) (goodIn_app (gu_RX0) (gl_nil _))
set_option maxHeartbeats 4000000 in
set_option maxRecDepth 100000 in
theorem gl_c_X11_document : GoodIn zt wz_c_X11_document := goodIn_ca (zz_sub (js := [425, 213, 82, 81, 212, 426, 304, 305, 29, 225]) (by decide +kernel) (by decide +kernel)) (goodIn_app (gu_RX11) (goodIn_app (gu_RX0) (goodIn_app (gl_c_X0_pushSpan) (gl_nil _))))
set_option maxHeartbeats 4000000 in
set_option maxRecDepth 100000 in
theorem gl_c_M_document : GoodIn zt wz_c_M_document := goodIn_ca (zz_sub (js := [640, 526, 562, 563, 9, 43, 529]) (by decide +kernel) (by decide +kernel)) (goodIn_app (gu_RX12) (goodIn_app (gl_c_M_taken) (gl_nil _)))
set_option maxHeartbeats 4000000 in
set_option maxRecDepth 100000 in
theorem gl_c_X11_keys : GoodIn zt wz_c_X11_keys := goodIn_ca (zz_sub (js := [427, 220, 173, 428, 290, 291, 37]) (by decide +kernel) (by decide +kernel)) (goodIn_app (gu_RX11) (goodIn_app (gu_RX7) (goodIn_app (gl_c_size) (gl_nil _))))
set_option maxHeartbeats 4000000 in
set_option maxRecDepth 100000 in
theorem gl_c_M_keys : GoodIn zt wz_c_M_keys := goodIn_ca (zz_sub (js := [649, 526, 532]) (by decide +kernel) (by decide +kernel)) (goodIn_app (gu_RX12) (gl_nil _))
set_option maxHeartbeats 4000000 in
set_option maxRecDepth 100000 in
theorem gl_c_X9_sumOf : GoodIn zt wz_c_X9_sumOf := goodIn_ca (zz_sub (js := [282, 283, 86]) (by decide +kernel) (by decide +kernel)) (goodIn_app (gu_RX0) (gl_nil _))
set_option maxHeartbeats 4000000 in
set_option maxRecDepth 100000 in
theorem gl_c_X11_sum : GoodIn zt wz_c_X11_sum := goodIn_ca (zz_sub (js := [429, 223, 430, 281, 32]) (by decide +kernel) (by decide +kernel)) (goodIn_app (gu_RX11) (goodIn_app (gl_c_X9_sumOf) (gl_nil _)))
set_option maxHeartbeats 4000000 in
set_option maxRecDepth 100000 in
theorem gl_c_M_sumOf : GoodIn zt wz_c_M_sumOf := goodIn_ca (zz_sub (js := [582, 583]) (by decide +kernel) (by decide +kernel)) (gl_nil _)
set_option maxHeartbeats 4000000 in
set_option maxRecDepth 100000 in
theorem gl_c_M_sum : GoodIn zt wz_c_M_sum := goodIn_ca (zz_sub (js := [675, 526, 531, 530, 580, 581, 43]) (by decide +kernel) (by decide +kernel)) (goodIn_app (gu_RX12) (goodIn_app (gl_c_M_sumOf) (gl_nil _)))
set_option maxHeartbeats 4000000 in
set_option maxRecDepth 100000 in
theorem gl_c_X11_take : GoodIn zt wz_c_X11_take := goodIn_ca (zz_sub (js := [431, 212, 82, 81, 223, 432, 234, 30, 235, 426, 304, 305, 29]) (by decide +kernel) (by decide +kernel)) (goodIn_app (gu_RX11) (goodIn_app (gu_RX0) (goodIn_app (gl_c_X0_pushSpan) (gl_nil _))))
set_option maxHeartbeats 4000000 in
set_option maxRecDepth 100000 in
theorem gl_c_M_take : GoodIn zt wz_c_M_take := goodIn_ca (zz_sub (js := [676, 526, 530, 527]) (by decide +kernel) (by decide +kernel)) (goodIn_app (gu_RX12) (gl_nil _))
set_option maxHeartbeats 4000000 in
set_option maxRecDepth 100000 in
theorem gl_c_X11_found : GoodIn zt wz_c_X11_found := goodIn_ca (zz_sub (js := [461, 220, 173, 428, 290, 291, 37]) (by decide +kernel) (by decide +kernel)) (goodIn_app (gu_RX11) (goodIn_app (gu_RX7) (goodIn_app (gl_c_size) (gl_nil _))))
set_option maxHeartbeats 4000000 in
set_option maxRecDepth 100000 in
theorem gl_c_X11_key : GoodIn zt wz_c_X11_key := goodIn_ca (zz_sub (js := [458, 459, 460, 8, 27, 462, 53]) (by decide +kernel) (by decide +kernel)) (goodIn_app (gc_0) (goodIn_app (gl_c_X11_found) (gl_nil _)))
set_option maxHeartbeats 4000000 in
set_option maxRecDepth 100000 in
theorem gl_c_L_key : GoodIn zt wz_c_L_key := goodIn_ca (zz_sub (js := [453, 455, 456, 457, 27, 454]) (by decide +kernel) (by decide +kernel)) (goodIn_app (gl_c_X11_key) (gl_nil _))
set_option maxHeartbeats 4000000 in
set_option maxRecDepth 100000 in
theorem gl_c_M_placeOf : GoodIn zt wz_c_M_placeOf := goodIn_ca (zz_sub (js := [653, 532]) (by decide +kernel) (by decide +kernel)) (goodIn_app (gu_RX12) (gl_nil _))
set_option maxHeartbeats 4000000 in
set_option maxRecDepth 100000 in
theorem gl_c_M_key : GoodIn zt wz_c_M_key := goodIn_ca (zz_sub (js := [650, 651, 652, 22, 43, 526]) (by decide +kernel) (by decide +kernel)) (goodIn_app (gu_RX12) (goodIn_app (gl_c_M_placeOf) (gl_nil _)))
set_option maxHeartbeats 4000000 in
set_option maxRecDepth 100000 in
theorem gl_c_M_thrown : GoodIn zt wz_c_M_thrown := goodIn_ca (zz_sub (js := [558, 526]) (by decide +kernel) (by decide +kernel)) (goodIn_app (gu_RX12) (gl_nil _))
set_option maxHeartbeats 4000000 in
set_option maxRecDepth 100000 in
theorem gl_c_X11_print : GoodIn zt wz_c_X11_print := goodIn_ca (zz_sub (js := [467, 459, 460, 8, 27, 462, 53]) (by decide +kernel) (by decide +kernel)) (goodIn_app (gc_0) (goodIn_app (gl_c_X11_found) (gl_nil _)))
set_option maxHeartbeats 4000000 in
set_option maxRecDepth 100000 in
theorem gl_c_L_print : GoodIn zt wz_c_L_print := goodIn_ca (zz_sub (js := [463, 464, 465, 466, 27, 454]) (by decide +kernel) (by decide +kernel)) (goodIn_app (gl_c_X11_print) (gl_nil _))
set_option maxHeartbeats 4000000 in
set_option maxRecDepth 100000 in
theorem gl_c_M_thingOf : GoodIn zt wz_c_M_thingOf := goodIn_ca (zz_sub (js := [657, 651, 652, 22, 43]) (by decide +kernel) (by decide +kernel)) (goodIn_app (gl_c_M_placeOf) (gl_nil _))
set_option maxHeartbeats 4000000 in
set_option maxRecDepth 100000 in
theorem gl_c_M_print : GoodIn zt wz_c_M_print := goodIn_ca (zz_sub (js := [654, 655, 656, 23, 43, 526]) (by decide +kernel) (by decide +kernel)) (goodIn_app (gu_RX12) (goodIn_app (gl_c_M_thingOf) (gl_nil _)))
set_option maxHeartbeats 4000000 in
set_option maxRecDepth 100000 in
theorem gl_c_X11_usable : GoodIn zt wz_c_X11_usable := goodIn_ca (zz_sub (js := [472, 459, 460, 8, 27, 462, 53]) (by decide +kernel) (by decide +kernel)) (goodIn_app (gc_0) (goodIn_app (gl_c_X11_found) (gl_nil _)))
set_option maxHeartbeats 4000000 in
set_option maxRecDepth 100000 in
theorem gl_c_L_usable : GoodIn zt wz_c_L_usable := goodIn_ca (zz_sub (js := [468, 469, 470, 471, 27, 454]) (by decide +kernel) (by decide +kernel)) (goodIn_app (gl_c_X11_usable) (gl_nil _))
set_option maxHeartbeats 4000000 in
set_option maxRecDepth 100000 in
theorem gl_c_M_usable : GoodIn zt wz_c_M_usable := goodIn_ca (zz_sub (js := [658, 655, 656, 23, 43, 526]) (by decide +kernel) (by decide +kernel)) (goodIn_app (gu_RX12) (goodIn_app (gl_c_M_thingOf) (gl_nil _)))
set_option maxHeartbeats 4000000 in
set_option maxRecDepth 100000 in
theorem gl_c_X11_seal : GoodIn zt wz_c_X11_seal := goodIn_ca (zz_sub (js := [477, 459, 460, 8, 27, 462, 53]) (by decide +kernel) (by decide +kernel)) (goodIn_app (gc_0) (goodIn_app (gl_c_X11_found) (gl_nil _)))
set_option maxHeartbeats 4000000 in
set_option maxRecDepth 100000 in
theorem gl_c_L_seal : GoodIn zt wz_c_L_seal := goodIn_ca (zz_sub (js := [473, 474, 475, 476, 27, 454]) (by decide +kernel) (by decide +kernel)) (goodIn_app (gl_c_X11_seal) (gl_nil _))
set_option maxHeartbeats 4000000 in
set_option maxRecDepth 100000 in
theorem gl_c_M_seal : GoodIn zt wz_c_M_seal := goodIn_ca (zz_sub (js := [659, 655, 656, 23, 43, 526]) (by decide +kernel) (by decide +kernel)) (goodIn_app (gu_RX12) (goodIn_app (gl_c_M_thingOf) (gl_nil _)))
set_option maxHeartbeats 4000000 in
set_option maxRecDepth 100000 in
theorem gl_c_X11_export : GoodIn zt wz_c_X11_export := goodIn_ca (zz_sub (js := [498, 459, 460, 8, 27, 462, 53]) (by decide +kernel) (by decide +kernel)) (goodIn_app (gc_0) (goodIn_app (gl_c_X11_found) (gl_nil _)))
set_option maxHeartbeats 4000000 in
set_option maxRecDepth 100000 in
theorem gl_c_L_export : GoodIn zt wz_c_L_export := goodIn_ca (zz_sub (js := [494, 495, 496, 497, 27, 454]) (by decide +kernel) (by decide +kernel)) (goodIn_app (gl_c_X11_export) (gl_nil _))
set_option maxHeartbeats 4000000 in
set_option maxRecDepth 100000 in
theorem gl_c_M_export : GoodIn zt wz_c_M_export := goodIn_ca (zz_sub (js := [672, 651, 652, 22, 43, 526]) (by decide +kernel) (by decide +kernel)) (goodIn_app (gu_RX12) (goodIn_app (gl_c_M_placeOf) (gl_nil _)))
set_option maxHeartbeats 4000000 in
set_option maxRecDepth 100000 in
theorem gl_c_X11_out : GoodIn zt wz_c_X11_out := goodIn_ca (zz_sub (js := [509, 510, 54, 223, 82, 81]) (by decide +kernel) (by decide +kernel)) (goodIn_app (gc_1) (goodIn_app (gu_RX11) (goodIn_app (gu_RX0) (gl_nil _))))
set_option maxHeartbeats 4000000 in
set_option maxRecDepth 100000 in
theorem gl_c_L_out : GoodIn zt wz_c_L_out := goodIn_ca (zz_sub (js := [504, 506, 507, 508, 27, 505]) (by decide +kernel) (by decide +kernel)) (goodIn_app (gl_c_X11_out) (gl_nil _))
set_option maxHeartbeats 4000000 in
set_option maxRecDepth 100000 in
theorem gl_c_M_out : GoodIn zt wz_c_M_out := goodIn_ca (zz_sub (js := [674, 526, 530]) (by decide +kernel) (by decide +kernel)) (goodIn_app (gu_RX12) (gl_nil _))
set_option maxHeartbeats 4000000 in
set_option maxRecDepth 100000 in
theorem gl_c_X11_drop : GoodIn zt wz_c_X11_drop := goodIn_ca (zz_sub (js := [515, 462, 53, 220, 173, 428, 290, 291, 37]) (by decide +kernel) (by decide +kernel)) (goodIn_app (gc_0) (goodIn_app (gu_RX11) (goodIn_app (gu_RX7) (goodIn_app (gl_c_size) (gl_nil _)))))
set_option maxHeartbeats 4000000 in
set_option maxRecDepth 100000 in
theorem gl_c_L_drop : GoodIn zt wz_c_L_drop := goodIn_ca (zz_sub (js := [511, 512, 513, 514, 27, 454]) (by decide +kernel) (by decide +kernel)) (goodIn_app (gl_c_X11_drop) (gl_nil _))
set_option maxHeartbeats 4000000 in
set_option maxRecDepth 100000 in
theorem gl_c_M_drop : GoodIn zt wz_c_M_drop := goodIn_ca (zz_sub (js := [677, 651, 652, 22, 43, 526]) (by decide +kernel) (by decide +kernel)) (goodIn_app (gu_RX12) (goodIn_app (gl_c_M_placeOf) (gl_nil _)))
set_option maxHeartbeats 4000000 in
set_option maxRecDepth 100000 in
theorem gl_c_X11_isTime_n : GoodIn zt wz_c_X11_isTime_n := goodIn_ca (zz_sub (js := [441]) (by decide +kernel) (by decide +kernel)) (gl_nil _)
set_option maxHeartbeats 4000000 in
set_option maxRecDepth 100000 in
theorem gl_c_X11_look_n : GoodIn zt wz_c_X11_look_n := goodIn_ca (zz_sub (js := [438, 439, 440, 27, 443, 49]) (by decide +kernel) (by decide +kernel)) (goodIn_app (gc_2) (goodIn_app (gl_c_X11_isTime_n) (gl_nil _)))
set_option maxHeartbeats 4000000 in
set_option maxRecDepth 100000 in
theorem gl_c_L_look_n : GoodIn zt wz_c_L_look_n := goodIn_ca (zz_sub (js := [433, 435, 436, 437, 27, 434]) (by decide +kernel) (by decide +kernel)) (goodIn_app (gl_c_X11_look_n) (gl_nil _))
set_option maxHeartbeats 4000000 in
set_option maxRecDepth 100000 in
theorem gl_c_M_isTime_n : GoodIn zt wz_c_M_isTime_n := goodIn_ca (zz_sub (js := [644]) (by decide +kernel) (by decide +kernel)) (gl_nil _)
set_option maxHeartbeats 4000000 in
set_option maxRecDepth 100000 in
theorem gl_c_M_look_n : GoodIn zt wz_c_M_look_n := goodIn_ca (zz_sub (js := [641, 642, 643, 43, 526]) (by decide +kernel) (by decide +kernel)) (goodIn_app (gu_RX12) (goodIn_app (gl_c_M_isTime_n) (gl_nil _)))
set_option maxHeartbeats 4000000 in
set_option maxRecDepth 100000 in
theorem gl_c_X11_isTime_m : GoodIn zt wz_c_X11_isTime_m := goodIn_ca (zz_sub (js := [441, 442]) (by decide +kernel) (by decide +kernel)) (gl_nil _)
set_option maxHeartbeats 4000000 in
set_option maxRecDepth 100000 in
theorem gl_c_X11_look_m : GoodIn zt wz_c_X11_look_m := goodIn_ca (zz_sub (js := [438, 439, 440, 27, 443, 49]) (by decide +kernel) (by decide +kernel)) (goodIn_app (gc_2) (goodIn_app (gl_c_X11_isTime_m) (gl_nil _)))
set_option maxHeartbeats 4000000 in
set_option maxRecDepth 100000 in
theorem gl_c_L_look_m : GoodIn zt wz_c_L_look_m := goodIn_ca (zz_sub (js := [433, 435, 436, 437, 27, 434]) (by decide +kernel) (by decide +kernel)) (goodIn_app (gl_c_X11_look_m) (gl_nil _))
set_option maxHeartbeats 4000000 in
set_option maxRecDepth 100000 in
theorem gl_c_M_isTime_m : GoodIn zt wz_c_M_isTime_m := goodIn_ca (zz_sub (js := [644, 645]) (by decide +kernel) (by decide +kernel)) (gl_nil _)
set_option maxHeartbeats 4000000 in
set_option maxRecDepth 100000 in
theorem gl_c_M_look_m : GoodIn zt wz_c_M_look_m := goodIn_ca (zz_sub (js := [641, 642, 643, 43, 526]) (by decide +kernel) (by decide +kernel)) (goodIn_app (gu_RX12) (goodIn_app (gl_c_M_isTime_m) (gl_nil _)))
theorem gl_c_X11_isTime_y : GoodIn zt wz_c_X11_isTime_y := gl_c_X11_isTime_m
set_option maxHeartbeats 4000000 in
set_option maxRecDepth 100000 in
theorem gl_c_X10_view : GoodIn zt wz_c_X10_view := goodIn_ca (zz_sub (js := [303, 71, 75, 79]) (by decide +kernel) (by decide +kernel)) (goodIn_app (gu_RX10) (gl_nil _))
set_option maxHeartbeats 4000000 in
set_option maxRecDepth 100000 in
theorem gl_c_X10_at_empty : GoodIn zt wz_c_X10_at_empty := goodIn_ca (zz_sub (js := [251, 75, 79]) (by decide +kernel) (by decide +kernel)) (goodIn_app (gu_RX0) (gl_nil _))
set_option maxHeartbeats 4000000 in
set_option maxRecDepth 100000 in
theorem gl_c_X4_read : GoodIn zt wz_c_X4_read := goodIn_ca (zz_sub (js := [299, 105, 104, 102, 300, 679, 680, 250, 28, 85]) (by decide +kernel) (by decide +kernel)) (goodIn_app (gu_RX4) (goodIn_app (gu_RX0) (goodIn_app (gl_c_X10_at_empty) (gl_nil _))))
set_option maxHeartbeats 4000000 in
set_option maxRecDepth 100000 in
theorem gl_c_X4_fault : GoodIn zt wz_c_X4_fault := goodIn_ca (zz_sub (js := [424, 104]) (by decide +kernel) (by decide +kernel)) (goodIn_app (gu_RX4) (gl_nil _))
set_option maxHeartbeats 4000000 in
set_option maxRecDepth 100000 in
theorem gl_c_X11_readSealed : GoodIn zt wz_c_X11_readSealed := goodIn_ca (zz_sub (js := [450, 217, 451, 297, 298, 31, 452, 422, 423]) (by decide +kernel) (by decide +kernel)) (goodIn_app (gu_RX11) (goodIn_app (gl_c_X4_read) (goodIn_app (gl_c_X4_fault) (gl_nil _))))
set_option maxHeartbeats 4000000 in
set_option maxRecDepth 100000 in
theorem gl_c_X11_openLooked : GoodIn zt wz_c_X11_openLooked := goodIn_ca (zz_sub (js := [446, 216, 213, 74, 73, 77, 78, 82, 81, 447, 301, 302, 28, 217, 212, 243, 244, 245, 31, 247, 248, 5, 27, 448, 449, 7]) (by decide +kernel) (by decide +kernel)) (goodIn_app (gu_RX11) (goodIn_app (gu_RX0) (goodIn_app (gl_c_X10_view) (goodIn_app (gl_c_X4_open) (goodIn_app (gl_c_X11_isInSigns) (goodIn_app (gl_c_X11_readSealed) (gl_nil _)))))))
set_option maxHeartbeats 4000000 in
set_option maxRecDepth 100000 in
theorem gl_c_X11_look_y : GoodIn zt wz_c_X11_look_y := goodIn_ca (zz_sub (js := [438, 439, 440, 27, 444, 445, 6, 212, 82, 81]) (by decide +kernel) (by decide +kernel)) (goodIn_app (gu_RX11) (goodIn_app (gu_RX0) (goodIn_app (gl_c_X11_isTime_y) (goodIn_app (gl_c_X11_openLooked) (gl_nil _)))))
set_option maxHeartbeats 4000000 in
set_option maxRecDepth 100000 in
theorem gl_c_L_look_y : GoodIn zt wz_c_L_look_y := goodIn_ca (zz_sub (js := [433, 435, 436, 437, 27]) (by decide +kernel) (by decide +kernel)) (goodIn_app (gl_c_X11_look_y) (gl_nil _))
theorem gl_c_M_isTime_y : GoodIn zt wz_c_M_isTime_y := gl_c_M_isTime_m
set_option maxHeartbeats 4000000 in
set_option maxRecDepth 100000 in
theorem gl_c_M_readCase : GoodIn zt wz_c_M_readCase := goodIn_ca (zz_sub (js := [648, 568, 569, 10, 43]) (by decide +kernel) (by decide +kernel)) (goodIn_app (gl_c_M_fail) (gl_nil _))
set_option maxHeartbeats 4000000 in
set_option maxRecDepth 100000 in
theorem gl_c_M_look_y : GoodIn zt wz_c_M_look_y := goodIn_ca (zz_sub (js := [641, 642, 643, 43, 526, 551, 562, 563, 9, 646, 647, 21]) (by decide +kernel) (by decide +kernel)) (goodIn_app (gu_RX12) (goodIn_app (gl_c_M_isTime_y) (goodIn_app (gl_c_M_taken) (goodIn_app (gl_c_M_readCase) (gl_nil _)))))
set_option maxHeartbeats 4000000 in
set_option maxRecDepth 100000 in
theorem gl_c_X11_add_lo : GoodIn zt wz_c_X11_add_lo := goodIn_ca (zz_sub (js := [226]) (by decide +kernel) (by decide +kernel)) (gl_nil _)
set_option maxHeartbeats 4000000 in
set_option maxRecDepth 100000 in
theorem gl_c_M_add_lo : GoodIn zt wz_c_M_add_lo := goodIn_ca (zz_sub (js := [559, 526]) (by decide +kernel) (by decide +kernel)) (goodIn_app (gu_RX12) (gl_nil _))
theorem gl_c_X11_add_hi : GoodIn zt wz_c_X11_add_hi := gl_c_X11_add_lo
theorem gl_c_M_add_hi : GoodIn zt wz_c_M_add_hi := gl_c_M_add_lo
set_option maxHeartbeats 4000000 in
set_option maxRecDepth 100000 in
theorem gl_c_X0_push : GoodIn zt wz_c_X0_push := goodIn_ca (zz_sub (js := [230, 80, 81, 72, 73]) (by decide +kernel) (by decide +kernel)) (goodIn_app (gu_RX0) (gl_nil _))
set_option maxHeartbeats 4000000 in
set_option maxRecDepth 100000 in
theorem gl_c_X11_add_1 : GoodIn zt wz_c_X11_add_1 := goodIn_ca (zz_sub (js := [226, 212, 82, 81, 227, 228, 229, 29]) (by decide +kernel) (by decide +kernel)) (goodIn_app (gu_RX11) (goodIn_app (gu_RX0) (goodIn_app (gl_c_X0_push) (gl_nil _))))
set_option maxHeartbeats 4000000 in
set_option maxRecDepth 100000 in
theorem gl_c_M_add_1 : GoodIn zt wz_c_M_add_1 := goodIn_ca (zz_sub (js := [559, 526, 527, 528, 560]) (by decide +kernel) (by decide +kernel)) (goodIn_app (gu_RX12) (gl_nil _))
theorem gl_c_X11_add_2 : GoodIn zt wz_c_X11_add_2 := gl_c_X11_add_1
theorem gl_c_M_add_2 : GoodIn zt wz_c_M_add_2 := gl_c_M_add_1
theorem gl_c_X11_add_3 : GoodIn zt wz_c_X11_add_3 := gl_c_X11_add_1
theorem gl_c_M_add_3 : GoodIn zt wz_c_M_add_3 := gl_c_M_add_1
theorem gl_c_X11_add_4 : GoodIn zt wz_c_X11_add_4 := gl_c_X11_add_1
theorem gl_c_M_add_4 : GoodIn zt wz_c_M_add_4 := gl_c_M_add_1
theorem gl_c_X11_add_5 : GoodIn zt wz_c_X11_add_5 := gl_c_X11_add_1
theorem gl_c_M_add_5 : GoodIn zt wz_c_M_add_5 := gl_c_M_add_1
theorem gl_c_X11_add_6 : GoodIn zt wz_c_X11_add_6 := gl_c_X11_add_1
theorem gl_c_M_add_6 : GoodIn zt wz_c_M_add_6 := gl_c_M_add_1
theorem gl_c_X11_add_7 : GoodIn zt wz_c_X11_add_7 := gl_c_X11_add_1
theorem gl_c_M_add_7 : GoodIn zt wz_c_M_add_7 := gl_c_M_add_1
theorem gl_c_X11_add_8 : GoodIn zt wz_c_X11_add_8 := gl_c_X11_add_1
theorem gl_c_M_add_8 : GoodIn zt wz_c_M_add_8 := gl_c_M_add_1
set_option maxHeartbeats 4000000 in
set_option maxRecDepth 100000 in
theorem gl_c_X11_armor_lo : GoodIn zt wz_c_X11_armor_lo := goodIn_ca (zz_sub (js := [503, 443, 49]) (by decide +kernel) (by decide +kernel)) (goodIn_app (gc_2) (gl_nil _))
set_option maxHeartbeats 4000000 in
set_option maxRecDepth 100000 in
theorem gl_c_L_armor_lo : GoodIn zt wz_c_L_armor_lo := goodIn_ca (zz_sub (js := [499, 500, 501, 502, 27, 434]) (by decide +kernel) (by decide +kernel)) (goodIn_app (gl_c_X11_armor_lo) (gl_nil _))
set_option maxHeartbeats 4000000 in
set_option maxRecDepth 100000 in
theorem gl_c_M_armor_lo : GoodIn zt wz_c_M_armor_lo := goodIn_ca (zz_sub (js := [673, 526]) (by decide +kernel) (by decide +kernel)) (goodIn_app (gu_RX12) (gl_nil _))
theorem gl_c_X11_armor_hi : GoodIn zt wz_c_X11_armor_hi := gl_c_X11_armor_lo
theorem gl_c_L_armor_hi : GoodIn zt wz_c_L_armor_hi := gl_c_L_armor_lo
theorem gl_c_M_armor_hi : GoodIn zt wz_c_M_armor_hi := gl_c_M_armor_lo
set_option maxHeartbeats 4000000 in
set_option maxRecDepth 100000 in
theorem gl_c_coder_o : GoodIn zt wz_c_coder_o := goodIn_ca (zz_sub (js := [261, 262, 395]) (by decide +kernel) (by decide +kernel)) (gl_nil _)
set_option maxHeartbeats 4000000 in
set_option maxRecDepth 100000 in
theorem gl_c_len_o_11 : GoodIn zt wz_c_len_o_11 := goodIn_ca (zz_sub (js := [257, 394, 258, 259, 260, 46]) (by decide +kernel) (by decide +kernel)) (goodIn_app (gl_c_coder_o) (gl_nil _))
set_option maxHeartbeats 4000000 in
set_option maxRecDepth 100000 in
theorem gl_c_isLatin1_o : GoodIn zt wz_c_isLatin1_o := goodIn_ca (zz_sub (js := [269, 262, 395]) (by decide +kernel) (by decide +kernel)) (gl_nil _)
set_option maxHeartbeats 4000000 in
set_option maxRecDepth 100000 in
theorem gl_c_chkN_11 : GoodIn zt wz_c_chkN_11 := goodIn_ca (zz_sub (js := [279]) (by decide +kernel) (by decide +kernel)) (gl_nil _)
theorem gl_c_chkR_11 : GoodIn zt wz_c_chkR_11 := gl_c_chkN_11
set_option maxHeartbeats 4000000 in
set_option maxRecDepth 100000 in
theorem gl_c_chk_11 : GoodIn zt wz_c_chk_11 := goodIn_ca (zz_sub (js := [275, 276, 277, 278, 48]) (by decide +kernel) (by decide +kernel)) (goodIn_app (gl_c_chkN_11) (goodIn_app (gl_c_chkR_11) (gl_nil _)))
set_option maxHeartbeats 4000000 in
set_option maxRecDepth 100000 in
theorem gl_c_chr1_o_11 : GoodIn zt wz_c_chr1_o_11 := goodIn_ca (zz_sub (js := [272, 273, 274, 46]) (by decide +kernel) (by decide +kernel)) (goodIn_app (gl_c_chk_11) (gl_nil _))
set_option maxHeartbeats 4000000 in
set_option maxRecDepth 100000 in
theorem gl_c_chr_o_11 : GoodIn zt wz_c_chr_o_11 := goodIn_ca (zz_sub (js := [265, 266, 267, 268, 46, 394, 270, 271, 47]) (by decide +kernel) (by decide +kernel)) (goodIn_app (gl_c_isLatin1_o) (goodIn_app (gl_c_chr1_o_11) (gl_nil _)))
set_option maxHeartbeats 4000000 in
set_option maxRecDepth 100000 in
theorem gl_c_X0_pushText_11 : GoodIn zt wz_c_X0_pushText_11 := goodIn_ca (zz_sub (js := [481, 482, 255, 256, 46, 483, 263, 264, 396, 228, 229, 29]) (by decide +kernel) (by decide +kernel)) (goodIn_app (gl_c_len_o_11) (goodIn_app (gl_c_chr_o_11) (goodIn_app (gl_c_X0_push) (gl_nil _))))
set_option maxHeartbeats 4000000 in
set_option maxRecDepth 100000 in
theorem gl_c_X9_label_0 : GoodIn zt wz_c_X9_label_0 := goodIn_ca (zz_sub (js := [254]) (by decide +kernel) (by decide +kernel)) (gl_nil _)
theorem gl_c_len_o_5 : GoodIn zt wz_c_len_o_5 := gl_c_len_o_11
theorem gl_c_chkN_5 : GoodIn zt wz_c_chkN_5 := gl_c_chkN_11
theorem gl_c_chkR_5 : GoodIn zt wz_c_chkR_5 := gl_c_chkN_11
theorem gl_c_chk_5 : GoodIn zt wz_c_chk_5 := gl_c_chk_11
theorem gl_c_chr1_o_5 : GoodIn zt wz_c_chr1_o_5 := gl_c_chr1_o_11
theorem gl_c_chr_o_5 : GoodIn zt wz_c_chr_o_5 := gl_c_chr_o_11
theorem gl_c_X0_pushText_5 : GoodIn zt wz_c_X0_pushText_5 := gl_c_X0_pushText_11
set_option maxHeartbeats 4000000 in
set_option maxRecDepth 100000 in
theorem gl_c_X9_signOf_45 : GoodIn zt wz_c_X9_signOf_45 := goodIn_ca (zz_sub (js := [493]) (by decide +kernel) (by decide +kernel)) (gl_nil _)
theorem gl_c_X9_signOf_48 : GoodIn zt wz_c_X9_signOf_48 := gl_c_X9_signOf_45
theorem gl_c_X9_signOf_19 : GoodIn zt wz_c_X9_signOf_19 := gl_c_X9_signOf_45
theorem gl_c_X9_signOf_14 : GoodIn zt wz_c_X9_signOf_14 := gl_c_X9_signOf_45
set_option maxHeartbeats 4000000 in
set_option maxRecDepth 100000 in
theorem gl_c_X9_writeGroup : GoodIn zt wz_c_X9_writeGroup := goodIn_ca (zz_sub (js := [490, 491, 492, 32, 284, 228, 229, 29]) (by decide +kernel) (by decide +kernel)) (goodIn_app (gl_c_X9_signOf_45) (goodIn_app (gl_c_X0_push) (goodIn_app (gl_c_X9_signOf_48) (goodIn_app (gl_c_X9_signOf_19) (goodIn_app (gl_c_X9_signOf_14) (gl_nil _))))))
theorem gl_c_len_o_9 : GoodIn zt wz_c_len_o_9 := gl_c_len_o_11
theorem gl_c_chkN_9 : GoodIn zt wz_c_chkN_9 := gl_c_chkN_11
theorem gl_c_chkR_9 : GoodIn zt wz_c_chkR_9 := gl_c_chkN_11
theorem gl_c_chk_9 : GoodIn zt wz_c_chk_9 := gl_c_chk_11
theorem gl_c_chr1_o_9 : GoodIn zt wz_c_chr1_o_9 := gl_c_chr1_o_11
theorem gl_c_chr_o_9 : GoodIn zt wz_c_chr_o_9 := gl_c_chr_o_11
theorem gl_c_X0_pushText_9 : GoodIn zt wz_c_X0_pushText_9 := gl_c_X0_pushText_11
set_option maxHeartbeats 4000000 in
set_option maxRecDepth 100000 in
theorem gl_c_X9_write_0 : GoodIn zt wz_c_X9_write_0 := goodIn_ca (zz_sub (js := [486, 487, 479, 480, 29, 252, 253, 32, 284, 228, 229, 86, 280, 281, 488, 489]) (by decide +kernel) (by decide +kernel)) (goodIn_app (gu_RX0) (goodIn_app (gl_c_X0_pushText_11) (goodIn_app (gl_c_X9_label_0) (goodIn_app (gl_c_X0_pushText_5) (goodIn_app (gl_c_X0_push) (goodIn_app (gl_c_X9_sumOf) (goodIn_app (gl_c_X9_writeGroup) (goodIn_app (gl_c_X0_pushText_9) (gl_nil _)))))))))
set_option maxHeartbeats 4000000 in
set_option maxRecDepth 100000 in
theorem gl_c_X11_armor_0 : GoodIn zt wz_c_X11_armor_0 := goodIn_ca (zz_sub (js := [503, 223, 82, 81, 224, 484, 485, 32]) (by decide +kernel) (by decide +kernel)) (goodIn_app (gu_RX11) (goodIn_app (gu_RX0) (goodIn_app (gl_c_X9_write_0) (gl_nil _))))
set_option maxHeartbeats 4000000 in
set_option maxRecDepth 100000 in
theorem gl_c_L_armor_0 : GoodIn zt wz_c_L_armor_0 := goodIn_ca (zz_sub (js := [499, 500, 501, 502, 27]) (by decide +kernel) (by decide +kernel)) (goodIn_app (gl_c_X11_armor_0) (gl_nil _))
set_option maxHeartbeats 4000000 in
set_option maxRecDepth 100000 in
theorem gl_c_ASB_init : GoodIn zt wz_c_ASB_init := goodIn_ca (zz_sub (js := [324, 325, 57, 58, 326, 87, 327, 328]) (by decide +kernel) (by decide +kernel)) (goodIn_app (gu_RJ4) (gl_nil _))
set_option maxHeartbeats 4000000 in
set_option maxRecDepth 100000 in
theorem gl_c_SB_init : GoodIn zt wz_c_SB_init := goodIn_ca (zz_sub (js := [321, 50, 322, 323]) (by decide +kernel) (by decide +kernel)) (goodIn_app (gl_c_ASB_init) (gl_nil _))
set_option maxHeartbeats 4000000 in
set_option maxRecDepth 100000 in
theorem gl_c_ens_16_11 : GoodIn zt wz_c_ens_16_11 := goodIn_ca (zz_sub (js := [333, 327, 328]) (by decide +kernel) (by decide +kernel)) (goodIn_app (gu_RJ4) (gl_nil _))
set_option maxHeartbeats 4000000 in
set_option maxRecDepth 100000 in
theorem gl_c_inflIf : GoodIn zt wz_c_inflIf := goodIn_ca (zz_sub (js := [360, 326, 328, 361, 259, 260, 46]) (by decide +kernel) (by decide +kernel)) (goodIn_app (gu_RJ4) (goodIn_app (gl_c_coder_o) (gl_nil _)))
set_option maxHeartbeats 4000000 in
set_option maxRecDepth 100000 in
theorem gl_c_getBytes_6_0_16 : GoodIn zt wz_c_getBytes_6_0_16 := goodIn_ca (zz_sub (js := [365, 258, 259, 260, 46, 394, 366, 238, 237, 45]) (by decide +kernel) (by decide +kernel)) (goodIn_app (gl_c_coder_o) (gl_nil _))
set_option maxHeartbeats 4000000 in
set_option maxRecDepth 100000 in
theorem gl_c_putStr_6_0_16 : GoodIn zt wz_c_putStr_6_0_16 := goodIn_ca (zz_sub (js := [357, 358, 685, 2, 359, 50, 327, 328, 362, 363, 364, 46]) (by decide +kernel) (by decide +kernel)) (goodIn_app (gu_RJ4) (goodIn_app (gl_c_inflIf) (goodIn_app (gl_c_getBytes_6_0_16) (gl_nil _))))
set_option maxHeartbeats 4000000 in
set_option maxRecDepth 100000 in
theorem gl_c_ASBapp_6_0_16 : GoodIn zt wz_c_ASBapp_6_0_16 := goodIn_ca (zz_sub (js := [353, 354, 255, 256, 46, 329, 331, 681, 0, 332, 50, 355, 684, 3, 356]) (by decide +kernel) (by decide +kernel)) (goodIn_app (gu_RJ4) (goodIn_app (gl_c_len_o_11) (goodIn_app (gl_c_ens_16_11) (goodIn_app (gl_c_putStr_6_0_16) (gl_nil _)))))
set_option maxHeartbeats 4000000 in
set_option maxRecDepth 100000 in
theorem gl_c_SBapp_6_0_16 : GoodIn zt wz_c_SBapp_6_0_16 := goodIn_ca (zz_sub (js := [350, 351, 683, 330, 352, 50]) (by decide +kernel) (by decide +kernel)) (goodIn_app (gl_c_ASBapp_6_0_16) (gl_nil _))
set_option maxHeartbeats 4000000 in
set_option maxRecDepth 100000 in
theorem gl_c_M_label_0 : GoodIn zt wz_c_M_label_0 := goodIn_ca (zz_sub (js := [576]) (by decide +kernel) (by decide +kernel)) (gl_nil _)
set_option maxHeartbeats 4000000 in
set_option maxRecDepth 100000 in
theorem gl_c_newLen_22 : GoodIn zt wz_c_newLen_22 := goodIn_ca (zz_sub (js := [339, 340, 65, 30, 66, 341]) (by decide +kernel) (by decide +kernel)) (gl_nil _)
set_option maxHeartbeats 4000000 in
set_option maxRecDepth 100000 in
theorem gl_c_newCap_22 : GoodIn zt wz_c_newCap_22 := goodIn_ca (zz_sub (js := [336, 327, 328, 337, 338, 52, 342]) (by decide +kernel) (by decide +kernel)) (goodIn_app (gu_RJ4) (goodIn_app (gl_c_newLen_22) (gl_nil _)))
set_option maxHeartbeats 4000000 in
set_option maxRecDepth 100000 in
theorem gl_c_copyOf_b0 : GoodIn zt wz_c_copyOf_b0 := goodIn_ca (zz_sub (js := [232, 87, 233, 234, 30, 235, 236, 238, 237, 45]) (by decide +kernel) (by decide +kernel)) (gl_nil _)
set_option maxHeartbeats 4000000 in
set_option maxRecDepth 100000 in
theorem gl_c_ens_b0 : GoodIn zt wz_c_ens_b0 := goodIn_ca (zz_sub (js := [333, 327, 328, 334, 682, 1, 335, 50, 343, 231, 44]) (by decide +kernel) (by decide +kernel)) (goodIn_app (gu_RJ4) (goodIn_app (gl_c_newCap_22) (goodIn_app (gl_c_copyOf_b0) (gl_nil _))))
theorem gl_c_getBytes_7_11_34 : GoodIn zt wz_c_getBytes_7_11_34 := gl_c_getBytes_6_0_16
theorem gl_c_putStr_7_11_34 : GoodIn zt wz_c_putStr_7_11_34 := gl_c_putStr_6_0_16
set_option maxHeartbeats 4000000 in
set_option maxRecDepth 100000 in
theorem gl_c_ASBapp_b0 : GoodIn zt wz_c_ASBapp_b0 := goodIn_ca (zz_sub (js := [353, 354, 255, 256, 46, 329, 331, 681, 0, 332, 50, 355, 684, 3, 356]) (by decide +kernel) (by decide +kernel)) (goodIn_app (gu_RJ4) (goodIn_app (gl_c_len_o_11) (goodIn_app (gl_c_ens_b0) (goodIn_app (gl_c_putStr_7_11_34) (gl_nil _)))))
set_option maxHeartbeats 4000000 in
set_option maxRecDepth 100000 in
theorem gl_c_SBapp_b0 : GoodIn zt wz_c_SBapp_b0 := goodIn_ca (zz_sub (js := [350, 351, 683, 330, 352, 50]) (by decide +kernel) (by decide +kernel)) (goodIn_app (gl_c_ASBapp_b0) (gl_nil _))
theorem gl_c_ens_34_27 : GoodIn zt wz_c_ens_34_27 := gl_c_ens_16_11
theorem gl_c_getBytes_10_22_34 : GoodIn zt wz_c_getBytes_10_22_34 := gl_c_getBytes_6_0_16
theorem gl_c_putStr_10_22_34 : GoodIn zt wz_c_putStr_10_22_34 := gl_c_putStr_6_0_16
theorem gl_c_ASBapp_10_22_34 : GoodIn zt wz_c_ASBapp_10_22_34 := gl_c_ASBapp_6_0_16
theorem gl_c_SBapp_10_22_34 : GoodIn zt wz_c_SBapp_10_22_34 := gl_c_SBapp_6_0_16
set_option maxHeartbeats 4000000 in
set_option maxRecDepth 100000 in
theorem gl_c_getValue : GoodIn zt wz_c_getValue := goodIn_ca (zz_sub (js := [383, 327]) (by decide +kernel) (by decide +kernel)) (goodIn_app (gu_RJ4) (gl_nil _))
set_option maxHeartbeats 4000000 in
set_option maxRecDepth 100000 in
theorem gl_c_ASB_length : GoodIn zt wz_c_ASB_length := goodIn_ca (zz_sub (js := [391, 329]) (by decide +kernel) (by decide +kernel)) (goodIn_app (gu_RJ4) (gl_nil _))
set_option maxHeartbeats 4000000 in
set_option maxRecDepth 100000 in
theorem gl_c_SB_length : GoodIn zt wz_c_SB_length := goodIn_ca (zz_sub (js := [389, 390, 386, 330, 385, 50]) (by decide +kernel) (by decide +kernel)) (goodIn_app (gl_c_ASB_length) (gl_nil _))
set_option maxHeartbeats 4000000 in
set_option maxRecDepth 100000 in
theorem gl_c_ASB_isLatin1 : GoodIn zt wz_c_ASB_isLatin1 := goodIn_ca (zz_sub (js := [347, 326, 328]) (by decide +kernel) (by decide +kernel)) (goodIn_app (gu_RJ4) (gl_nil _))
set_option maxHeartbeats 4000000 in
set_option maxRecDepth 100000 in
theorem gl_c_chkLen_27 : GoodIn zt wz_c_chkLen_27 := goodIn_ca (zz_sub (js := [318]) (by decide +kernel) (by decide +kernel)) (gl_nil _)
set_option maxHeartbeats 4000000 in
set_option maxRecDepth 100000 in
theorem gl_c_cRB_b0 : GoodIn zt wz_c_cRB_b0 := goodIn_ca (zz_sub (js := [315, 316, 317, 44, 87, 233, 234, 30, 235, 236, 238, 237, 45]) (by decide +kernel) (by decide +kernel)) (goodIn_app (gl_c_chkLen_27) (gl_nil _))
set_option maxHeartbeats 4000000 in
set_option maxRecDepth 100000 in
theorem gl_c_cR_b0 : GoodIn zt wz_c_cR_b0 := goodIn_ca (zz_sub (js := [312, 313, 314, 44]) (by decide +kernel) (by decide +kernel)) (goodIn_app (gl_c_cRB_b0) (gl_nil _))
set_option maxHeartbeats 4000000 in
set_option maxRecDepth 100000 in
theorem gl_c_Si1_b0 : GoodIn zt wz_c_Si1_b0 := goodIn_ca (zz_sub (js := [377, 378, 57, 58, 379, 381, 382, 380, 50, 384, 386, 385, 387, 388, 51, 391, 392, 345, 346, 344, 395, 393, 311, 44, 394]) (by decide +kernel) (by decide +kernel)) (goodIn_app (gu_RJ0) (goodIn_app (gl_c_getValue) (goodIn_app (gl_c_SB_length) (goodIn_app (gl_c_ASB_isLatin1) (goodIn_app (gl_c_cR_b0) (gl_nil _))))))
set_option maxHeartbeats 4000000 in
set_option maxRecDepth 100000 in
theorem gl_c_Si2_b0 : GoodIn zt wz_c_Si2_b0 := goodIn_ca (zz_sub (js := [374, 46, 375, 376]) (by decide +kernel) (by decide +kernel)) (goodIn_app (gl_c_Si1_b0) (gl_nil _))
set_option maxHeartbeats 4000000 in
set_option maxRecDepth 100000 in
theorem gl_c_toS_b0 : GoodIn zt wz_c_toS_b0 := goodIn_ca (zz_sub (js := [369, 370, 371, 46, 372, 373]) (by decide +kernel) (by decide +kernel)) (goodIn_app (gu_RJ0) (goodIn_app (gl_c_Si2_b0) (gl_nil _)))
set_option maxHeartbeats 4000000 in
set_option maxRecDepth 100000 in
theorem gl_c_coder_w : GoodIn zt wz_c_coder_w := goodIn_ca (zz_sub (js := [261, 262, 395]) (by decide +kernel) (by decide +kernel)) (goodIn_app (gu_RJ0) (gl_nil _))
set_option maxHeartbeats 4000000 in
set_option maxRecDepth 100000 in
theorem gl_c_len_w_27 : GoodIn zt wz_c_len_w_27 := goodIn_ca (zz_sub (js := [257, 394, 258, 259, 260, 46]) (by decide +kernel) (by decide +kernel)) (goodIn_app (gu_RJ0) (goodIn_app (gl_c_coder_w) (gl_nil _)))
set_option maxHeartbeats 4000000 in
set_option maxRecDepth 100000 in
theorem gl_c_isLatin1_w : GoodIn zt wz_c_isLatin1_w := goodIn_ca (zz_sub (js := [269, 262, 395]) (by decide +kernel) (by decide +kernel)) (goodIn_app (gu_RJ0) (gl_nil _))
theorem gl_c_chkN_27 : GoodIn zt wz_c_chkN_27 := gl_c_chkN_11
theorem gl_c_chkR_27 : GoodIn zt wz_c_chkR_27 := gl_c_chkN_11
theorem gl_c_chk_27 : GoodIn zt wz_c_chk_27 := gl_c_chk_11
theorem gl_c_chr1_w_27 : GoodIn zt wz_c_chr1_w_27 := gl_c_chr1_o_11
set_option maxHeartbeats 4000000 in
set_option maxRecDepth 100000 in
theorem gl_c_chr_w_27 : GoodIn zt wz_c_chr_w_27 := goodIn_ca (zz_sub (js := [265, 266, 267, 268, 46, 394, 270, 271, 47]) (by decide +kernel) (by decide +kernel)) (goodIn_app (gu_RJ0) (goodIn_app (gl_c_isLatin1_w) (goodIn_app (gl_c_chr1_w_27) (gl_nil _))))
set_option maxHeartbeats 4000000 in
set_option maxRecDepth 100000 in
theorem gl_c_M_put : GoodIn zt wz_c_M_put := goodIn_ca (zz_sub (js := [665, 531, 530]) (by decide +kernel) (by decide +kernel)) (goodIn_app (gu_RX12) (gl_nil _))
set_option maxHeartbeats 4000000 in
set_option maxRecDepth 100000 in
theorem gl_c_M_putText_27 : GoodIn zt wz_c_M_putText_27 := goodIn_ca (zz_sub (js := [662, 578, 255, 256, 46, 579, 263, 264, 663, 664, 25, 43]) (by decide +kernel) (by decide +kernel)) (goodIn_app (gl_c_len_w_27) (goodIn_app (gl_c_chr_w_27) (goodIn_app (gl_c_M_put) (gl_nil _))))
set_option maxHeartbeats 4000000 in
set_option maxRecDepth 100000 in
theorem gl_c_M_signOf_45 : GoodIn zt wz_c_M_signOf_45 := goodIn_ca (zz_sub (js := [671]) (by decide +kernel) (by decide +kernel)) (gl_nil _)
theorem gl_c_M_signOf_48 : GoodIn zt wz_c_M_signOf_48 := gl_c_M_signOf_45
theorem gl_c_M_signOf_19 : GoodIn zt wz_c_M_signOf_19 := gl_c_M_signOf_45
theorem gl_c_M_signOf_14 : GoodIn zt wz_c_M_signOf_14 := gl_c_M_signOf_45
theorem gl_c_ens_16_9 : GoodIn zt wz_c_ens_16_9 := gl_c_ens_16_11
theorem gl_c_getBytes_11_0_16 : GoodIn zt wz_c_getBytes_11_0_16 := gl_c_getBytes_6_0_16
theorem gl_c_putStr_11_0_16 : GoodIn zt wz_c_putStr_11_0_16 := gl_c_putStr_6_0_16
theorem gl_c_ASBapp_11_0_16 : GoodIn zt wz_c_ASBapp_11_0_16 := gl_c_ASBapp_6_0_16
theorem gl_c_SBapp_11_0_16 : GoodIn zt wz_c_SBapp_11_0_16 := gl_c_SBapp_6_0_16
theorem gl_c_newLen_20 : GoodIn zt wz_c_newLen_20 := gl_c_newLen_22
theorem gl_c_newCap_20 : GoodIn zt wz_c_newCap_20 := gl_c_newCap_22
theorem gl_c_copyOf_e0 : GoodIn zt wz_c_copyOf_e0 := gl_c_copyOf_b0
theorem gl_c_ens_e0 : GoodIn zt wz_c_ens_e0 := gl_c_ens_b0
theorem gl_c_getBytes_7_9_34 : GoodIn zt wz_c_getBytes_7_9_34 := gl_c_getBytes_6_0_16
theorem gl_c_putStr_7_9_34 : GoodIn zt wz_c_putStr_7_9_34 := gl_c_putStr_6_0_16
theorem gl_c_ASBapp_e0 : GoodIn zt wz_c_ASBapp_e0 := gl_c_ASBapp_b0
theorem gl_c_SBapp_e0 : GoodIn zt wz_c_SBapp_e0 := gl_c_SBapp_b0
theorem gl_c_ens_34_25 : GoodIn zt wz_c_ens_34_25 := gl_c_ens_16_11
theorem gl_c_getBytes_10_20_34 : GoodIn zt wz_c_getBytes_10_20_34 := gl_c_getBytes_6_0_16
theorem gl_c_putStr_10_20_34 : GoodIn zt wz_c_putStr_10_20_34 := gl_c_putStr_6_0_16
theorem gl_c_ASBapp_10_20_34 : GoodIn zt wz_c_ASBapp_10_20_34 := gl_c_ASBapp_6_0_16
theorem gl_c_SBapp_10_20_34 : GoodIn zt wz_c_SBapp_10_20_34 := gl_c_SBapp_6_0_16
theorem gl_c_chkLen_25 : GoodIn zt wz_c_chkLen_25 := gl_c_chkLen_27
theorem gl_c_cRB_e0 : GoodIn zt wz_c_cRB_e0 := gl_c_cRB_b0
theorem gl_c_cR_e0 : GoodIn zt wz_c_cR_e0 := gl_c_cR_b0
theorem gl_c_Si1_e0 : GoodIn zt wz_c_Si1_e0 := gl_c_Si1_b0
theorem gl_c_Si2_e0 : GoodIn zt wz_c_Si2_e0 := gl_c_Si2_b0
theorem gl_c_toS_e0 : GoodIn zt wz_c_toS_e0 := gl_c_toS_b0
theorem gl_c_len_w_25 : GoodIn zt wz_c_len_w_25 := gl_c_len_w_27
theorem gl_c_chkN_25 : GoodIn zt wz_c_chkN_25 := gl_c_chkN_11
theorem gl_c_chkR_25 : GoodIn zt wz_c_chkR_25 := gl_c_chkN_11
theorem gl_c_chk_25 : GoodIn zt wz_c_chk_25 := gl_c_chk_11
theorem gl_c_chr1_w_25 : GoodIn zt wz_c_chr1_w_25 := gl_c_chr1_o_11
theorem gl_c_chr_w_25 : GoodIn zt wz_c_chr_w_25 := gl_c_chr_w_27
theorem gl_c_M_putText_25 : GoodIn zt wz_c_M_putText_25 := gl_c_M_putText_27
set_option maxHeartbeats 4000000 in
set_option maxRecDepth 100000 in
theorem gl_c_M_putSigns_0 : GoodIn zt wz_c_M_putSigns_0 := goodIn_ca (zz_sub (js := [668, 571, 319, 51, 572, 320, 573, 348, 349, 574, 575, 43, 577, 367, 368, 660, 661, 24, 663, 664, 25, 580, 581, 669, 670]) (by decide +kernel) (by decide +kernel)) (goodIn_app (gu_RJ4) (goodIn_app (gl_c_SB_init) (goodIn_app (gl_c_SBapp_6_0_16) (goodIn_app (gl_c_M_label_0) (goodIn_app (gl_c_SBapp_b0) (goodIn_app (gl_c_SBapp_10_22_34) (goodIn_app (gl_c_toS_b0) (goodIn_app (gl_c_M_putText_27) (goodIn_app (gl_c_M_put) (goodIn_app (gl_c_M_sumOf) (goodIn_app (gl_c_M_signOf_45) (goodIn_app (gl_c_M_signOf_48) (goodIn_app (gl_c_M_signOf_19) (goodIn_app (gl_c_M_signOf_14) (goodIn_app (gl_c_SBapp_11_0_16) (goodIn_app (gl_c_SBapp_e0) (goodIn_app (gl_c_SBapp_10_20_34) (goodIn_app (gl_c_toS_e0) (goodIn_app (gl_c_M_putText_25) (gl_nil _))))))))))))))))))))
set_option maxHeartbeats 4000000 in
set_option maxRecDepth 100000 in
theorem gl_c_M_armor_0 : GoodIn zt wz_c_M_armor_0 := goodIn_ca (zz_sub (js := [673, 530, 526, 531, 565, 566, 43, 666, 667, 26]) (by decide +kernel) (by decide +kernel)) (goodIn_app (gu_RX12) (goodIn_app (gl_c_M_part0) (goodIn_app (gl_c_M_putSigns_0) (gl_nil _))))
theorem gl_c_X9_label_1 : GoodIn zt wz_c_X9_label_1 := gl_c_X9_label_0
theorem gl_c_len_o_4 : GoodIn zt wz_c_len_o_4 := gl_c_len_o_11
theorem gl_c_chkN_4 : GoodIn zt wz_c_chkN_4 := gl_c_chkN_11
theorem gl_c_chkR_4 : GoodIn zt wz_c_chkR_4 := gl_c_chkN_11
theorem gl_c_chk_4 : GoodIn zt wz_c_chk_4 := gl_c_chk_11

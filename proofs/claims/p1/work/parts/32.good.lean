theorem gl_nil (b : List Cond) : GoodIn b [] := fun _ h => nomatch h
set_option maxHeartbeats 4000000 in
set_option maxRecDepth 100000 in
theorem gl_c_X4_open : GoodIn zt wz_c_X4_open := goodIn_ca (goodIn_sub (by decide +kernel) (by decide +kernel)) (goodIn_app (goodIn_sub it_RX4 (by decide +kernel)) (gl_nil _))
set_option maxHeartbeats 4000000 in
set_option maxRecDepth 100000 in
theorem gl_c_X11_isInSigns : GoodIn zt wz_c_X11_isInSigns := goodIn_ca (goodIn_sub (by decide +kernel) (by decide +kernel)) (goodIn_app (goodIn_sub it_RX11 (by decide +kernel)) (goodIn_app (goodIn_sub it_RX0 (by decide +kernel)) (gl_nil _)))
set_option maxHeartbeats 4000000 in
set_option maxRecDepth 100000 in
theorem gl_c_X11_openKeys : GoodIn zt wz_c_X11_openKeys := goodIn_ca (goodIn_sub (by decide +kernel) (by decide +kernel)) (goodIn_app (goodIn_sub it_RX11 (by decide +kernel)) (goodIn_app (gl_c_X4_open) (goodIn_app (gl_c_X11_isInSigns) (gl_nil _))))
set_option maxHeartbeats 4000000 in
set_option maxRecDepth 100000 in
theorem gl_c_size : GoodIn zt wz_c_size := goodIn_ca (goodIn_sub (by decide +kernel) (by decide +kernel)) (goodIn_app (goodIn_sub it_RJx4a65c (by decide +kernel)) (gl_nil _))
set_option maxHeartbeats 4000000 in
set_option maxRecDepth 100000 in
theorem gl_c_X4_more : GoodIn zt wz_c_X4_more := goodIn_ca (goodIn_sub (by decide +kernel) (by decide +kernel)) (goodIn_app (goodIn_sub it_RX4 (by decide +kernel)) (goodIn_app (goodIn_sub it_RX0 (by decide +kernel)) (gl_nil _)))
set_option maxHeartbeats 4000000 in
set_option maxRecDepth 100000 in
theorem gl_c_X7_joinAll : GoodIn zt wz_c_X7_joinAll := goodIn_ca (goodIn_sub (by decide +kernel) (by decide +kernel)) (goodIn_app (goodIn_sub it_RX7 (by decide +kernel)) (goodIn_app (goodIn_sub it_RX4 (by decide +kernel)) (goodIn_app (goodIn_sub it_RX0 (by decide +kernel)) (goodIn_app (gl_c_size) (goodIn_app (gl_c_X4_more) (gl_nil _))))))
set_option maxHeartbeats 4000000 in
set_option maxRecDepth 100000 in
theorem gl_c_X11_join : GoodIn zt wz_c_X11_join := goodIn_ca (goodIn_sub (by decide +kernel) (by decide +kernel)) (goodIn_app (goodIn_sub it_RX11 (by decide +kernel)) (goodIn_app (goodIn_sub it_RX0 (by decide +kernel)) (goodIn_app (gl_c_X11_openKeys) (goodIn_app (gl_c_X7_joinAll) (gl_nil _)))))
set_option maxHeartbeats 4000000 in
set_option maxRecDepth 100000 in
theorem gl_c_M_part0 : GoodIn zt wz_c_M_part0 := goodIn_ca (goodIn_sub (by decide +kernel) (by decide +kernel)) (gl_nil _)
set_option maxHeartbeats 4000000 in
set_option maxRecDepth 100000 in
theorem gl_c_M_taken : GoodIn zt wz_c_M_taken := goodIn_ca (goodIn_sub (by decide +kernel) (by decide +kernel)) (goodIn_app (goodIn_sub it_RX12 (by decide +kernel)) (goodIn_app (gl_c_M_part0) (gl_nil _)))
set_option maxHeartbeats 4000000 in
set_option maxRecDepth 100000 in
theorem gl_c_M_open : GoodIn zt wz_c_M_open := goodIn_ca (goodIn_sub (by decide +kernel) (by decide +kernel)) (goodIn_app (goodIn_sub it_RX12 (by decide +kernel)) (gl_nil _))
set_option maxHeartbeats 4000000 in
set_option maxRecDepth 100000 in
theorem gl_c_M_fail : GoodIn zt wz_c_M_fail := goodIn_ca (goodIn_sub (by decide +kernel) (by decide +kernel)) (goodIn_app (goodIn_sub it_RX12 (by decide +kernel)) (gl_nil _))
set_option maxHeartbeats 4000000 in
set_option maxRecDepth 100000 in
theorem gl_c_M_readKeys : GoodIn zt wz_c_M_readKeys := goodIn_ca (goodIn_sub (by decide +kernel) (by decide +kernel)) (goodIn_app (goodIn_sub it_RX12 (by decide +kernel)) (goodIn_app (gl_c_M_fail) (gl_nil _)))
set_option maxHeartbeats 4000000 in
set_option maxRecDepth 100000 in
theorem gl_c_M_join : GoodIn zt wz_c_M_join := goodIn_ca (goodIn_sub (by decide +kernel) (by decide +kernel)) (goodIn_app (goodIn_sub it_RX12 (by decide +kernel)) (goodIn_app (gl_c_M_taken) (goodIn_app (gl_c_M_open) (goodIn_app (gl_c_M_readKeys) (gl_nil _)))))
set_option maxHeartbeats 4000000 in
set_option maxRecDepth 100000 in
theorem gl_c_X0_pushSpan : GoodIn zt wz_c_X0_pushSpan := goodIn_ca (goodIn_sub (by decide +kernel) (by decide +kernel)) (goodIn_app (goodIn_sub it_RX0 (by decide +kernel)) (gl_nil _))
set_option maxHeartbeats 4000000 in
set_option maxRecDepth 100000 in
theorem gl_c_X11_document : GoodIn zt wz_c_X11_document := goodIn_ca (goodIn_sub (by decide +kernel) (by decide +kernel)) (goodIn_app (goodIn_sub it_RX11 (by decide +kernel)) (goodIn_app (goodIn_sub it_RX0 (by decide +kernel)) (goodIn_app (gl_c_X0_pushSpan) (gl_nil _))))
set_option maxHeartbeats 4000000 in
set_option maxRecDepth 100000 in
theorem gl_c_M_document : GoodIn zt wz_c_M_document := goodIn_ca (goodIn_sub (by decide +kernel) (by decide +kernel)) (goodIn_app (goodIn_sub it_RX12 (by decide +kernel)) (goodIn_app (gl_c_M_taken) (gl_nil _)))
set_option maxHeartbeats 4000000 in
set_option maxRecDepth 100000 in
theorem gl_c_X11_keys : GoodIn zt wz_c_X11_keys := goodIn_ca (goodIn_sub (by decide +kernel) (by decide +kernel)) (goodIn_app (goodIn_sub it_RX11 (by decide +kernel)) (goodIn_app (goodIn_sub it_RX7 (by decide +kernel)) (goodIn_app (gl_c_size) (gl_nil _))))
set_option maxHeartbeats 4000000 in
set_option maxRecDepth 100000 in
theorem gl_c_M_keys : GoodIn zt wz_c_M_keys := goodIn_ca (goodIn_sub (by decide +kernel) (by decide +kernel)) (goodIn_app (goodIn_sub it_RX12 (by decide +kernel)) (gl_nil _))
set_option maxHeartbeats 4000000 in
set_option maxRecDepth 100000 in
theorem gl_c_X9_sumOf : GoodIn zt wz_c_X9_sumOf := goodIn_ca (goodIn_sub (by decide +kernel) (by decide +kernel)) (goodIn_app (goodIn_sub it_RX0 (by decide +kernel)) (gl_nil _))
set_option maxHeartbeats 4000000 in
set_option maxRecDepth 100000 in
theorem gl_c_X11_sum : GoodIn zt wz_c_X11_sum := goodIn_ca (goodIn_sub (by decide +kernel) (by decide +kernel)) (goodIn_app (goodIn_sub it_RX11 (by decide +kernel)) (goodIn_app (gl_c_X9_sumOf) (gl_nil _)))
set_option maxHeartbeats 4000000 in
set_option maxRecDepth 100000 in
theorem gl_c_M_sumOf : GoodIn zt wz_c_M_sumOf := goodIn_ca (goodIn_sub (by decide +kernel) (by decide +kernel)) (gl_nil _)
set_option maxHeartbeats 4000000 in
set_option maxRecDepth 100000 in
theorem gl_c_M_sum : GoodIn zt wz_c_M_sum := goodIn_ca (goodIn_sub (by decide +kernel) (by decide +kernel)) (goodIn_app (goodIn_sub it_RX12 (by decide +kernel)) (goodIn_app (gl_c_M_sumOf) (gl_nil _)))
set_option maxHeartbeats 4000000 in
set_option maxRecDepth 100000 in
theorem gl_c_X11_take : GoodIn zt wz_c_X11_take := goodIn_ca (goodIn_sub (by decide +kernel) (by decide +kernel)) (goodIn_app (goodIn_sub it_RX11 (by decide +kernel)) (goodIn_app (goodIn_sub it_RX0 (by decide +kernel)) (goodIn_app (gl_c_X0_pushSpan) (gl_nil _))))
set_option maxHeartbeats 4000000 in
set_option maxRecDepth 100000 in
theorem gl_c_M_take : GoodIn zt wz_c_M_take := goodIn_ca (goodIn_sub (by decide +kernel) (by decide +kernel)) (goodIn_app (goodIn_sub it_RX12 (by decide +kernel)) (gl_nil _))
set_option maxHeartbeats 4000000 in
set_option maxRecDepth 100000 in
theorem gl_c_X11_found : GoodIn zt wz_c_X11_found := goodIn_ca (goodIn_sub (by decide +kernel) (by decide +kernel)) (goodIn_app (goodIn_sub it_RX11 (by decide +kernel)) (goodIn_app (goodIn_sub it_RX7 (by decide +kernel)) (goodIn_app (gl_c_size) (gl_nil _))))
set_option maxHeartbeats 4000000 in
set_option maxRecDepth 100000 in
theorem gl_c_X11_key : GoodIn zt wz_c_X11_key := goodIn_ca (goodIn_sub (by decide +kernel) (by decide +kernel)) (goodIn_app (goodIn_sub (by decide +kernel) (by decide +kernel)) (goodIn_app (gl_c_X11_found) (gl_nil _)))
set_option maxHeartbeats 4000000 in
set_option maxRecDepth 100000 in
theorem gl_c_L_key : GoodIn zt wz_c_L_key := goodIn_ca (goodIn_sub (by decide +kernel) (by decide +kernel)) (goodIn_app (gl_c_X11_key) (gl_nil _))
set_option maxHeartbeats 4000000 in
set_option maxRecDepth 100000 in
theorem gl_c_M_placeOf : GoodIn zt wz_c_M_placeOf := goodIn_ca (goodIn_sub (by decide +kernel) (by decide +kernel)) (goodIn_app (goodIn_sub it_RX12 (by decide +kernel)) (gl_nil _))
set_option maxHeartbeats 4000000 in
set_option maxRecDepth 100000 in
theorem gl_c_M_key : GoodIn zt wz_c_M_key := goodIn_ca (goodIn_sub (by decide +kernel) (by decide +kernel)) (goodIn_app (goodIn_sub it_RX12 (by decide +kernel)) (goodIn_app (gl_c_M_placeOf) (gl_nil _)))
set_option maxHeartbeats 4000000 in
set_option maxRecDepth 100000 in
theorem gl_c_M_thrown : GoodIn zt wz_c_M_thrown := goodIn_ca (goodIn_sub (by decide +kernel) (by decide +kernel)) (goodIn_app (goodIn_sub it_RX12 (by decide +kernel)) (gl_nil _))
set_option maxHeartbeats 4000000 in
set_option maxRecDepth 100000 in
theorem gl_c_X11_print : GoodIn zt wz_c_X11_print := goodIn_ca (goodIn_sub (by decide +kernel) (by decide +kernel)) (goodIn_app (goodIn_sub (by decide +kernel) (by decide +kernel)) (goodIn_app (gl_c_X11_found) (gl_nil _)))
set_option maxHeartbeats 4000000 in
set_option maxRecDepth 100000 in
theorem gl_c_L_print : GoodIn zt wz_c_L_print := goodIn_ca (goodIn_sub (by decide +kernel) (by decide +kernel)) (goodIn_app (gl_c_X11_print) (gl_nil _))
set_option maxHeartbeats 4000000 in
set_option maxRecDepth 100000 in
theorem gl_c_M_thingOf : GoodIn zt wz_c_M_thingOf := goodIn_ca (goodIn_sub (by decide +kernel) (by decide +kernel)) (goodIn_app (gl_c_M_placeOf) (gl_nil _))
set_option maxHeartbeats 4000000 in
set_option maxRecDepth 100000 in
theorem gl_c_M_print : GoodIn zt wz_c_M_print := goodIn_ca (goodIn_sub (by decide +kernel) (by decide +kernel)) (goodIn_app (goodIn_sub it_RX12 (by decide +kernel)) (goodIn_app (gl_c_M_thingOf) (gl_nil _)))
set_option maxHeartbeats 4000000 in
set_option maxRecDepth 100000 in
theorem gl_c_X11_usable : GoodIn zt wz_c_X11_usable := goodIn_ca (goodIn_sub (by decide +kernel) (by decide +kernel)) (goodIn_app (goodIn_sub (by decide +kernel) (by decide +kernel)) (goodIn_app (gl_c_X11_found) (gl_nil _)))
set_option maxHeartbeats 4000000 in
set_option maxRecDepth 100000 in
theorem gl_c_L_usable : GoodIn zt wz_c_L_usable := goodIn_ca (goodIn_sub (by decide +kernel) (by decide +kernel)) (goodIn_app (gl_c_X11_usable) (gl_nil _))
set_option maxHeartbeats 4000000 in
set_option maxRecDepth 100000 in
theorem gl_c_M_usable : GoodIn zt wz_c_M_usable := goodIn_ca (goodIn_sub (by decide +kernel) (by decide +kernel)) (goodIn_app (goodIn_sub it_RX12 (by decide +kernel)) (goodIn_app (gl_c_M_thingOf) (gl_nil _)))
set_option maxHeartbeats 4000000 in
set_option maxRecDepth 100000 in
theorem gl_c_X11_seal : GoodIn zt wz_c_X11_seal := goodIn_ca (goodIn_sub (by decide +kernel) (by decide +kernel)) (goodIn_app (goodIn_sub (by decide +kernel) (by decide +kernel)) (goodIn_app (gl_c_X11_found) (gl_nil _)))
set_option maxHeartbeats 4000000 in
set_option maxRecDepth 100000 in
theorem gl_c_L_seal : GoodIn zt wz_c_L_seal := goodIn_ca (goodIn_sub (by decide +kernel) (by decide +kernel)) (goodIn_app (gl_c_X11_seal) (gl_nil _))
set_option maxHeartbeats 4000000 in
set_option maxRecDepth 100000 in
theorem gl_c_M_seal : GoodIn zt wz_c_M_seal := goodIn_ca (goodIn_sub (by decide +kernel) (by decide +kernel)) (goodIn_app (goodIn_sub it_RX12 (by decide +kernel)) (goodIn_app (gl_c_M_thingOf) (gl_nil _)))
set_option maxHeartbeats 4000000 in
set_option maxRecDepth 100000 in
theorem gl_c_X11_export : GoodIn zt wz_c_X11_export := goodIn_ca (goodIn_sub (by decide +kernel) (by decide +kernel)) (goodIn_app (goodIn_sub (by decide +kernel) (by decide +kernel)) (goodIn_app (gl_c_X11_found) (gl_nil _)))
set_option maxHeartbeats 4000000 in
set_option maxRecDepth 100000 in
theorem gl_c_L_export : GoodIn zt wz_c_L_export := goodIn_ca (goodIn_sub (by decide +kernel) (by decide +kernel)) (goodIn_app (gl_c_X11_export) (gl_nil _))
set_option maxHeartbeats 4000000 in
set_option maxRecDepth 100000 in
theorem gl_c_M_export : GoodIn zt wz_c_M_export := goodIn_ca (goodIn_sub (by decide +kernel) (by decide +kernel)) (goodIn_app (goodIn_sub it_RX12 (by decide +kernel)) (goodIn_app (gl_c_M_placeOf) (gl_nil _)))
set_option maxHeartbeats 4000000 in
set_option maxRecDepth 100000 in
theorem gl_c_X11_out : GoodIn zt wz_c_X11_out := goodIn_ca (goodIn_sub (by decide +kernel) (by decide +kernel)) (goodIn_app (goodIn_sub (by decide +kernel) (by decide +kernel)) (goodIn_app (goodIn_sub it_RX11 (by decide +kernel)) (goodIn_app (goodIn_sub it_RX0 (by decide +kernel)) (gl_nil _))))
set_option maxHeartbeats 4000000 in
set_option maxRecDepth 100000 in
theorem gl_c_L_out : GoodIn zt wz_c_L_out := goodIn_ca (goodIn_sub (by decide +kernel) (by decide +kernel)) (goodIn_app (gl_c_X11_out) (gl_nil _))
set_option maxHeartbeats 4000000 in
set_option maxRecDepth 100000 in
theorem gl_c_M_out : GoodIn zt wz_c_M_out := goodIn_ca (goodIn_sub (by decide +kernel) (by decide +kernel)) (goodIn_app (goodIn_sub it_RX12 (by decide +kernel)) (gl_nil _))
set_option maxHeartbeats 4000000 in
set_option maxRecDepth 100000 in
theorem gl_c_X11_drop : GoodIn zt wz_c_X11_drop := goodIn_ca (goodIn_sub (by decide +kernel) (by decide +kernel)) (goodIn_app (goodIn_sub (by decide +kernel) (by decide +kernel)) (goodIn_app (goodIn_sub it_RX11 (by decide +kernel)) (goodIn_app (goodIn_sub it_RX7 (by decide +kernel)) (goodIn_app (gl_c_size) (gl_nil _)))))
set_option maxHeartbeats 4000000 in
set_option maxRecDepth 100000 in
theorem gl_c_L_drop : GoodIn zt wz_c_L_drop := goodIn_ca (goodIn_sub (by decide +kernel) (by decide +kernel)) (goodIn_app (gl_c_X11_drop) (gl_nil _))
set_option maxHeartbeats 4000000 in
set_option maxRecDepth 100000 in
theorem gl_c_M_drop : GoodIn zt wz_c_M_drop := goodIn_ca (goodIn_sub (by decide +kernel) (by decide +kernel)) (goodIn_app (goodIn_sub it_RX12 (by decide +kernel)) (goodIn_app (gl_c_M_placeOf) (gl_nil _)))
set_option maxHeartbeats 4000000 in
set_option maxRecDepth 100000 in
theorem gl_c_X11_isTime_n : GoodIn zt wz_c_X11_isTime_n := goodIn_ca (goodIn_sub (by decide +kernel) (by decide +kernel)) (gl_nil _)
set_option maxHeartbeats 4000000 in
set_option maxRecDepth 100000 in
theorem gl_c_X11_look_n : GoodIn zt wz_c_X11_look_n := goodIn_ca (goodIn_sub (by decide +kernel) (by decide +kernel)) (goodIn_app (goodIn_sub (by decide +kernel) (by decide +kernel)) (goodIn_app (gl_c_X11_isTime_n) (gl_nil _)))
set_option maxHeartbeats 4000000 in
set_option maxRecDepth 100000 in
theorem gl_c_L_look_n : GoodIn zt wz_c_L_look_n := goodIn_ca (goodIn_sub (by decide +kernel) (by decide +kernel)) (goodIn_app (gl_c_X11_look_n) (gl_nil _))
set_option maxHeartbeats 4000000 in
set_option maxRecDepth 100000 in
theorem gl_c_M_isTime_n : GoodIn zt wz_c_M_isTime_n := goodIn_ca (goodIn_sub (by decide +kernel) (by decide +kernel)) (gl_nil _)
set_option maxHeartbeats 4000000 in
set_option maxRecDepth 100000 in
theorem gl_c_M_look_n : GoodIn zt wz_c_M_look_n := goodIn_ca (goodIn_sub (by decide +kernel) (by decide +kernel)) (goodIn_app (goodIn_sub it_RX12 (by decide +kernel)) (goodIn_app (gl_c_M_isTime_n) (gl_nil _)))
set_option maxHeartbeats 4000000 in
set_option maxRecDepth 100000 in
theorem gl_c_X11_isTime_m : GoodIn zt wz_c_X11_isTime_m := goodIn_ca (goodIn_sub (by decide +kernel) (by decide +kernel)) (gl_nil _)
set_option maxHeartbeats 4000000 in
set_option maxRecDepth 100000 in
theorem gl_c_X11_look_m : GoodIn zt wz_c_X11_look_m := goodIn_ca (goodIn_sub (by decide +kernel) (by decide +kernel)) (goodIn_app (goodIn_sub (by decide +kernel) (by decide +kernel)) (goodIn_app (gl_c_X11_isTime_m) (gl_nil _)))
set_option maxHeartbeats 4000000 in
set_option maxRecDepth 100000 in
theorem gl_c_L_look_m : GoodIn zt wz_c_L_look_m := goodIn_ca (goodIn_sub (by decide +kernel) (by decide +kernel)) (goodIn_app (gl_c_X11_look_m) (gl_nil _))
set_option maxHeartbeats 4000000 in
set_option maxRecDepth 100000 in
theorem gl_c_M_isTime_m : GoodIn zt wz_c_M_isTime_m := goodIn_ca (goodIn_sub (by decide +kernel) (by decide +kernel)) (gl_nil _)
set_option maxHeartbeats 4000000 in
set_option maxRecDepth 100000 in
theorem gl_c_M_look_m : GoodIn zt wz_c_M_look_m := goodIn_ca (goodIn_sub (by decide +kernel) (by decide +kernel)) (goodIn_app (goodIn_sub it_RX12 (by decide +kernel)) (goodIn_app (gl_c_M_isTime_m) (gl_nil _)))
theorem gl_c_X11_isTime_y : GoodIn zt wz_c_X11_isTime_y := gl_c_X11_isTime_m
set_option maxHeartbeats 4000000 in
set_option maxRecDepth 100000 in
theorem gl_c_X10_view : GoodIn zt wz_c_X10_view := goodIn_ca (goodIn_sub (by decide +kernel) (by decide +kernel)) (goodIn_app (goodIn_sub it_RX10 (by decide +kernel)) (gl_nil _))
set_option maxHeartbeats 4000000 in
set_option maxRecDepth 100000 in
theorem gl_c_X10_at_empty : GoodIn zt wz_c_X10_at_empty := goodIn_ca (goodIn_sub (by decide +kernel) (by decide +kernel)) (goodIn_app (goodIn_sub it_RX0 (by decide +kernel)) (gl_nil _))
set_option maxHeartbeats 4000000 in
set_option maxRecDepth 100000 in
theorem gl_c_X4_read : GoodIn zt wz_c_X4_read := goodIn_ca (goodIn_sub (by decide +kernel) (by decide +kernel)) (goodIn_app (goodIn_sub it_RX4 (by decide +kernel)) (goodIn_app (goodIn_sub it_RX0 (by decide +kernel)) (goodIn_app (gl_c_X10_at_empty) (gl_nil _))))
set_option maxHeartbeats 4000000 in
set_option maxRecDepth 100000 in
theorem gl_c_X4_fault : GoodIn zt wz_c_X4_fault := goodIn_ca (goodIn_sub (by decide +kernel) (by decide +kernel)) (goodIn_app (goodIn_sub it_RX4 (by decide +kernel)) (gl_nil _))
set_option maxHeartbeats 4000000 in
set_option maxRecDepth 100000 in
theorem gl_c_X11_readSealed : GoodIn zt wz_c_X11_readSealed := goodIn_ca (goodIn_sub (by decide +kernel) (by decide +kernel)) (goodIn_app (goodIn_sub it_RX11 (by decide +kernel)) (goodIn_app (gl_c_X4_read) (goodIn_app (gl_c_X4_fault) (gl_nil _))))
set_option maxHeartbeats 4000000 in
set_option maxRecDepth 100000 in
theorem gl_c_X11_openLooked : GoodIn zt wz_c_X11_openLooked := goodIn_ca (goodIn_sub (by decide +kernel) (by decide +kernel)) (goodIn_app (goodIn_sub it_RX11 (by decide +kernel)) (goodIn_app (goodIn_sub it_RX0 (by decide +kernel)) (goodIn_app (gl_c_X10_view) (goodIn_app (gl_c_X4_open) (goodIn_app (gl_c_X11_isInSigns) (goodIn_app (gl_c_X11_readSealed) (gl_nil _)))))))
set_option maxHeartbeats 4000000 in
set_option maxRecDepth 100000 in
theorem gl_c_X11_look_y : GoodIn zt wz_c_X11_look_y := goodIn_ca (goodIn_sub (by decide +kernel) (by decide +kernel)) (goodIn_app (goodIn_sub it_RX11 (by decide +kernel)) (goodIn_app (goodIn_sub it_RX0 (by decide +kernel)) (goodIn_app (gl_c_X11_isTime_y) (goodIn_app (gl_c_X11_openLooked) (gl_nil _)))))
set_option maxHeartbeats 4000000 in
set_option maxRecDepth 100000 in
theorem gl_c_L_look_y : GoodIn zt wz_c_L_look_y := goodIn_ca (goodIn_sub (by decide +kernel) (by decide +kernel)) (goodIn_app (gl_c_X11_look_y) (gl_nil _))
theorem gl_c_M_isTime_y : GoodIn zt wz_c_M_isTime_y := gl_c_M_isTime_m
set_option maxHeartbeats 4000000 in
set_option maxRecDepth 100000 in
theorem gl_c_M_readCase : GoodIn zt wz_c_M_readCase := goodIn_ca (goodIn_sub (by decide +kernel) (by decide +kernel)) (goodIn_app (gl_c_M_fail) (gl_nil _))
set_option maxHeartbeats 4000000 in
set_option maxRecDepth 100000 in
theorem gl_c_M_look_y : GoodIn zt wz_c_M_look_y := goodIn_ca (goodIn_sub (by decide +kernel) (by decide +kernel)) (goodIn_app (goodIn_sub it_RX12 (by decide +kernel)) (goodIn_app (gl_c_M_isTime_y) (goodIn_app (gl_c_M_taken) (goodIn_app (gl_c_M_readCase) (gl_nil _)))))
set_option maxHeartbeats 4000000 in
set_option maxRecDepth 100000 in
theorem gl_c_X11_add_lo : GoodIn zt wz_c_X11_add_lo := goodIn_ca (goodIn_sub (by decide +kernel) (by decide +kernel)) (gl_nil _)
set_option maxHeartbeats 4000000 in
set_option maxRecDepth 100000 in
theorem gl_c_M_add_lo : GoodIn zt wz_c_M_add_lo := goodIn_ca (goodIn_sub (by decide +kernel) (by decide +kernel)) (goodIn_app (goodIn_sub it_RX12 (by decide +kernel)) (gl_nil _))
theorem gl_c_X11_add_hi : GoodIn zt wz_c_X11_add_hi := gl_c_X11_add_lo
theorem gl_c_M_add_hi : GoodIn zt wz_c_M_add_hi := gl_c_M_add_lo
set_option maxHeartbeats 4000000 in
set_option maxRecDepth 100000 in
theorem gl_c_X0_push : GoodIn zt wz_c_X0_push := goodIn_ca (goodIn_sub (by decide +kernel) (by decide +kernel)) (goodIn_app (goodIn_sub it_RX0 (by decide +kernel)) (gl_nil _))
set_option maxHeartbeats 4000000 in
set_option maxRecDepth 100000 in
theorem gl_c_X11_add_1 : GoodIn zt wz_c_X11_add_1 := goodIn_ca (goodIn_sub (by decide +kernel) (by decide +kernel)) (goodIn_app (goodIn_sub it_RX11 (by decide +kernel)) (goodIn_app (goodIn_sub it_RX0 (by decide +kernel)) (goodIn_app (gl_c_X0_push) (gl_nil _))))
set_option maxHeartbeats 4000000 in
set_option maxRecDepth 100000 in
theorem gl_c_M_add_1 : GoodIn zt wz_c_M_add_1 := goodIn_ca (goodIn_sub (by decide +kernel) (by decide +kernel)) (goodIn_app (goodIn_sub it_RX12 (by decide +kernel)) (gl_nil _))
theorem gl_c_X11_add_2 : GoodIn zt wz_c_X11_add_2 := gl_c_X11_add_1
theorem gl_c_M_add_2 : GoodIn zt wz_c_M_add_2 := gl_c_M_add_1
theorem gl_c_X11_add_3 : GoodIn zt wz_c_X11_add_3 := gl_c_X11_add_1
theorem gl_c_M_add_3 : GoodIn zt wz_c_M_add_3 := gl_c_M_add_1
theorem gl_c_X11_add_4 : GoodIn zt wz_c_X11_add_4 := gl_c_X11_add_1
theorem gl_c_M_add_4 : GoodIn zt wz_c_M_add_4 := gl_c_M_add_1
theorem gl_c_X11_add_5 : GoodIn zt wz_c_X11_add_5 := gl_c_X11_add_1
theorem gl_c_M_add_5 : GoodIn zt wz_c_M_add_5 := gl_c_M_add_1
theorem gl_c_X11_add_6 : GoodIn zt wz_c_X11_add_6 := gl_c_X11_add_1
theorem gl_c_M_add_6 : GoodIn zt wz_c_M_add_6 := gl_c_M_add_1
theorem gl_c_X11_add_7 : GoodIn zt wz_c_X11_add_7 := gl_c_X11_add_1
theorem gl_c_M_add_7 : GoodIn zt wz_c_M_add_7 := gl_c_M_add_1
theorem gl_c_X11_add_8 : GoodIn zt wz_c_X11_add_8 := gl_c_X11_add_1
theorem gl_c_M_add_8 : GoodIn zt wz_c_M_add_8 := gl_c_M_add_1
set_option maxHeartbeats 4000000 in
set_option maxRecDepth 100000 in
theorem gl_c_X11_armor_lo : GoodIn zt wz_c_X11_armor_lo := goodIn_ca (goodIn_sub (by decide +kernel) (by decide +kernel)) (goodIn_app (goodIn_sub (by decide +kernel) (by decide +kernel)) (gl_nil _))
set_option maxHeartbeats 4000000 in
set_option maxRecDepth 100000 in
theorem gl_c_L_armor_lo : GoodIn zt wz_c_L_armor_lo := goodIn_ca (goodIn_sub (by decide +kernel) (by decide +kernel)) (goodIn_app (gl_c_X11_armor_lo) (gl_nil _))
set_option maxHeartbeats 4000000 in
set_option maxRecDepth 100000 in
theorem gl_c_M_armor_lo : GoodIn zt wz_c_M_armor_lo := goodIn_ca (goodIn_sub (by decide +kernel) (by decide +kernel)) (goodIn_app (goodIn_sub it_RX12 (by decide +kernel)) (gl_nil _))
theorem gl_c_X11_armor_hi : GoodIn zt wz_c_X11_armor_hi := gl_c_X11_armor_lo
theorem gl_c_L_armor_hi : GoodIn zt wz_c_L_armor_hi := gl_c_L_armor_lo
theorem gl_c_M_armor_hi : GoodIn zt wz_c_M_armor_hi := gl_c_M_armor_lo
set_option maxHeartbeats 4000000 in
set_option maxRecDepth 100000 in
theorem gl_c_coder_o : GoodIn zt wz_c_coder_o := goodIn_ca (goodIn_sub (by decide +kernel) (by decide +kernel)) (gl_nil _)
set_option maxHeartbeats 4000000 in
set_option maxRecDepth 100000 in
theorem gl_c_len_o_11 : GoodIn zt wz_c_len_o_11 := goodIn_ca (goodIn_sub (by decide +kernel) (by decide +kernel)) (goodIn_app (gl_c_coder_o) (gl_nil _))
set_option maxHeartbeats 4000000 in
set_option maxRecDepth 100000 in
theorem gl_c_isLatin1_o : GoodIn zt wz_c_isLatin1_o := goodIn_ca (goodIn_sub (by decide +kernel) (by decide +kernel)) (gl_nil _)
set_option maxHeartbeats 4000000 in
set_option maxRecDepth 100000 in
theorem gl_c_chkN_11 : GoodIn zt wz_c_chkN_11 := goodIn_ca (goodIn_sub (by decide +kernel) (by decide +kernel)) (gl_nil _)
theorem gl_c_chkR_11 : GoodIn zt wz_c_chkR_11 := gl_c_chkN_11
set_option maxHeartbeats 4000000 in
set_option maxRecDepth 100000 in
theorem gl_c_chk_11 : GoodIn zt wz_c_chk_11 := goodIn_ca (goodIn_sub (by decide +kernel) (by decide +kernel)) (goodIn_app (gl_c_chkN_11) (goodIn_app (gl_c_chkR_11) (gl_nil _)))
set_option maxHeartbeats 4000000 in
set_option maxRecDepth 100000 in
theorem gl_c_chr1_o_11 : GoodIn zt wz_c_chr1_o_11 := goodIn_ca (goodIn_sub (by decide +kernel) (by decide +kernel)) (goodIn_app (gl_c_chk_11) (gl_nil _))
set_option maxHeartbeats 4000000 in
set_option maxRecDepth 100000 in
theorem gl_c_chr_o_11 : GoodIn zt wz_c_chr_o_11 := goodIn_ca (goodIn_sub (by decide +kernel) (by decide +kernel)) (goodIn_app (gl_c_isLatin1_o) (goodIn_app (gl_c_chr1_o_11) (gl_nil _)))
set_option maxHeartbeats 4000000 in
set_option maxRecDepth 100000 in
theorem gl_c_X0_pushText_11 : GoodIn zt wz_c_X0_pushText_11 := goodIn_ca (goodIn_sub (by decide +kernel) (by decide +kernel)) (goodIn_app (gl_c_len_o_11) (goodIn_app (gl_c_chr_o_11) (goodIn_app (gl_c_X0_push) (gl_nil _))))
set_option maxHeartbeats 4000000 in
set_option maxRecDepth 100000 in
theorem gl_c_X9_label_0 : GoodIn zt wz_c_X9_label_0 := goodIn_ca (goodIn_sub (by decide +kernel) (by decide +kernel)) (gl_nil _)
theorem gl_c_len_o_5 : GoodIn zt wz_c_len_o_5 := gl_c_len_o_11
theorem gl_c_chkN_5 : GoodIn zt wz_c_chkN_5 := gl_c_chkN_11
theorem gl_c_chkR_5 : GoodIn zt wz_c_chkR_5 := gl_c_chkN_11
theorem gl_c_chk_5 : GoodIn zt wz_c_chk_5 := gl_c_chk_11
theorem gl_c_chr1_o_5 : GoodIn zt wz_c_chr1_o_5 := gl_c_chr1_o_11
theorem gl_c_chr_o_5 : GoodIn zt wz_c_chr_o_5 := gl_c_chr_o_11
theorem gl_c_X0_pushText_5 : GoodIn zt wz_c_X0_pushText_5 := gl_c_X0_pushText_11
set_option maxHeartbeats 4000000 in
set_option maxRecDepth 100000 in
theorem gl_c_X9_signOf_45 : GoodIn zt wz_c_X9_signOf_45 := goodIn_ca (goodIn_sub (by decide +kernel) (by decide +kernel)) (gl_nil _)
theorem gl_c_X9_signOf_48 : GoodIn zt wz_c_X9_signOf_48 := gl_c_X9_signOf_45
theorem gl_c_X9_signOf_19 : GoodIn zt wz_c_X9_signOf_19 := gl_c_X9_signOf_45
theorem gl_c_X9_signOf_14 : GoodIn zt wz_c_X9_signOf_14 := gl_c_X9_signOf_45
set_option maxHeartbeats 4000000 in
set_option maxRecDepth 100000 in
theorem gl_c_X9_writeGroup : GoodIn zt wz_c_X9_writeGroup := goodIn_ca (goodIn_sub (by decide +kernel) (by decide +kernel)) (goodIn_app (gl_c_X9_signOf_45) (goodIn_app (gl_c_X0_push) (goodIn_app (gl_c_X9_signOf_48) (goodIn_app (gl_c_X9_signOf_19) (goodIn_app (gl_c_X9_signOf_14) (gl_nil _))))))
theorem gl_c_len_o_9 : GoodIn zt wz_c_len_o_9 := gl_c_len_o_11
theorem gl_c_chkN_9 : GoodIn zt wz_c_chkN_9 := gl_c_chkN_11
theorem gl_c_chkR_9 : GoodIn zt wz_c_chkR_9 := gl_c_chkN_11
theorem gl_c_chk_9 : GoodIn zt wz_c_chk_9 := gl_c_chk_11
theorem gl_c_chr1_o_9 : GoodIn zt wz_c_chr1_o_9 := gl_c_chr1_o_11
theorem gl_c_chr_o_9 : GoodIn zt wz_c_chr_o_9 := gl_c_chr_o_11
theorem gl_c_X0_pushText_9 : GoodIn zt wz_c_X0_pushText_9 := gl_c_X0_pushText_11
set_option maxHeartbeats 4000000 in
set_option maxRecDepth 100000 in
theorem gl_c_X9_write_0 : GoodIn zt wz_c_X9_write_0 := goodIn_ca (goodIn_sub (by decide +kernel) (by decide +kernel)) (goodIn_app (goodIn_sub it_RX0 (by decide +kernel)) (goodIn_app (gl_c_X0_pushText_11) (goodIn_app (gl_c_X9_label_0) (goodIn_app (gl_c_X0_pushText_5) (goodIn_app (gl_c_X0_push) (goodIn_app (gl_c_X9_sumOf) (goodIn_app (gl_c_X9_writeGroup) (goodIn_app (gl_c_X0_pushText_9) (gl_nil _)))))))))
set_option maxHeartbeats 4000000 in
set_option maxRecDepth 100000 in
theorem gl_c_X11_armor_0 : GoodIn zt wz_c_X11_armor_0 := goodIn_ca (goodIn_sub (by decide +kernel) (by decide +kernel)) (goodIn_app (goodIn_sub it_RX11 (by decide +kernel)) (goodIn_app (goodIn_sub it_RX0 (by decide +kernel)) (goodIn_app (gl_c_X9_write_0) (gl_nil _))))
set_option maxHeartbeats 4000000 in
set_option maxRecDepth 100000 in
theorem gl_c_L_armor_0 : GoodIn zt wz_c_L_armor_0 := goodIn_ca (goodIn_sub (by decide +kernel) (by decide +kernel)) (goodIn_app (gl_c_X11_armor_0) (gl_nil _))
set_option maxHeartbeats 4000000 in
set_option maxRecDepth 100000 in
theorem gl_c_ASB_init : GoodIn zt wz_c_ASB_init := goodIn_ca (goodIn_sub (by decide +kernel) (by decide +kernel)) (goodIn_app (goodIn_sub it_RJ4 (by decide +kernel)) (gl_nil _))
set_option maxHeartbeats 4000000 in
set_option maxRecDepth 100000 in
theorem gl_c_SB_init : GoodIn zt wz_c_SB_init := goodIn_ca (goodIn_sub (by decide +kernel) (by decide +kernel)) (goodIn_app (gl_c_ASB_init) (gl_nil _))
set_option maxHeartbeats 4000000 in
set_option maxRecDepth 100000 in
theorem gl_c_ens_16_11 : GoodIn zt wz_c_ens_16_11 := goodIn_ca (goodIn_sub (by decide +kernel) (by decide +kernel)) (goodIn_app (goodIn_sub it_RJ4 (by decide +kernel)) (gl_nil _))
set_option maxHeartbeats 4000000 in
set_option maxRecDepth 100000 in
theorem gl_c_inflIf : GoodIn zt wz_c_inflIf := goodIn_ca (goodIn_sub (by decide +kernel) (by decide +kernel)) (goodIn_app (goodIn_sub it_RJ4 (by decide +kernel)) (goodIn_app (gl_c_coder_o) (gl_nil _)))
set_option maxHeartbeats 4000000 in
set_option maxRecDepth 100000 in
theorem gl_c_getBytes_6_0_16 : GoodIn zt wz_c_getBytes_6_0_16 := goodIn_ca (goodIn_sub (by decide +kernel) (by decide +kernel)) (goodIn_app (gl_c_coder_o) (gl_nil _))
set_option maxHeartbeats 4000000 in
set_option maxRecDepth 100000 in
theorem gl_c_putStr_6_0_16 : GoodIn zt wz_c_putStr_6_0_16 := goodIn_ca (goodIn_sub (by decide +kernel) (by decide +kernel)) (goodIn_app (goodIn_sub it_RJ4 (by decide +kernel)) (goodIn_app (gl_c_inflIf) (goodIn_app (gl_c_getBytes_6_0_16) (gl_nil _))))
set_option maxHeartbeats 4000000 in
set_option maxRecDepth 100000 in
theorem gl_c_ASBapp_6_0_16 : GoodIn zt wz_c_ASBapp_6_0_16 := goodIn_ca (goodIn_sub (by decide +kernel) (by decide +kernel)) (goodIn_app (goodIn_sub it_RJ4 (by decide +kernel)) (goodIn_app (gl_c_len_o_11) (goodIn_app (gl_c_ens_16_11) (goodIn_app (gl_c_putStr_6_0_16) (gl_nil _)))))
set_option maxHeartbeats 4000000 in
set_option maxRecDepth 100000 in
theorem gl_c_SBapp_6_0_16 : GoodIn zt wz_c_SBapp_6_0_16 := goodIn_ca (goodIn_sub (by decide +kernel) (by decide +kernel)) (goodIn_app (gl_c_ASBapp_6_0_16) (gl_nil _))
set_option maxHeartbeats 4000000 in
set_option maxRecDepth 100000 in
theorem gl_c_M_label_0 : GoodIn zt wz_c_M_label_0 := goodIn_ca (goodIn_sub (by decide +kernel) (by decide +kernel)) (gl_nil _)
set_option maxHeartbeats 4000000 in
set_option maxRecDepth 100000 in
theorem gl_c_newLen_22 : GoodIn zt wz_c_newLen_22 := goodIn_ca (goodIn_sub (by decide +kernel) (by decide +kernel)) (gl_nil _)
set_option maxHeartbeats 4000000 in
set_option maxRecDepth 100000 in
theorem gl_c_newCap_22 : GoodIn zt wz_c_newCap_22 := goodIn_ca (goodIn_sub (by decide +kernel) (by decide +kernel)) (goodIn_app (goodIn_sub it_RJ4 (by decide +kernel)) (goodIn_app (gl_c_newLen_22) (gl_nil _)))
set_option maxHeartbeats 4000000 in
set_option maxRecDepth 100000 in
theorem gl_c_copyOf_b0 : GoodIn zt wz_c_copyOf_b0 := goodIn_ca (goodIn_sub (by decide +kernel) (by decide +kernel)) (gl_nil _)
set_option maxHeartbeats 4000000 in
set_option maxRecDepth 100000 in
theorem gl_c_ens_b0 : GoodIn zt wz_c_ens_b0 := goodIn_ca (goodIn_sub (by decide +kernel) (by decide +kernel)) (goodIn_app (goodIn_sub it_RJ4 (by decide +kernel)) (goodIn_app (gl_c_newCap_22) (goodIn_app (gl_c_copyOf_b0) (gl_nil _))))
theorem gl_c_getBytes_7_11_34 : GoodIn zt wz_c_getBytes_7_11_34 := gl_c_getBytes_6_0_16
theorem gl_c_putStr_7_11_34 : GoodIn zt wz_c_putStr_7_11_34 := gl_c_putStr_6_0_16
set_option maxHeartbeats 4000000 in
set_option maxRecDepth 100000 in
theorem gl_c_ASBapp_b0 : GoodIn zt wz_c_ASBapp_b0 := goodIn_ca (goodIn_sub (by decide +kernel) (by decide +kernel)) (goodIn_app (goodIn_sub it_RJ4 (by decide +kernel)) (goodIn_app (gl_c_len_o_11) (goodIn_app (gl_c_ens_b0) (goodIn_app (gl_c_putStr_7_11_34) (gl_nil _)))))
set_option maxHeartbeats 4000000 in
set_option maxRecDepth 100000 in
theorem gl_c_SBapp_b0 : GoodIn zt wz_c_SBapp_b0 := goodIn_ca (goodIn_sub (by decide +kernel) (by decide +kernel)) (goodIn_app (gl_c_ASBapp_b0) (gl_nil _))
theorem gl_c_ens_34_27 : GoodIn zt wz_c_ens_34_27 := gl_c_ens_16_11
theorem gl_c_getBytes_10_22_34 : GoodIn zt wz_c_getBytes_10_22_34 := gl_c_getBytes_6_0_16
theorem gl_c_putStr_10_22_34 : GoodIn zt wz_c_putStr_10_22_34 := gl_c_putStr_6_0_16
theorem gl_c_ASBapp_10_22_34 : GoodIn zt wz_c_ASBapp_10_22_34 := gl_c_ASBapp_6_0_16
theorem gl_c_SBapp_10_22_34 : GoodIn zt wz_c_SBapp_10_22_34 := gl_c_SBapp_6_0_16
set_option maxHeartbeats 4000000 in
set_option maxRecDepth 100000 in
theorem gl_c_getValue : GoodIn zt wz_c_getValue := goodIn_ca (goodIn_sub (by decide +kernel) (by decide +kernel)) (goodIn_app (goodIn_sub it_RJ4 (by decide +kernel)) (gl_nil _))
set_option maxHeartbeats 4000000 in
set_option maxRecDepth 100000 in
theorem gl_c_ASB_length : GoodIn zt wz_c_ASB_length := goodIn_ca (goodIn_sub (by decide +kernel) (by decide +kernel)) (goodIn_app (goodIn_sub it_RJ4 (by decide +kernel)) (gl_nil _))
set_option maxHeartbeats 4000000 in
set_option maxRecDepth 100000 in
theorem gl_c_SB_length : GoodIn zt wz_c_SB_length := goodIn_ca (goodIn_sub (by decide +kernel) (by decide +kernel)) (goodIn_app (gl_c_ASB_length) (gl_nil _))
set_option maxHeartbeats 4000000 in
set_option maxRecDepth 100000 in
theorem gl_c_ASB_isLatin1 : GoodIn zt wz_c_ASB_isLatin1 := goodIn_ca (goodIn_sub (by decide +kernel) (by decide +kernel)) (goodIn_app (goodIn_sub it_RJ4 (by decide +kernel)) (gl_nil _))
set_option maxHeartbeats 4000000 in
set_option maxRecDepth 100000 in
theorem gl_c_chkLen_27 : GoodIn zt wz_c_chkLen_27 := goodIn_ca (goodIn_sub (by decide +kernel) (by decide +kernel)) (gl_nil _)
set_option maxHeartbeats 4000000 in
set_option maxRecDepth 100000 in
theorem gl_c_cRB_b0 : GoodIn zt wz_c_cRB_b0 := goodIn_ca (goodIn_sub (by decide +kernel) (by decide +kernel)) (goodIn_app (gl_c_chkLen_27) (gl_nil _))
set_option maxHeartbeats 4000000 in
set_option maxRecDepth 100000 in
theorem gl_c_cR_b0 : GoodIn zt wz_c_cR_b0 := goodIn_ca (goodIn_sub (by decide +kernel) (by decide +kernel)) (goodIn_app (gl_c_cRB_b0) (gl_nil _))
set_option maxHeartbeats 4000000 in
set_option maxRecDepth 100000 in
theorem gl_c_Si1_b0 : GoodIn zt wz_c_Si1_b0 := goodIn_ca (goodIn_sub (by decide +kernel) (by decide +kernel)) (goodIn_app (goodIn_sub it_RJ0 (by decide +kernel)) (goodIn_app (gl_c_getValue) (goodIn_app (gl_c_SB_length) (goodIn_app (gl_c_ASB_isLatin1) (goodIn_app (gl_c_cR_b0) (gl_nil _))))))
set_option maxHeartbeats 4000000 in
set_option maxRecDepth 100000 in
theorem gl_c_Si2_b0 : GoodIn zt wz_c_Si2_b0 := goodIn_ca (goodIn_sub (by decide +kernel) (by decide +kernel)) (goodIn_app (gl_c_Si1_b0) (gl_nil _))
set_option maxHeartbeats 4000000 in
set_option maxRecDepth 100000 in
theorem gl_c_toS_b0 : GoodIn zt wz_c_toS_b0 := goodIn_ca (goodIn_sub (by decide +kernel) (by decide +kernel)) (goodIn_app (goodIn_sub it_RJ0 (by decide +kernel)) (goodIn_app (gl_c_Si2_b0) (gl_nil _)))
set_option maxHeartbeats 4000000 in
set_option maxRecDepth 100000 in
theorem gl_c_coder_w : GoodIn zt wz_c_coder_w := goodIn_ca (goodIn_sub (by decide +kernel) (by decide +kernel)) (goodIn_app (goodIn_sub it_RJ0 (by decide +kernel)) (gl_nil _))
set_option maxHeartbeats 4000000 in
set_option maxRecDepth 100000 in
theorem gl_c_len_w_27 : GoodIn zt wz_c_len_w_27 := goodIn_ca (goodIn_sub (by decide +kernel) (by decide +kernel)) (goodIn_app (goodIn_sub it_RJ0 (by decide +kernel)) (goodIn_app (gl_c_coder_w) (gl_nil _)))
set_option maxHeartbeats 4000000 in
set_option maxRecDepth 100000 in
theorem gl_c_isLatin1_w : GoodIn zt wz_c_isLatin1_w := goodIn_ca (goodIn_sub (by decide +kernel) (by decide +kernel)) (goodIn_app (goodIn_sub it_RJ0 (by decide +kernel)) (gl_nil _))
theorem gl_c_chkN_27 : GoodIn zt wz_c_chkN_27 := gl_c_chkN_11
theorem gl_c_chkR_27 : GoodIn zt wz_c_chkR_27 := gl_c_chkN_11
theorem gl_c_chk_27 : GoodIn zt wz_c_chk_27 := gl_c_chk_11
theorem gl_c_chr1_w_27 : GoodIn zt wz_c_chr1_w_27 := gl_c_chr1_o_11
set_option maxHeartbeats 4000000 in
set_option maxRecDepth 100000 in
theorem gl_c_chr_w_27 : GoodIn zt wz_c_chr_w_27 := goodIn_ca (goodIn_sub (by decide +kernel) (by decide +kernel)) (goodIn_app (goodIn_sub it_RJ0 (by decide +kernel)) (goodIn_app (gl_c_isLatin1_w) (goodIn_app (gl_c_chr1_w_27) (gl_nil _))))
set_option maxHeartbeats 4000000 in
set_option maxRecDepth 100000 in
theorem gl_c_M_put : GoodIn zt wz_c_M_put := goodIn_ca (goodIn_sub (by decide +kernel) (by decide +kernel)) (goodIn_app (goodIn_sub it_RX12 (by decide +kernel)) (gl_nil _))
set_option maxHeartbeats 4000000 in
set_option maxRecDepth 100000 in
theorem gl_c_M_putText_27 : GoodIn zt wz_c_M_putText_27 := goodIn_ca (goodIn_sub (by decide +kernel) (by decide +kernel)) (goodIn_app (gl_c_len_w_27) (goodIn_app (gl_c_chr_w_27) (goodIn_app (gl_c_M_put) (gl_nil _))))
set_option maxHeartbeats 4000000 in
set_option maxRecDepth 100000 in
theorem gl_c_M_signOf_45 : GoodIn zt wz_c_M_signOf_45 := goodIn_ca (goodIn_sub (by decide +kernel) (by decide +kernel)) (gl_nil _)
theorem gl_c_M_signOf_48 : GoodIn zt wz_c_M_signOf_48 := gl_c_M_signOf_45
theorem gl_c_M_signOf_19 : GoodIn zt wz_c_M_signOf_19 := gl_c_M_signOf_45
theorem gl_c_M_signOf_14 : GoodIn zt wz_c_M_signOf_14 := gl_c_M_signOf_45
theorem gl_c_ens_16_9 : GoodIn zt wz_c_ens_16_9 := gl_c_ens_16_11
theorem gl_c_getBytes_11_0_16 : GoodIn zt wz_c_getBytes_11_0_16 := gl_c_getBytes_6_0_16
theorem gl_c_putStr_11_0_16 : GoodIn zt wz_c_putStr_11_0_16 := gl_c_putStr_6_0_16
theorem gl_c_ASBapp_11_0_16 : GoodIn zt wz_c_ASBapp_11_0_16 := gl_c_ASBapp_6_0_16
theorem gl_c_SBapp_11_0_16 : GoodIn zt wz_c_SBapp_11_0_16 := gl_c_SBapp_6_0_16
theorem gl_c_newLen_20 : GoodIn zt wz_c_newLen_20 := gl_c_newLen_22
theorem gl_c_newCap_20 : GoodIn zt wz_c_newCap_20 := gl_c_newCap_22
theorem gl_c_copyOf_e0 : GoodIn zt wz_c_copyOf_e0 := gl_c_copyOf_b0
theorem gl_c_ens_e0 : GoodIn zt wz_c_ens_e0 := gl_c_ens_b0
theorem gl_c_getBytes_7_9_34 : GoodIn zt wz_c_getBytes_7_9_34 := gl_c_getBytes_6_0_16
theorem gl_c_putStr_7_9_34 : GoodIn zt wz_c_putStr_7_9_34 := gl_c_putStr_6_0_16
theorem gl_c_ASBapp_e0 : GoodIn zt wz_c_ASBapp_e0 := gl_c_ASBapp_b0
theorem gl_c_SBapp_e0 : GoodIn zt wz_c_SBapp_e0 := gl_c_SBapp_b0
theorem gl_c_ens_34_25 : GoodIn zt wz_c_ens_34_25 := gl_c_ens_16_11
theorem gl_c_getBytes_10_20_34 : GoodIn zt wz_c_getBytes_10_20_34 := gl_c_getBytes_6_0_16
theorem gl_c_putStr_10_20_34 : GoodIn zt wz_c_putStr_10_20_34 := gl_c_putStr_6_0_16
theorem gl_c_ASBapp_10_20_34 : GoodIn zt wz_c_ASBapp_10_20_34 := gl_c_ASBapp_6_0_16
theorem gl_c_SBapp_10_20_34 : GoodIn zt wz_c_SBapp_10_20_34 := gl_c_SBapp_6_0_16
theorem gl_c_chkLen_25 : GoodIn zt wz_c_chkLen_25 := gl_c_chkLen_27
theorem gl_c_cRB_e0 : GoodIn zt wz_c_cRB_e0 := gl_c_cRB_b0
theorem gl_c_cR_e0 : GoodIn zt wz_c_cR_e0 := gl_c_cR_b0
theorem gl_c_Si1_e0 : GoodIn zt wz_c_Si1_e0 := gl_c_Si1_b0
theorem gl_c_Si2_e0 : GoodIn zt wz_c_Si2_e0 := gl_c_Si2_b0
theorem gl_c_toS_e0 : GoodIn zt wz_c_toS_e0 := gl_c_toS_b0
theorem gl_c_len_w_25 : GoodIn zt wz_c_len_w_25 := gl_c_len_w_27
theorem gl_c_chkN_25 : GoodIn zt wz_c_chkN_25 := gl_c_chkN_11
theorem gl_c_chkR_25 : GoodIn zt wz_c_chkR_25 := gl_c_chkN_11
theorem gl_c_chk_25 : GoodIn zt wz_c_chk_25 := gl_c_chk_11
theorem gl_c_chr1_w_25 : GoodIn zt wz_c_chr1_w_25 := gl_c_chr1_o_11
theorem gl_c_chr_w_25 : GoodIn zt wz_c_chr_w_25 := gl_c_chr_w_27
theorem gl_c_M_putText_25 : GoodIn zt wz_c_M_putText_25 := gl_c_M_putText_27
set_option maxHeartbeats 4000000 in
set_option maxRecDepth 100000 in
theorem gl_c_M_putSigns_0 : GoodIn zt wz_c_M_putSigns_0 := goodIn_ca (goodIn_sub (by decide +kernel) (by decide +kernel)) (goodIn_app (goodIn_sub it_RJ4 (by decide +kernel)) (goodIn_app (gl_c_SB_init) (goodIn_app (gl_c_SBapp_6_0_16) (goodIn_app (gl_c_M_label_0) (goodIn_app (gl_c_SBapp_b0) (goodIn_app (gl_c_SBapp_10_22_34) (goodIn_app (gl_c_toS_b0) (goodIn_app (gl_c_M_putText_27) (goodIn_app (gl_c_M_put) (goodIn_app (gl_c_M_sumOf) (goodIn_app (gl_c_M_signOf_45) (goodIn_app (gl_c_M_signOf_48) (goodIn_app (gl_c_M_signOf_19) (goodIn_app (gl_c_M_signOf_14) (goodIn_app (gl_c_SBapp_11_0_16) (goodIn_app (gl_c_SBapp_e0) (goodIn_app (gl_c_SBapp_10_20_34) (goodIn_app (gl_c_toS_e0) (goodIn_app (gl_c_M_putText_25) (gl_nil _))))))))))))))))))))
set_option maxHeartbeats 4000000 in
set_option maxRecDepth 100000 in
theorem gl_c_M_armor_0 : GoodIn zt wz_c_M_armor_0 := goodIn_ca (goodIn_sub (by decide +kernel) (by decide +kernel)) (goodIn_app (goodIn_sub it_RX12 (by decide +kernel)) (goodIn_app (gl_c_M_part0) (goodIn_app (gl_c_M_putSigns_0) (gl_nil _))))
theorem gl_c_X9_label_1 : GoodIn zt wz_c_X9_label_1 := gl_c_X9_label_0
theorem gl_c_len_o_4 : GoodIn zt wz_c_len_o_4 := gl_c_len_o_11
theorem gl_c_chkN_4 : GoodIn zt wz_c_chkN_4 := gl_c_chkN_11
theorem gl_c_chkR_4 : GoodIn zt wz_c_chkR_4 := gl_c_chkN_11
theorem gl_c_chk_4 : GoodIn zt wz_c_chk_4 := gl_c_chk_11
theorem gl_c_chr1_o_4 : GoodIn zt wz_c_chr1_o_4 := gl_c_chr1_o_11
theorem gl_c_chr_o_4 : GoodIn zt wz_c_chr_o_4 := gl_c_chr_o_11
theorem gl_c_X0_pushText_4 : GoodIn zt wz_c_X0_pushText_4 := gl_c_X0_pushText_11
set_option maxHeartbeats 4000000 in
set_option maxRecDepth 100000 in
theorem gl_c_X9_write_1 : GoodIn zt wz_c_X9_write_1 := goodIn_ca (goodIn_sub (by decide +kernel) (by decide +kernel)) (goodIn_app (goodIn_sub it_RX0 (by decide +kernel)) (goodIn_app (gl_c_X0_pushText_11) (goodIn_app (gl_c_X9_label_1) (goodIn_app (gl_c_X0_pushText_4) (goodIn_app (gl_c_X0_pushText_5) (goodIn_app (gl_c_X0_push) (goodIn_app (gl_c_X9_sumOf) (goodIn_app (gl_c_X9_writeGroup) (goodIn_app (gl_c_X0_pushText_9) (gl_nil _))))))))))
set_option maxHeartbeats 4000000 in
set_option maxRecDepth 100000 in
theorem gl_c_X11_armor_1 : GoodIn zt wz_c_X11_armor_1 := goodIn_ca (goodIn_sub (by decide +kernel) (by decide +kernel)) (goodIn_app (goodIn_sub it_RX11 (by decide +kernel)) (goodIn_app (goodIn_sub it_RX0 (by decide +kernel)) (goodIn_app (gl_c_X9_write_1) (gl_nil _))))
set_option maxHeartbeats 4000000 in
set_option maxRecDepth 100000 in
theorem gl_c_L_armor_1 : GoodIn zt wz_c_L_armor_1 := goodIn_ca (goodIn_sub (by decide +kernel) (by decide +kernel)) (goodIn_app (gl_c_X11_armor_1) (gl_nil _))
theorem gl_c_M_label_1 : GoodIn zt wz_c_M_label_1 := gl_c_M_label_0
theorem gl_c_ens_16_15 : GoodIn zt wz_c_ens_16_15 := gl_c_ens_16_11
theorem gl_c_getBytes_8_11_16 : GoodIn zt wz_c_getBytes_8_11_16 := gl_c_getBytes_6_0_16
theorem gl_c_putStr_8_11_16 : GoodIn zt wz_c_putStr_8_11_16 := gl_c_putStr_6_0_16
theorem gl_c_ASBapp_8_11_16 : GoodIn zt wz_c_ASBapp_8_11_16 := gl_c_ASBapp_6_0_16
theorem gl_c_SBapp_8_11_16 : GoodIn zt wz_c_SBapp_8_11_16 := gl_c_SBapp_6_0_16
theorem gl_c_copyOf_b1 : GoodIn zt wz_c_copyOf_b1 := gl_c_copyOf_b0
theorem gl_c_ens_b1 : GoodIn zt wz_c_ens_b1 := gl_c_ens_b0
theorem gl_c_getBytes_10_15_34 : GoodIn zt wz_c_getBytes_10_15_34 := gl_c_getBytes_6_0_16
theorem gl_c_putStr_10_15_34 : GoodIn zt wz_c_putStr_10_15_34 := gl_c_putStr_6_0_16
theorem gl_c_ASBapp_b1 : GoodIn zt wz_c_ASBapp_b1 := gl_c_ASBapp_b0
theorem gl_c_SBapp_b1 : GoodIn zt wz_c_SBapp_b1 := gl_c_SBapp_b0
theorem gl_c_chkLen_20 : GoodIn zt wz_c_chkLen_20 := gl_c_chkLen_27
theorem gl_c_cRB_b1 : GoodIn zt wz_c_cRB_b1 := gl_c_cRB_b0
theorem gl_c_cR_b1 : GoodIn zt wz_c_cR_b1 := gl_c_cR_b0
theorem gl_c_Si1_b1 : GoodIn zt wz_c_Si1_b1 := gl_c_Si1_b0
theorem gl_c_Si2_b1 : GoodIn zt wz_c_Si2_b1 := gl_c_Si2_b0
theorem gl_c_toS_b1 : GoodIn zt wz_c_toS_b1 := gl_c_toS_b0
theorem gl_c_len_w_20 : GoodIn zt wz_c_len_w_20 := gl_c_len_w_27
theorem gl_c_chkN_20 : GoodIn zt wz_c_chkN_20 := gl_c_chkN_11
theorem gl_c_chkR_20 : GoodIn zt wz_c_chkR_20 := gl_c_chkN_11
theorem gl_c_chk_20 : GoodIn zt wz_c_chk_20 := gl_c_chk_11
theorem gl_c_chr1_w_20 : GoodIn zt wz_c_chr1_w_20 := gl_c_chr1_o_11
theorem gl_c_chr_w_20 : GoodIn zt wz_c_chr_w_20 := gl_c_chr_w_27
theorem gl_c_M_putText_20 : GoodIn zt wz_c_M_putText_20 := gl_c_M_putText_27
theorem gl_c_ens_16_13 : GoodIn zt wz_c_ens_16_13 := gl_c_ens_16_11
theorem gl_c_getBytes_8_9_16 : GoodIn zt wz_c_getBytes_8_9_16 := gl_c_getBytes_6_0_16
theorem gl_c_putStr_8_9_16 : GoodIn zt wz_c_putStr_8_9_16 := gl_c_putStr_6_0_16
theorem gl_c_ASBapp_8_9_16 : GoodIn zt wz_c_ASBapp_8_9_16 := gl_c_ASBapp_6_0_16
theorem gl_c_SBapp_8_9_16 : GoodIn zt wz_c_SBapp_8_9_16 := gl_c_SBapp_6_0_16
theorem gl_c_newLen_18 : GoodIn zt wz_c_newLen_18 := gl_c_newLen_22
theorem gl_c_newCap_18 : GoodIn zt wz_c_newCap_18 := gl_c_newCap_22
theorem gl_c_copyOf_e1 : GoodIn zt wz_c_copyOf_e1 := gl_c_copyOf_b0
theorem gl_c_ens_e1 : GoodIn zt wz_c_ens_e1 := gl_c_ens_b0
theorem gl_c_getBytes_10_13_34 : GoodIn zt wz_c_getBytes_10_13_34 := gl_c_getBytes_6_0_16
theorem gl_c_putStr_10_13_34 : GoodIn zt wz_c_putStr_10_13_34 := gl_c_putStr_6_0_16
theorem gl_c_ASBapp_e1 : GoodIn zt wz_c_ASBapp_e1 := gl_c_ASBapp_b0
theorem gl_c_SBapp_e1 : GoodIn zt wz_c_SBapp_e1 := gl_c_SBapp_b0
theorem gl_c_chkLen_18 : GoodIn zt wz_c_chkLen_18 := gl_c_chkLen_27
theorem gl_c_cRB_e1 : GoodIn zt wz_c_cRB_e1 := gl_c_cRB_b0
theorem gl_c_cR_e1 : GoodIn zt wz_c_cR_e1 := gl_c_cR_b0
theorem gl_c_Si1_e1 : GoodIn zt wz_c_Si1_e1 := gl_c_Si1_b0
theorem gl_c_Si2_e1 : GoodIn zt wz_c_Si2_e1 := gl_c_Si2_b0
theorem gl_c_toS_e1 : GoodIn zt wz_c_toS_e1 := gl_c_toS_b0
theorem gl_c_len_w_18 : GoodIn zt wz_c_len_w_18 := gl_c_len_w_27
theorem gl_c_chkN_18 : GoodIn zt wz_c_chkN_18 := gl_c_chkN_11
theorem gl_c_chkR_18 : GoodIn zt wz_c_chkR_18 := gl_c_chkN_11
theorem gl_c_chk_18 : GoodIn zt wz_c_chk_18 := gl_c_chk_11
theorem gl_c_chr1_w_18 : GoodIn zt wz_c_chr1_w_18 := gl_c_chr1_o_11
theorem gl_c_chr_w_18 : GoodIn zt wz_c_chr_w_18 := gl_c_chr_w_27
theorem gl_c_M_putText_18 : GoodIn zt wz_c_M_putText_18 := gl_c_M_putText_27
set_option maxHeartbeats 4000000 in
set_option maxRecDepth 100000 in
theorem gl_c_M_putSigns_1 : GoodIn zt wz_c_M_putSigns_1 := goodIn_ca (goodIn_sub (by decide +kernel) (by decide +kernel)) (goodIn_app (goodIn_sub it_RJ4 (by decide +kernel)) (goodIn_app (gl_c_SB_init) (goodIn_app (gl_c_SBapp_6_0_16) (goodIn_app (gl_c_M_label_1) (goodIn_app (gl_c_SBapp_8_11_16) (goodIn_app (gl_c_SBapp_b1) (goodIn_app (gl_c_toS_b1) (goodIn_app (gl_c_M_putText_20) (goodIn_app (gl_c_M_put) (goodIn_app (gl_c_M_sumOf) (goodIn_app (gl_c_M_signOf_45) (goodIn_app (gl_c_M_signOf_48) (goodIn_app (gl_c_M_signOf_19) (goodIn_app (gl_c_M_signOf_14) (goodIn_app (gl_c_SBapp_11_0_16) (goodIn_app (gl_c_SBapp_8_9_16) (goodIn_app (gl_c_SBapp_e1) (goodIn_app (gl_c_toS_e1) (goodIn_app (gl_c_M_putText_18) (gl_nil _))))))))))))))))))))
set_option maxHeartbeats 4000000 in
set_option maxRecDepth 100000 in
theorem gl_c_M_armor_1 : GoodIn zt wz_c_M_armor_1 := goodIn_ca (goodIn_sub (by decide +kernel) (by decide +kernel)) (goodIn_app (goodIn_sub it_RX12 (by decide +kernel)) (goodIn_app (gl_c_M_part0) (goodIn_app (gl_c_M_putSigns_1) (gl_nil _))))
theorem gl_c_X9_label_2 : GoodIn zt wz_c_X9_label_2 := gl_c_X9_label_0
theorem gl_c_len_o_13 : GoodIn zt wz_c_len_o_13 := gl_c_len_o_11
theorem gl_c_chkN_13 : GoodIn zt wz_c_chkN_13 := gl_c_chkN_11
theorem gl_c_chkR_13 : GoodIn zt wz_c_chkR_13 := gl_c_chkN_11
theorem gl_c_chk_13 : GoodIn zt wz_c_chk_13 := gl_c_chk_11
theorem gl_c_chr1_o_13 : GoodIn zt wz_c_chr1_o_13 := gl_c_chr1_o_11
theorem gl_c_chr_o_13 : GoodIn zt wz_c_chr_o_13 := gl_c_chr_o_11
theorem gl_c_X0_pushText_13 : GoodIn zt wz_c_X0_pushText_13 := gl_c_X0_pushText_11
theorem gl_c_X9_write_2 : GoodIn zt wz_c_X9_write_2 := gl_c_X9_write_1
theorem gl_c_X11_armor_2 : GoodIn zt wz_c_X11_armor_2 := gl_c_X11_armor_1
theorem gl_c_L_armor_2 : GoodIn zt wz_c_L_armor_2 := gl_c_L_armor_1
theorem gl_c_M_label_2 : GoodIn zt wz_c_M_label_2 := gl_c_M_label_0
theorem gl_c_newLen_24 : GoodIn zt wz_c_newLen_24 := gl_c_newLen_22
theorem gl_c_newCap_24 : GoodIn zt wz_c_newCap_24 := gl_c_newCap_22
theorem gl_c_ens_b2 : GoodIn zt wz_c_ens_b2 := gl_c_ens_b0
theorem gl_c_getBytes_9_11_34 : GoodIn zt wz_c_getBytes_9_11_34 := gl_c_getBytes_6_0_16
theorem gl_c_putStr_9_11_34 : GoodIn zt wz_c_putStr_9_11_34 := gl_c_putStr_6_0_16
theorem gl_c_ASBapp_b2 : GoodIn zt wz_c_ASBapp_b2 := gl_c_ASBapp_b0
theorem gl_c_SBapp_b2 : GoodIn zt wz_c_SBapp_b2 := gl_c_SBapp_b0
theorem gl_c_ens_34_29 : GoodIn zt wz_c_ens_34_29 := gl_c_ens_16_11
theorem gl_c_getBytes_10_24_34 : GoodIn zt wz_c_getBytes_10_24_34 := gl_c_getBytes_6_0_16
theorem gl_c_putStr_10_24_34 : GoodIn zt wz_c_putStr_10_24_34 := gl_c_putStr_6_0_16
theorem gl_c_ASBapp_10_24_34 : GoodIn zt wz_c_ASBapp_10_24_34 := gl_c_ASBapp_6_0_16
theorem gl_c_SBapp_10_24_34 : GoodIn zt wz_c_SBapp_10_24_34 := gl_c_SBapp_6_0_16
theorem gl_c_chkLen_29 : GoodIn zt wz_c_chkLen_29 := gl_c_chkLen_27
theorem gl_c_cRB_b2 : GoodIn zt wz_c_cRB_b2 := gl_c_cRB_b0
theorem gl_c_cR_b2 : GoodIn zt wz_c_cR_b2 := gl_c_cR_b0
theorem gl_c_Si1_b2 : GoodIn zt wz_c_Si1_b2 := gl_c_Si1_b0
theorem gl_c_Si2_b2 : GoodIn zt wz_c_Si2_b2 := gl_c_Si2_b0
theorem gl_c_toS_b2 : GoodIn zt wz_c_toS_b2 := gl_c_toS_b0
theorem gl_c_len_w_29 : GoodIn zt wz_c_len_w_29 := gl_c_len_w_27
theorem gl_c_chkN_29 : GoodIn zt wz_c_chkN_29 := gl_c_chkN_11
theorem gl_c_chkR_29 : GoodIn zt wz_c_chkR_29 := gl_c_chkN_11
theorem gl_c_chk_29 : GoodIn zt wz_c_chk_29 := gl_c_chk_11
theorem gl_c_chr1_w_29 : GoodIn zt wz_c_chr1_w_29 := gl_c_chr1_o_11
theorem gl_c_chr_w_29 : GoodIn zt wz_c_chr_w_29 := gl_c_chr_w_27
theorem gl_c_M_putText_29 : GoodIn zt wz_c_M_putText_29 := gl_c_M_putText_27
theorem gl_c_ens_e2 : GoodIn zt wz_c_ens_e2 := gl_c_ens_b0
theorem gl_c_getBytes_9_9_34 : GoodIn zt wz_c_getBytes_9_9_34 := gl_c_getBytes_6_0_16
theorem gl_c_putStr_9_9_34 : GoodIn zt wz_c_putStr_9_9_34 := gl_c_putStr_6_0_16
theorem gl_c_ASBapp_e2 : GoodIn zt wz_c_ASBapp_e2 := gl_c_ASBapp_b0
theorem gl_c_SBapp_e2 : GoodIn zt wz_c_SBapp_e2 := gl_c_SBapp_b0
theorem gl_c_cRB_e2 : GoodIn zt wz_c_cRB_e2 := gl_c_cRB_b0
theorem gl_c_cR_e2 : GoodIn zt wz_c_cR_e2 := gl_c_cR_b0
theorem gl_c_Si1_e2 : GoodIn zt wz_c_Si1_e2 := gl_c_Si1_b0
theorem gl_c_Si2_e2 : GoodIn zt wz_c_Si2_e2 := gl_c_Si2_b0
theorem gl_c_toS_e2 : GoodIn zt wz_c_toS_e2 := gl_c_toS_b0
theorem gl_c_M_putSigns_2 : GoodIn zt wz_c_M_putSigns_2 := gl_c_M_putSigns_0
theorem gl_c_M_armor_2 : GoodIn zt wz_c_M_armor_2 := gl_c_M_armor_0
set_option maxHeartbeats 4000000 in
set_option maxRecDepth 100000 in
theorem gl_c_X11_hash_w : GoodIn zt wz_c_X11_hash_w := goodIn_ca (goodIn_sub (by decide +kernel) (by decide +kernel)) (goodIn_app (goodIn_sub (by decide +kernel) (by decide +kernel)) (gl_nil _))
set_option maxHeartbeats 4000000 in
set_option maxRecDepth 100000 in
theorem gl_c_L_hash_w : GoodIn zt wz_c_L_hash_w := goodIn_ca (goodIn_sub (by decide +kernel) (by decide +kernel)) (goodIn_app (gl_c_X11_hash_w) (gl_nil _))
set_option maxHeartbeats 4000000 in
set_option maxRecDepth 100000 in
theorem gl_c_M_hash_w : GoodIn zt wz_c_M_hash_w := goodIn_ca (goodIn_sub (by decide +kernel) (by decide +kernel)) (goodIn_app (goodIn_sub it_RX12 (by decide +kernel)) (gl_nil _))
set_option maxHeartbeats 4000000 in
set_option maxRecDepth 100000 in
theorem gl_c_X11_hash_1lo : GoodIn zt wz_c_X11_hash_1lo := goodIn_ca (goodIn_sub (by decide +kernel) (by decide +kernel)) (goodIn_app (goodIn_sub (by decide +kernel) (by decide +kernel)) (gl_nil _))
set_option maxHeartbeats 4000000 in
set_option maxRecDepth 100000 in
theorem gl_c_L_hash_1lo : GoodIn zt wz_c_L_hash_1lo := goodIn_ca (goodIn_sub (by decide +kernel) (by decide +kernel)) (goodIn_app (gl_c_X11_hash_1lo) (gl_nil _))
theorem gl_c_M_hash_1lo : GoodIn zt wz_c_M_hash_1lo := gl_c_M_hash_w
theorem gl_c_X11_hash_1hi : GoodIn zt wz_c_X11_hash_1hi := gl_c_X11_hash_1lo
theorem gl_c_L_hash_1hi : GoodIn zt wz_c_L_hash_1hi := gl_c_L_hash_1lo
theorem gl_c_M_hash_1hi : GoodIn zt wz_c_M_hash_1hi := gl_c_M_hash_w
set_option maxHeartbeats 4000000 in
set_option maxRecDepth 100000 in
theorem gl_c_num4_0 : GoodIn zt wz_c_num4_0 := goodIn_ca (goodIn_sub (by decide +kernel) (by decide +kernel)) (goodIn_app (goodIn_sub it_RX0 (by decide +kernel)) (gl_nil _))
set_option maxHeartbeats 4000000 in
set_option maxRecDepth 100000 in
theorem gl_c_X1_wordOf_0 : GoodIn zt wz_c_X1_wordOf_0 := goodIn_ca (goodIn_sub (by decide +kernel) (by decide +kernel)) (goodIn_app (goodIn_sub it_RX0 (by decide +kernel)) (goodIn_app (gl_c_num4_0) (gl_nil _)))
theorem gl_c_num4_4 : GoodIn zt wz_c_num4_4 := gl_c_num4_0
theorem gl_c_X1_wordOf_4 : GoodIn zt wz_c_X1_wordOf_4 := gl_c_X1_wordOf_0
theorem gl_c_num4_8 : GoodIn zt wz_c_num4_8 := gl_c_num4_0
theorem gl_c_X1_wordOf_8 : GoodIn zt wz_c_X1_wordOf_8 := gl_c_X1_wordOf_0
theorem gl_c_num4_12 : GoodIn zt wz_c_num4_12 := gl_c_num4_0
theorem gl_c_X1_wordOf_12 : GoodIn zt wz_c_X1_wordOf_12 := gl_c_X1_wordOf_0
theorem gl_c_num4_16 : GoodIn zt wz_c_num4_16 := gl_c_num4_0
theorem gl_c_X1_wordOf_16 : GoodIn zt wz_c_X1_wordOf_16 := gl_c_X1_wordOf_0
theorem gl_c_num4_20 : GoodIn zt wz_c_num4_20 := gl_c_num4_0
theorem gl_c_X1_wordOf_20 : GoodIn zt wz_c_X1_wordOf_20 := gl_c_X1_wordOf_0
theorem gl_c_num4_24 : GoodIn zt wz_c_num4_24 := gl_c_num4_0
theorem gl_c_X1_wordOf_24 : GoodIn zt wz_c_X1_wordOf_24 := gl_c_X1_wordOf_0
theorem gl_c_num4_28 : GoodIn zt wz_c_num4_28 := gl_c_num4_0
theorem gl_c_X1_wordOf_28 : GoodIn zt wz_c_X1_wordOf_28 := gl_c_X1_wordOf_0
theorem gl_c_num4_32 : GoodIn zt wz_c_num4_32 := gl_c_num4_0
theorem gl_c_X1_wordOf_32 : GoodIn zt wz_c_X1_wordOf_32 := gl_c_X1_wordOf_0
theorem gl_c_num4_36 : GoodIn zt wz_c_num4_36 := gl_c_num4_0
theorem gl_c_X1_wordOf_36 : GoodIn zt wz_c_X1_wordOf_36 := gl_c_X1_wordOf_0
theorem gl_c_num4_40 : GoodIn zt wz_c_num4_40 := gl_c_num4_0
theorem gl_c_X1_wordOf_40 : GoodIn zt wz_c_X1_wordOf_40 := gl_c_X1_wordOf_0
theorem gl_c_num4_44 : GoodIn zt wz_c_num4_44 := gl_c_num4_0
theorem gl_c_X1_wordOf_44 : GoodIn zt wz_c_X1_wordOf_44 := gl_c_X1_wordOf_0
theorem gl_c_num4_48 : GoodIn zt wz_c_num4_48 := gl_c_num4_0
theorem gl_c_X1_wordOf_48 : GoodIn zt wz_c_X1_wordOf_48 := gl_c_X1_wordOf_0
theorem gl_c_num4_52 : GoodIn zt wz_c_num4_52 := gl_c_num4_0
theorem gl_c_X1_wordOf_52 : GoodIn zt wz_c_X1_wordOf_52 := gl_c_X1_wordOf_0
theorem gl_c_num4_56 : GoodIn zt wz_c_num4_56 := gl_c_num4_0
theorem gl_c_X1_wordOf_56 : GoodIn zt wz_c_X1_wordOf_56 := gl_c_X1_wordOf_0
theorem gl_c_num4_60 : GoodIn zt wz_c_num4_60 := gl_c_num4_0
theorem gl_c_X1_wordOf_60 : GoodIn zt wz_c_X1_wordOf_60 := gl_c_X1_wordOf_0
set_option maxHeartbeats 4000000 in
set_option maxRecDepth 100000 in
theorem gl_c_X1_mixFirst : GoodIn zt wz_c_X1_mixFirst := goodIn_ca (goodIn_sub (by decide +kernel) (by decide +kernel)) (goodIn_app (goodIn_sub it_RX1 (by decide +kernel)) (gl_nil _))
set_option maxHeartbeats 4000000 in
set_option maxRecDepth 100000 in
theorem gl_c_X1_make_1 : GoodIn zt wz_c_X1_make_1 := goodIn_ca (goodIn_sub (by decide +kernel) (by decide +kernel)) (goodIn_app (goodIn_sub it_RX1 (by decide +kernel)) (goodIn_app (goodIn_sub it_RX0 (by decide +kernel)) (goodIn_app (gl_c_X1_wordOf_0) (goodIn_app (gl_c_X1_wordOf_4) (goodIn_app (gl_c_X1_wordOf_8) (goodIn_app (gl_c_X1_wordOf_12) (goodIn_app (gl_c_X1_wordOf_16) (goodIn_app (gl_c_X1_wordOf_20) (goodIn_app (gl_c_X1_wordOf_24) (goodIn_app (gl_c_X1_wordOf_28) (goodIn_app (gl_c_X1_wordOf_32) (goodIn_app (gl_c_X1_wordOf_36) (goodIn_app (gl_c_X1_wordOf_40) (goodIn_app (gl_c_X1_wordOf_44) (goodIn_app (gl_c_X1_wordOf_48) (goodIn_app (gl_c_X1_wordOf_52) (goodIn_app (gl_c_X1_wordOf_56) (goodIn_app (gl_c_X1_wordOf_60) (goodIn_app (gl_c_X1_mixFirst) (gl_nil _))))))))))))))))))))
set_option maxHeartbeats 4000000 in
set_option maxRecDepth 100000 in
theorem gl_c_X1_at_1 : GoodIn zt wz_c_X1_at_1 := goodIn_ca (goodIn_sub (by decide +kernel) (by decide +kernel)) (goodIn_app (goodIn_sub it_RX1 (by decide +kernel)) (gl_nil _))
set_option maxHeartbeats 4000000 in
set_option maxRecDepth 100000 in
theorem gl_c_X11_hash_1 : GoodIn zt wz_c_X11_hash_1 := goodIn_ca (goodIn_sub (by decide +kernel) (by decide +kernel)) (goodIn_app (goodIn_sub it_RX11 (by decide +kernel)) (goodIn_app (gl_c_X1_make_1) (goodIn_app (gl_c_X1_at_1) (gl_nil _))))
set_option maxHeartbeats 4000000 in
set_option maxRecDepth 100000 in
theorem gl_c_L_hash_1 : GoodIn zt wz_c_L_hash_1 := goodIn_ca (goodIn_sub (by decide +kernel) (by decide +kernel)) (goodIn_app (gl_c_X11_hash_1) (gl_nil _))
set_option maxHeartbeats 4000000 in
set_option maxRecDepth 100000 in
theorem gl_c_M_sayRow0 : GoodIn zt wz_c_M_sayRow0 := goodIn_ca (goodIn_sub (by decide +kernel) (by decide +kernel)) (gl_nil _)
set_option maxHeartbeats 4000000 in
set_option maxRecDepth 100000 in
theorem gl_c_M_say : GoodIn zt wz_c_M_say := goodIn_ca (goodIn_sub (by decide +kernel) (by decide +kernel)) (goodIn_app (goodIn_sub it_RX12 (by decide +kernel)) (gl_nil _))
set_option maxHeartbeats 4000000 in
set_option maxRecDepth 100000 in
theorem gl_c_M_sayNumber : GoodIn zt wz_c_M_sayNumber := goodIn_ca (goodIn_sub (by decide +kernel) (by decide +kernel)) (goodIn_app (gl_c_M_say) (gl_nil _))
set_option maxHeartbeats 4000000 in
set_option maxRecDepth 100000 in
theorem gl_c_M_close : GoodIn zt wz_c_M_close := goodIn_ca (goodIn_sub (by decide +kernel) (by decide +kernel)) (goodIn_app (goodIn_sub it_RX12 (by decide +kernel)) (goodIn_app (gl_c_M_say) (goodIn_app (gl_c_M_sayNumber) (gl_nil _))))
set_option maxHeartbeats 4000000 in
set_option maxRecDepth 100000 in
theorem gl_c_M_number : GoodIn zt wz_c_M_number := goodIn_ca (goodIn_sub (by decide +kernel) (by decide +kernel)) (gl_nil _)
set_option maxHeartbeats 4000000 in
set_option maxRecDepth 100000 in
theorem gl_c_M_left : GoodIn zt wz_c_M_left := goodIn_ca (goodIn_sub (by decide +kernel) (by decide +kernel)) (gl_nil _)
set_option maxHeartbeats 4000000 in
set_option maxRecDepth 100000 in
theorem gl_c_M_keep_1_0 : GoodIn zt wz_c_M_keep_1_0 := goodIn_ca (goodIn_sub (by decide +kernel) (by decide +kernel)) (goodIn_app (goodIn_sub it_RX12 (by decide +kernel)) (gl_nil _))
theorem gl_c_M_keep_1_1 : GoodIn zt wz_c_M_keep_1_1 := gl_c_M_keep_1_0
theorem gl_c_M_keep_1_2 : GoodIn zt wz_c_M_keep_1_2 := gl_c_M_keep_1_0
theorem gl_c_M_keep_1_3 : GoodIn zt wz_c_M_keep_1_3 := gl_c_M_keep_1_0
theorem gl_c_M_keep_1_4 : GoodIn zt wz_c_M_keep_1_4 := gl_c_M_keep_1_0
set_option maxHeartbeats 4000000 in
set_option maxRecDepth 100000 in
theorem gl_c_M_firstHash : GoodIn zt wz_c_M_firstHash := goodIn_ca (goodIn_sub (by decide +kernel) (by decide +kernel)) (goodIn_app (goodIn_sub it_RX12 (by decide +kernel)) (goodIn_app (gl_c_M_close) (goodIn_app (gl_c_M_number) (goodIn_app (gl_c_M_left) (goodIn_app (gl_c_M_keep_1_0) (goodIn_app (gl_c_M_keep_1_1) (goodIn_app (gl_c_M_keep_1_2) (goodIn_app (gl_c_M_keep_1_3) (goodIn_app (gl_c_M_keep_1_4) (gl_nil _))))))))))
set_option maxHeartbeats 4000000 in
set_option maxRecDepth 100000 in
theorem gl_c_M_hashOf_1 : GoodIn zt wz_c_M_hashOf_1 := goodIn_ca (goodIn_sub (by decide +kernel) (by decide +kernel)) (goodIn_app (gl_c_M_firstHash) (gl_nil _))
set_option maxHeartbeats 4000000 in
set_option maxRecDepth 100000 in
theorem gl_c_M_hash_1 : GoodIn zt wz_c_M_hash_1 := goodIn_ca (goodIn_sub (by decide +kernel) (by decide +kernel)) (goodIn_app (goodIn_sub it_RX12 (by decide +kernel)) (goodIn_app (gl_c_M_sayRow0) (goodIn_app (gl_c_M_hashOf_1) (gl_nil _))))
theorem gl_c_X11_hash_2lo : GoodIn zt wz_c_X11_hash_2lo := gl_c_X11_hash_1lo
theorem gl_c_L_hash_2lo : GoodIn zt wz_c_L_hash_2lo := gl_c_L_hash_1lo
theorem gl_c_M_hash_2lo : GoodIn zt wz_c_M_hash_2lo := gl_c_M_hash_w
theorem gl_c_X11_hash_2hi : GoodIn zt wz_c_X11_hash_2hi := gl_c_X11_hash_1lo
theorem gl_c_L_hash_2hi : GoodIn zt wz_c_L_hash_2hi := gl_c_L_hash_1lo
theorem gl_c_M_hash_2hi : GoodIn zt wz_c_M_hash_2hi := gl_c_M_hash_w
set_option maxHeartbeats 4000000 in
set_option maxRecDepth 100000 in
theorem gl_c_X1_mixSecond : GoodIn zt wz_c_X1_mixSecond := goodIn_ca (goodIn_sub (by decide +kernel) (by decide +kernel)) (goodIn_app (goodIn_sub it_RX1 (by decide +kernel)) (gl_nil _))
set_option maxHeartbeats 4000000 in
set_option maxRecDepth 100000 in
theorem gl_c_X1_make_2 : GoodIn zt wz_c_X1_make_2 := goodIn_ca (goodIn_sub (by decide +kernel) (by decide +kernel)) (goodIn_app (goodIn_sub it_RX1 (by decide +kernel)) (goodIn_app (goodIn_sub it_RX0 (by decide +kernel)) (goodIn_app (gl_c_X1_wordOf_0) (goodIn_app (gl_c_X1_wordOf_4) (goodIn_app (gl_c_X1_wordOf_8) (goodIn_app (gl_c_X1_wordOf_12) (goodIn_app (gl_c_X1_wordOf_16) (goodIn_app (gl_c_X1_wordOf_20) (goodIn_app (gl_c_X1_wordOf_24) (goodIn_app (gl_c_X1_wordOf_28) (goodIn_app (gl_c_X1_wordOf_32) (goodIn_app (gl_c_X1_wordOf_36) (goodIn_app (gl_c_X1_wordOf_40) (goodIn_app (gl_c_X1_wordOf_44) (goodIn_app (gl_c_X1_wordOf_48) (goodIn_app (gl_c_X1_wordOf_52) (goodIn_app (gl_c_X1_wordOf_56) (goodIn_app (gl_c_X1_wordOf_60) (goodIn_app (gl_c_X1_mixSecond) (gl_nil _))))))))))))))))))))
theorem gl_c_X1_at_2 : GoodIn zt wz_c_X1_at_2 := gl_c_X1_at_1
set_option maxHeartbeats 4000000 in
set_option maxRecDepth 100000 in
theorem gl_c_X11_hash_2 : GoodIn zt wz_c_X11_hash_2 := goodIn_ca (goodIn_sub (by decide +kernel) (by decide +kernel)) (goodIn_app (goodIn_sub it_RX11 (by decide +kernel)) (goodIn_app (gl_c_X1_make_2) (goodIn_app (gl_c_X1_at_2) (gl_nil _))))
set_option maxHeartbeats 4000000 in
set_option maxRecDepth 100000 in
theorem gl_c_L_hash_2 : GoodIn zt wz_c_L_hash_2 := goodIn_ca (goodIn_sub (by decide +kernel) (by decide +kernel)) (goodIn_app (gl_c_X11_hash_2) (gl_nil _))
theorem gl_c_M_keep_2_0 : GoodIn zt wz_c_M_keep_2_0 := gl_c_M_keep_1_0
theorem gl_c_M_keep_2_1 : GoodIn zt wz_c_M_keep_2_1 := gl_c_M_keep_1_0
theorem gl_c_M_keep_2_2 : GoodIn zt wz_c_M_keep_2_2 := gl_c_M_keep_1_0
theorem gl_c_M_keep_2_3 : GoodIn zt wz_c_M_keep_2_3 := gl_c_M_keep_1_0
theorem gl_c_M_keep_2_4 : GoodIn zt wz_c_M_keep_2_4 := gl_c_M_keep_1_0
theorem gl_c_M_keep_2_5 : GoodIn zt wz_c_M_keep_2_5 := gl_c_M_keep_1_0
theorem gl_c_M_keep_2_6 : GoodIn zt wz_c_M_keep_2_6 := gl_c_M_keep_1_0
theorem gl_c_M_keep_2_7 : GoodIn zt wz_c_M_keep_2_7 := gl_c_M_keep_1_0
set_option maxHeartbeats 4000000 in
set_option maxRecDepth 100000 in
theorem gl_c_M_secondHash : GoodIn zt wz_c_M_secondHash := goodIn_ca (goodIn_sub (by decide +kernel) (by decide +kernel)) (goodIn_app (goodIn_sub it_RX12 (by decide +kernel)) (goodIn_app (gl_c_M_close) (goodIn_app (gl_c_M_number) (goodIn_app (gl_c_M_left) (goodIn_app (gl_c_M_keep_2_0) (goodIn_app (gl_c_M_keep_2_1) (goodIn_app (gl_c_M_keep_2_2) (goodIn_app (gl_c_M_keep_2_3) (goodIn_app (gl_c_M_keep_2_4) (goodIn_app (gl_c_M_keep_2_5) (goodIn_app (gl_c_M_keep_2_6) (goodIn_app (gl_c_M_keep_2_7) (gl_nil _)))))))))))))
set_option maxHeartbeats 4000000 in
set_option maxRecDepth 100000 in
theorem gl_c_M_hashOf_2 : GoodIn zt wz_c_M_hashOf_2 := goodIn_ca (goodIn_sub (by decide +kernel) (by decide +kernel)) (goodIn_app (gl_c_M_secondHash) (gl_nil _))
set_option maxHeartbeats 4000000 in
set_option maxRecDepth 100000 in
theorem gl_c_M_hash_2 : GoodIn zt wz_c_M_hash_2 := goodIn_ca (goodIn_sub (by decide +kernel) (by decide +kernel)) (goodIn_app (goodIn_sub it_RX12 (by decide +kernel)) (goodIn_app (gl_c_M_sayRow0) (goodIn_app (gl_c_M_hashOf_2) (gl_nil _))))
set_option maxHeartbeats 4000000 in
set_option maxRecDepth 100000 in
theorem gl_c_X10_init_X0 : GoodIn zt wz_c_X10_init_X0 := goodIn_ca (goodIn_sub (by decide +kernel) (by decide +kernel)) (goodIn_app (goodIn_sub it_RX0 (by decide +kernel)) (gl_nil _))
set_option maxHeartbeats 4000000 in
set_option maxRecDepth 100000 in
theorem gl_c_X0_init_4096 : GoodIn zt wz_c_X0_init_4096 := goodIn_ca (goodIn_sub (by decide +kernel) (by decide +kernel)) (goodIn_app (gl_c_X10_init_X0) (gl_nil _))
theorem gl_c_X0_init_1024 : GoodIn zt wz_c_X0_init_1024 := gl_c_X0_init_4096
theorem gl_c_X0_init_256 : GoodIn zt wz_c_X0_init_256 := gl_c_X0_init_4096
set_option maxHeartbeats 4000000 in
set_option maxRecDepth 100000 in
theorem gl_c_X10_init_X10 : GoodIn zt wz_c_X10_init_X10 := goodIn_ca (goodIn_sub (by decide +kernel) (by decide +kernel)) (goodIn_app (goodIn_sub it_RX10 (by decide +kernel)) (gl_nil _))
set_option maxHeartbeats 4000000 in
set_option maxRecDepth 100000 in
theorem gl_c_X4_init : GoodIn zt wz_c_X4_init := goodIn_ca (goodIn_sub (by decide +kernel) (by decide +kernel)) (goodIn_app (goodIn_sub it_RX10 (by decide +kernel)) (goodIn_app (goodIn_sub it_RX4 (by decide +kernel)) (goodIn_app (goodIn_sub it_RX0 (by decide +kernel)) (goodIn_app (gl_c_X10_init_X10) (goodIn_app (gl_c_X0_init_256) (gl_nil _))))))
set_option maxHeartbeats 4000000 in
set_option maxRecDepth 100000 in
theorem gl_c_X9_init : GoodIn zt wz_c_X9_init := goodIn_ca (goodIn_sub (by decide +kernel) (by decide +kernel)) (goodIn_app (goodIn_sub it_RX0 (by decide +kernel)) (goodIn_app (goodIn_sub it_RX9 (by decide +kernel)) (goodIn_app (gl_c_X0_init_1024) (gl_nil _))))
set_option maxHeartbeats 4000000 in
set_option maxRecDepth 100000 in
theorem gl_c_X1_init : GoodIn zt wz_c_X1_init := goodIn_ca (goodIn_sub (by decide +kernel) (by decide +kernel)) (goodIn_app (goodIn_sub it_RX1 (by decide +kernel)) (gl_nil _))
set_option maxHeartbeats 4000000 in
set_option maxRecDepth 100000 in
theorem gl_c_AbsColl_init : GoodIn zt wz_c_AbsColl_init := goodIn_ca (goodIn_sub (by decide +kernel) (by decide +kernel)) (gl_nil _)
set_option maxHeartbeats 4000000 in
set_option maxRecDepth 100000 in
theorem gl_c_AbsList_init : GoodIn zt wz_c_AbsList_init := goodIn_ca (goodIn_sub (by decide +kernel) (by decide +kernel)) (goodIn_app (goodIn_sub it_RJx4a65c (by decide +kernel)) (goodIn_app (gl_c_AbsColl_init) (gl_nil _)))
set_option maxHeartbeats 4000000 in
set_option maxRecDepth 100000 in
theorem gl_c_ArrayList_init : GoodIn zt wz_c_ArrayList_init := goodIn_ca (goodIn_sub (by decide +kernel) (by decide +kernel)) (goodIn_app (goodIn_sub it_RJx4a65c (by decide +kernel)) (goodIn_app (gl_c_AbsList_init) (gl_nil _)))
set_option maxHeartbeats 4000000 in
set_option maxRecDepth 100000 in
theorem gl_c_X10_init_X3 : GoodIn zt wz_c_X10_init_X3 := goodIn_ca (goodIn_sub (by decide +kernel) (by decide +kernel)) (goodIn_app (goodIn_sub it_RX3 (by decide +kernel)) (gl_nil _))
set_option maxHeartbeats 4000000 in
set_option maxRecDepth 100000 in
theorem gl_c_X5_init : GoodIn zt wz_c_X5_init := goodIn_ca (goodIn_sub (by decide +kernel) (by decide +kernel)) (goodIn_app (goodIn_sub it_RJx4a65c (by decide +kernel)) (goodIn_app (goodIn_sub it_RX3 (by decide +kernel)) (goodIn_app (gl_c_X10_init_X3) (goodIn_app (gl_c_ArrayList_init) (gl_nil _)))))
set_option maxHeartbeats 4000000 in
set_option maxRecDepth 100000 in
theorem gl_c_X3_init : GoodIn zt wz_c_X3_init := goodIn_ca (goodIn_sub (by decide +kernel) (by decide +kernel)) (goodIn_app (goodIn_sub it_RJx4a65c (by decide +kernel)) (goodIn_app (goodIn_sub it_RX3 (by decide +kernel)) (goodIn_app (gl_c_X5_init) (goodIn_app (gl_c_ArrayList_init) (gl_nil _)))))
set_option maxHeartbeats 4000000 in
set_option maxRecDepth 100000 in
theorem gl_c_X10_init_X8 : GoodIn zt wz_c_X10_init_X8 := goodIn_ca (goodIn_sub (by decide +kernel) (by decide +kernel)) (goodIn_app (goodIn_sub it_RX8 (by decide +kernel)) (gl_nil _))
set_option maxHeartbeats 4000000 in
set_option maxRecDepth 100000 in
theorem gl_c_X8_init : GoodIn zt wz_c_X8_init := goodIn_ca (goodIn_sub (by decide +kernel) (by decide +kernel)) (goodIn_app (gl_c_X10_init_X8) (gl_nil _))
set_option maxHeartbeats 4000000 in
set_option maxRecDepth 100000 in
theorem gl_c_X7_init : GoodIn zt wz_c_X7_init := goodIn_ca (goodIn_sub (by decide +kernel) (by decide +kernel)) (goodIn_app (goodIn_sub it_RJx4a65c (by decide +kernel)) (goodIn_app (goodIn_sub it_RX7 (by decide +kernel)) (goodIn_app (goodIn_sub it_RX1 (by decide +kernel)) (goodIn_app (goodIn_sub it_RX0 (by decide +kernel)) (goodIn_app (goodIn_sub it_RX3 (by decide +kernel)) (goodIn_app (goodIn_sub it_RX8 (by decide +kernel)) (goodIn_app (gl_c_ArrayList_init) (goodIn_app (gl_c_X1_init) (goodIn_app (gl_c_X0_init_256) (goodIn_app (gl_c_X3_init) (goodIn_app (gl_c_X8_init) (gl_nil _))))))))))))
set_option maxHeartbeats 4000000 in
set_option maxRecDepth 100000 in
theorem gl_c_X6_init : GoodIn zt wz_c_X6_init := goodIn_ca (goodIn_sub (by decide +kernel) (by decide +kernel)) (goodIn_app (goodIn_sub it_RX6 (by decide +kernel)) (gl_nil _))
theorem gl_c_X0_init_128 : GoodIn zt wz_c_X0_init_128 := gl_c_X0_init_4096
set_option maxHeartbeats 4000000 in
set_option maxRecDepth 100000 in
theorem gl_c_X2_init : GoodIn zt wz_c_X2_init := goodIn_ca (goodIn_sub (by decide +kernel) (by decide +kernel)) (goodIn_app (goodIn_sub it_RX1 (by decide +kernel)) (goodIn_app (goodIn_sub it_RX2 (by decide +kernel)) (goodIn_app (goodIn_sub it_RX0 (by decide +kernel)) (goodIn_app (goodIn_sub it_RX6 (by decide +kernel)) (goodIn_app (goodIn_sub it_RX8 (by decide +kernel)) (goodIn_app (gl_c_X1_init) (goodIn_app (gl_c_X0_init_1024) (goodIn_app (gl_c_X6_init) (goodIn_app (gl_c_X0_init_128) (goodIn_app (gl_c_X8_init) (gl_nil _)))))))))))
set_option maxHeartbeats 4000000 in
set_option maxRecDepth 100000 in
theorem gl_c_X11_init : GoodIn zt wz_c_X11_init := goodIn_ca (goodIn_sub (by decide +kernel) (by decide +kernel)) (goodIn_app (goodIn_sub it_RX0 (by decide +kernel)) (goodIn_app (goodIn_sub it_RX11 (by decide +kernel)) (goodIn_app (goodIn_sub it_RX10 (by decide +kernel)) (goodIn_app (goodIn_sub it_RX4 (by decide +kernel)) (goodIn_app (goodIn_sub it_RX9 (by decide +kernel)) (goodIn_app (goodIn_sub it_RX1 (by decide +kernel)) (goodIn_app (goodIn_sub it_RX7 (by decide +kernel)) (goodIn_app (goodIn_sub it_RX2 (by decide +kernel)) (goodIn_app (goodIn_sub it_RX8 (by decide +kernel)) (goodIn_app (gl_c_X0_init_4096) (goodIn_app (gl_c_X0_init_1024) (goodIn_app (gl_c_X0_init_256) (goodIn_app (gl_c_X10_init_X10) (goodIn_app (gl_c_X4_init) (goodIn_app (gl_c_X9_init) (goodIn_app (gl_c_X1_init) (goodIn_app (gl_c_X7_init) (goodIn_app (gl_c_X2_init) (goodIn_app (gl_c_X8_init) (gl_nil _))))))))))))))))))))
set_option maxHeartbeats 4000000 in
set_option maxRecDepth 100000 in
theorem gl_c_X12_init : GoodIn zt wz_c_X12_init := goodIn_ca (goodIn_sub (by decide +kernel) (by decide +kernel)) (goodIn_app (goodIn_sub it_RX12 (by decide +kernel)) (gl_nil _))

theorem gl_nil (b : List Cond) : GoodIn b [] := fun _ h => nomatch h
set_option maxHeartbeats 4000000 in
set_option maxRecDepth 100000 in
theorem gl_c_X4_open : GoodIn lw_tbl wz_c_X4_open := goodIn_ca (goodIn_sub (by decide +kernel) (by decide +kernel)) (goodIn_app (goodIn_sub in_RX4 (by decide +kernel)) (gl_nil _))
set_option maxHeartbeats 4000000 in
set_option maxRecDepth 100000 in
theorem gl_c_X11_isInSigns : GoodIn lw_tbl wz_c_X11_isInSigns := goodIn_ca (goodIn_sub (by decide +kernel) (by decide +kernel)) (goodIn_app (goodIn_sub in_RX11 (by decide +kernel)) (goodIn_app (goodIn_sub in_RX0 (by decide +kernel)) (gl_nil _)))
set_option maxHeartbeats 4000000 in
set_option maxRecDepth 100000 in
theorem gl_c_X11_openKeys : GoodIn lw_tbl wz_c_X11_openKeys := goodIn_ca (goodIn_sub (by decide +kernel) (by decide +kernel)) (goodIn_app (goodIn_sub in_RX11 (by decide +kernel)) (goodIn_app (gl_c_X4_open) (goodIn_app (gl_c_X11_isInSigns) (gl_nil _))))
set_option maxHeartbeats 4000000 in
set_option maxRecDepth 100000 in
theorem gl_c_size : GoodIn lw_tbl wz_c_size := goodIn_ca (goodIn_sub (by decide +kernel) (by decide +kernel)) (goodIn_app (goodIn_sub in_RJx4a65c (by decide +kernel)) (gl_nil _))
set_option maxHeartbeats 4000000 in
set_option maxRecDepth 100000 in
theorem gl_c_X4_more : GoodIn lw_tbl wz_c_X4_more := goodIn_ca (goodIn_sub (by decide +kernel) (by decide +kernel)) (goodIn_app (goodIn_sub in_RX4 (by decide +kernel)) (goodIn_app (goodIn_sub in_RX0 (by decide +kernel)) (gl_nil _)))
set_option maxHeartbeats 4000000 in
set_option maxRecDepth 100000 in
theorem gl_c_X7_joinAll : GoodIn lw_tbl wz_c_X7_joinAll := goodIn_ca (goodIn_sub (by decide +kernel) (by decide +kernel)) (goodIn_app (goodIn_sub in_RX7 (by decide +kernel)) (goodIn_app (goodIn_sub in_RX4 (by decide +kernel)) (goodIn_app (goodIn_sub in_RX0 (by decide +kernel)) (goodIn_app (gl_c_size) (goodIn_app (gl_c_X4_more) (gl_nil _))))))
set_option maxHeartbeats 4000000 in
set_option maxRecDepth 100000 in
theorem gl_c_X11_join : GoodIn lw_tbl wz_c_X11_join := goodIn_ca (goodIn_sub (by decide +kernel) (by decide +kernel)) (goodIn_app (goodIn_sub in_RX11 (by decide +kernel)) (goodIn_app (goodIn_sub in_RX0 (by decide +kernel)) (goodIn_app (gl_c_X11_openKeys) (goodIn_app (gl_c_X7_joinAll) (gl_nil _)))))
set_option maxHeartbeats 4000000 in
set_option maxRecDepth 100000 in
theorem gl_c_M_part0 : GoodIn lw_tbl wz_c_M_part0 := goodIn_ca (goodIn_sub (by decide +kernel) (by decide +kernel)) (gl_nil _)
set_option maxHeartbeats 4000000 in
set_option maxRecDepth 100000 in
theorem gl_c_M_taken : GoodIn lw_tbl wz_c_M_taken := goodIn_ca (goodIn_sub (by decide +kernel) (by decide +kernel)) (goodIn_app (goodIn_sub in_RX12 (by decide +kernel)) (goodIn_app (gl_c_M_part0) (gl_nil _)))
set_option maxHeartbeats 4000000 in
set_option maxRecDepth 100000 in
theorem gl_c_M_open : GoodIn lw_tbl wz_c_M_open := goodIn_ca (goodIn_sub (by decide +kernel) (by decide +kernel)) (goodIn_app (goodIn_sub in_RX12 (by decide +kernel)) (gl_nil _))
set_option maxHeartbeats 4000000 in
set_option maxRecDepth 100000 in
theorem gl_c_M_fail : GoodIn lw_tbl wz_c_M_fail := goodIn_ca (goodIn_sub (by decide +kernel) (by decide +kernel)) (goodIn_app (goodIn_sub in_RX12 (by decide +kernel)) (gl_nil _))
set_option maxHeartbeats 4000000 in
set_option maxRecDepth 100000 in
theorem gl_c_M_readKeys : GoodIn lw_tbl wz_c_M_readKeys := goodIn_ca (goodIn_sub (by decide +kernel) (by decide +kernel)) (goodIn_app (goodIn_sub in_RX12 (by decide +kernel)) (goodIn_app (gl_c_M_fail) (gl_nil _)))
set_option maxHeartbeats 4000000 in
set_option maxRecDepth 100000 in
theorem gl_c_M_join : GoodIn lw_tbl wz_c_M_join := goodIn_ca (goodIn_sub (by decide +kernel) (by decide +kernel)) (goodIn_app (goodIn_sub in_RX12 (by decide +kernel)) (goodIn_app (gl_c_M_taken) (goodIn_app (gl_c_M_open) (goodIn_app (gl_c_M_readKeys) (gl_nil _)))))
set_option maxHeartbeats 4000000 in
set_option maxRecDepth 100000 in
theorem gl_c_X0_pushSpan : GoodIn lw_tbl wz_c_X0_pushSpan := goodIn_ca (goodIn_sub (by decide +kernel) (by decide +kernel)) (goodIn_app (goodIn_sub in_RX0 (by decide +kernel)) (gl_nil _))
set_option maxHeartbeats 4000000 in
set_option maxRecDepth 100000 in
theorem gl_c_X11_document : GoodIn lw_tbl wz_c_X11_document := goodIn_ca (goodIn_sub (by decide +kernel) (by decide +kernel)) (goodIn_app (goodIn_sub in_RX11 (by decide +kernel)) (goodIn_app (goodIn_sub in_RX0 (by decide +kernel)) (goodIn_app (gl_c_X0_pushSpan) (gl_nil _))))
set_option maxHeartbeats 4000000 in
set_option maxRecDepth 100000 in
theorem gl_c_M_document : GoodIn lw_tbl wz_c_M_document := goodIn_ca (goodIn_sub (by decide +kernel) (by decide +kernel)) (goodIn_app (goodIn_sub in_RX12 (by decide +kernel)) (goodIn_app (gl_c_M_taken) (gl_nil _)))
set_option maxHeartbeats 4000000 in
set_option maxRecDepth 100000 in
theorem gl_c_X11_keys : GoodIn lw_tbl wz_c_X11_keys := goodIn_ca (goodIn_sub (by decide +kernel) (by decide +kernel)) (goodIn_app (goodIn_sub in_RX11 (by decide +kernel)) (goodIn_app (goodIn_sub in_RX7 (by decide +kernel)) (goodIn_app (gl_c_size) (gl_nil _))))
set_option maxHeartbeats 4000000 in
set_option maxRecDepth 100000 in
theorem gl_c_M_keys : GoodIn lw_tbl wz_c_M_keys := goodIn_ca (goodIn_sub (by decide +kernel) (by decide +kernel)) (goodIn_app (goodIn_sub in_RX12 (by decide +kernel)) (gl_nil _))
set_option maxHeartbeats 4000000 in
set_option maxRecDepth 100000 in
theorem gl_c_X9_sumOf : GoodIn lw_tbl wz_c_X9_sumOf := goodIn_ca (goodIn_sub (by decide +kernel) (by decide +kernel)) (goodIn_app (goodIn_sub in_RX0 (by decide +kernel)) (gl_nil _))
set_option maxHeartbeats 4000000 in
set_option maxRecDepth 100000 in
theorem gl_c_X11_sum : GoodIn lw_tbl wz_c_X11_sum := goodIn_ca (goodIn_sub (by decide +kernel) (by decide +kernel)) (goodIn_app (goodIn_sub in_RX11 (by decide +kernel)) (goodIn_app (gl_c_X9_sumOf) (gl_nil _)))
set_option maxHeartbeats 4000000 in
set_option maxRecDepth 100000 in
theorem gl_c_M_sumOf : GoodIn lw_tbl wz_c_M_sumOf := goodIn_ca (goodIn_sub (by decide +kernel) (by decide +kernel)) (gl_nil _)
set_option maxHeartbeats 4000000 in
set_option maxRecDepth 100000 in
theorem gl_c_M_sum : GoodIn lw_tbl wz_c_M_sum := goodIn_ca (goodIn_sub (by decide +kernel) (by decide +kernel)) (goodIn_app (goodIn_sub in_RX12 (by decide +kernel)) (goodIn_app (gl_c_M_sumOf) (gl_nil _)))
set_option maxHeartbeats 4000000 in
set_option maxRecDepth 100000 in
theorem gl_c_X11_take : GoodIn lw_tbl wz_c_X11_take := goodIn_ca (goodIn_sub (by decide +kernel) (by decide +kernel)) (goodIn_app (goodIn_sub in_RX11 (by decide +kernel)) (goodIn_app (goodIn_sub in_RX0 (by decide +kernel)) (goodIn_app (gl_c_X0_pushSpan) (gl_nil _))))
set_option maxHeartbeats 4000000 in
set_option maxRecDepth 100000 in
theorem gl_c_M_take : GoodIn lw_tbl wz_c_M_take := goodIn_ca (goodIn_sub (by decide +kernel) (by decide +kernel)) (goodIn_app (goodIn_sub in_RX12 (by decide +kernel)) (gl_nil _))
set_option maxHeartbeats 4000000 in
set_option maxRecDepth 100000 in
theorem gl_c_X11_found : GoodIn lw_tbl wz_c_X11_found := goodIn_ca (goodIn_sub (by decide +kernel) (by decide +kernel)) (goodIn_app (goodIn_sub in_RX11 (by decide +kernel)) (goodIn_app (goodIn_sub in_RX7 (by decide +kernel)) (goodIn_app (gl_c_size) (gl_nil _))))
set_option maxHeartbeats 4000000 in
set_option maxRecDepth 100000 in
theorem gl_c_X11_key : GoodIn lw_tbl wz_c_X11_key := goodIn_ca (goodIn_sub (by decide +kernel) (by decide +kernel)) (goodIn_app (goodIn_sub (by decide +kernel) (by decide +kernel)) (goodIn_app (gl_c_X11_found) (gl_nil _)))
set_option maxHeartbeats 4000000 in
set_option maxRecDepth 100000 in
theorem gl_c_L_key : GoodIn lw_tbl wz_c_L_key := goodIn_ca (goodIn_sub (by decide +kernel) (by decide +kernel)) (goodIn_app (gl_c_X11_key) (gl_nil _))
set_option maxHeartbeats 4000000 in
set_option maxRecDepth 100000 in
theorem gl_c_M_placeOf : GoodIn lw_tbl wz_c_M_placeOf := goodIn_ca (goodIn_sub (by decide +kernel) (by decide +kernel)) (goodIn_app (goodIn_sub in_RX12 (by decide +kernel)) (gl_nil _))
set_option maxHeartbeats 4000000 in
set_option maxRecDepth 100000 in
theorem gl_c_M_key : GoodIn lw_tbl wz_c_M_key := goodIn_ca (goodIn_sub (by decide +kernel) (by decide +kernel)) (goodIn_app (goodIn_sub in_RX12 (by decide +kernel)) (goodIn_app (gl_c_M_placeOf) (gl_nil _)))
set_option maxHeartbeats 4000000 in
set_option maxRecDepth 100000 in
theorem gl_c_M_thrown : GoodIn lw_tbl wz_c_M_thrown := goodIn_ca (goodIn_sub (by decide +kernel) (by decide +kernel)) (goodIn_app (goodIn_sub in_RX12 (by decide +kernel)) (gl_nil _))
set_option maxHeartbeats 4000000 in
set_option maxRecDepth 100000 in
theorem gl_c_X11_print : GoodIn lw_tbl wz_c_X11_print := goodIn_ca (goodIn_sub (by decide +kernel) (by decide +kernel)) (goodIn_app (goodIn_sub (by decide +kernel) (by decide +kernel)) (goodIn_app (gl_c_X11_found) (gl_nil _)))
set_option maxHeartbeats 4000000 in
set_option maxRecDepth 100000 in
theorem gl_c_L_print : GoodIn lw_tbl wz_c_L_print := goodIn_ca (goodIn_sub (by decide +kernel) (by decide +kernel)) (goodIn_app (gl_c_X11_print) (gl_nil _))
set_option maxHeartbeats 4000000 in
set_option maxRecDepth 100000 in
theorem gl_c_M_thingOf : GoodIn lw_tbl wz_c_M_thingOf := goodIn_ca (goodIn_sub (by decide +kernel) (by decide +kernel)) (goodIn_app (gl_c_M_placeOf) (gl_nil _))
set_option maxHeartbeats 4000000 in
set_option maxRecDepth 100000 in
theorem gl_c_M_print : GoodIn lw_tbl wz_c_M_print := goodIn_ca (goodIn_sub (by decide +kernel) (by decide +kernel)) (goodIn_app (goodIn_sub in_RX12 (by decide +kernel)) (goodIn_app (gl_c_M_thingOf) (gl_nil _)))
set_option maxHeartbeats 4000000 in
set_option maxRecDepth 100000 in
theorem gl_c_X11_usable : GoodIn lw_tbl wz_c_X11_usable := goodIn_ca (goodIn_sub (by decide +kernel) (by decide +kernel)) (goodIn_app (goodIn_sub (by decide +kernel) (by decide +kernel)) (goodIn_app (gl_c_X11_found) (gl_nil _)))
set_option maxHeartbeats 4000000 in
set_option maxRecDepth 100000 in
theorem gl_c_L_usable : GoodIn lw_tbl wz_c_L_usable := goodIn_ca (goodIn_sub (by decide +kernel) (by decide +kernel)) (goodIn_app (gl_c_X11_usable) (gl_nil _))
set_option maxHeartbeats 4000000 in
set_option maxRecDepth 100000 in
theorem gl_c_M_usable : GoodIn lw_tbl wz_c_M_usable := goodIn_ca (goodIn_sub (by decide +kernel) (by decide +kernel)) (goodIn_app (goodIn_sub in_RX12 (by decide +kernel)) (goodIn_app (gl_c_M_thingOf) (gl_nil _)))
set_option maxHeartbeats 4000000 in
set_option maxRecDepth 100000 in
theorem gl_c_X11_seal : GoodIn lw_tbl wz_c_X11_seal := goodIn_ca (goodIn_sub (by decide +kernel) (by decide +kernel)) (goodIn_app (goodIn_sub (by decide +kernel) (by decide +kernel)) (goodIn_app (gl_c_X11_found) (gl_nil _)))
set_option maxHeartbeats 4000000 in
set_option maxRecDepth 100000 in
theorem gl_c_L_seal : GoodIn lw_tbl wz_c_L_seal := goodIn_ca (goodIn_sub (by decide +kernel) (by decide +kernel)) (goodIn_app (gl_c_X11_seal) (gl_nil _))
set_option maxHeartbeats 4000000 in
set_option maxRecDepth 100000 in
theorem gl_c_M_seal : GoodIn lw_tbl wz_c_M_seal := goodIn_ca (goodIn_sub (by decide +kernel) (by decide +kernel)) (goodIn_app (goodIn_sub in_RX12 (by decide +kernel)) (goodIn_app (gl_c_M_thingOf) (gl_nil _)))
set_option maxHeartbeats 4000000 in
set_option maxRecDepth 100000 in
theorem gl_c_X11_export : GoodIn lw_tbl wz_c_X11_export := goodIn_ca (goodIn_sub (by decide +kernel) (by decide +kernel)) (goodIn_app (goodIn_sub (by decide +kernel) (by decide +kernel)) (goodIn_app (gl_c_X11_found) (gl_nil _)))
set_option maxHeartbeats 4000000 in
set_option maxRecDepth 100000 in
theorem gl_c_L_export : GoodIn lw_tbl wz_c_L_export := goodIn_ca (goodIn_sub (by decide +kernel) (by decide +kernel)) (goodIn_app (gl_c_X11_export) (gl_nil _))
set_option maxHeartbeats 4000000 in
set_option maxRecDepth 100000 in
theorem gl_c_M_export : GoodIn lw_tbl wz_c_M_export := goodIn_ca (goodIn_sub (by decide +kernel) (by decide +kernel)) (goodIn_app (goodIn_sub in_RX12 (by decide +kernel)) (goodIn_app (gl_c_M_placeOf) (gl_nil _)))
set_option maxHeartbeats 4000000 in
set_option maxRecDepth 100000 in
theorem gl_c_X11_out : GoodIn lw_tbl wz_c_X11_out := goodIn_ca (goodIn_sub (by decide +kernel) (by decide +kernel)) (goodIn_app (goodIn_sub (by decide +kernel) (by decide +kernel)) (goodIn_app (goodIn_sub in_RX11 (by decide +kernel)) (goodIn_app (goodIn_sub in_RX0 (by decide +kernel)) (gl_nil _))))
set_option maxHeartbeats 4000000 in
set_option maxRecDepth 100000 in
theorem gl_c_L_out : GoodIn lw_tbl wz_c_L_out := goodIn_ca (goodIn_sub (by decide +kernel) (by decide +kernel)) (goodIn_app (gl_c_X11_out) (gl_nil _))
set_option maxHeartbeats 4000000 in
set_option maxRecDepth 100000 in
theorem gl_c_M_out : GoodIn lw_tbl wz_c_M_out := goodIn_ca (goodIn_sub (by decide +kernel) (by decide +kernel)) (goodIn_app (goodIn_sub in_RX12 (by decide +kernel)) (gl_nil _))
set_option maxHeartbeats 4000000 in
set_option maxRecDepth 100000 in
theorem gl_c_X11_drop : GoodIn lw_tbl wz_c_X11_drop := goodIn_ca (goodIn_sub (by decide +kernel) (by decide +kernel)) (goodIn_app (goodIn_sub (by decide +kernel) (by decide +kernel)) (goodIn_app (goodIn_sub in_RX11 (by decide +kernel)) (goodIn_app (goodIn_sub in_RX7 (by decide +kernel)) (goodIn_app (gl_c_size) (gl_nil _)))))
set_option maxHeartbeats 4000000 in
set_option maxRecDepth 100000 in
theorem gl_c_L_drop : GoodIn lw_tbl wz_c_L_drop := goodIn_ca (goodIn_sub (by decide +kernel) (by decide +kernel)) (goodIn_app (gl_c_X11_drop) (gl_nil _))
set_option maxHeartbeats 4000000 in
set_option maxRecDepth 100000 in
theorem gl_c_M_drop : GoodIn lw_tbl wz_c_M_drop := goodIn_ca (goodIn_sub (by decide +kernel) (by decide +kernel)) (goodIn_app (goodIn_sub in_RX12 (by decide +kernel)) (goodIn_app (gl_c_M_placeOf) (gl_nil _)))
set_option maxHeartbeats 4000000 in
set_option maxRecDepth 100000 in
theorem gl_c_X11_isTime_n : GoodIn lw_tbl wz_c_X11_isTime_n := goodIn_ca (goodIn_sub (by decide +kernel) (by decide +kernel)) (gl_nil _)
set_option maxHeartbeats 4000000 in
set_option maxRecDepth 100000 in
theorem gl_c_X11_look_n : GoodIn lw_tbl wz_c_X11_look_n := goodIn_ca (goodIn_sub (by decide +kernel) (by decide +kernel)) (goodIn_app (goodIn_sub (by decide +kernel) (by decide +kernel)) (goodIn_app (gl_c_X11_isTime_n) (gl_nil _)))
set_option maxHeartbeats 4000000 in
set_option maxRecDepth 100000 in
theorem gl_c_L_look_n : GoodIn lw_tbl wz_c_L_look_n := goodIn_ca (goodIn_sub (by decide +kernel) (by decide +kernel)) (goodIn_app (gl_c_X11_look_n) (gl_nil _))
set_option maxHeartbeats 4000000 in
set_option maxRecDepth 100000 in
theorem gl_c_M_isTime_n : GoodIn lw_tbl wz_c_M_isTime_n := goodIn_ca (goodIn_sub (by decide +kernel) (by decide +kernel)) (gl_nil _)
set_option maxHeartbeats 4000000 in
set_option maxRecDepth 100000 in
theorem gl_c_M_look_n : GoodIn lw_tbl wz_c_M_look_n := goodIn_ca (goodIn_sub (by decide +kernel) (by decide +kernel)) (goodIn_app (goodIn_sub in_RX12 (by decide +kernel)) (goodIn_app (gl_c_M_isTime_n) (gl_nil _)))
set_option maxHeartbeats 4000000 in
set_option maxRecDepth 100000 in
theorem gl_c_X11_isTime_m : GoodIn lw_tbl wz_c_X11_isTime_m := goodIn_ca (goodIn_sub (by decide +kernel) (by decide +kernel)) (gl_nil _)
set_option maxHeartbeats 4000000 in
set_option maxRecDepth 100000 in
theorem gl_c_X11_look_m : GoodIn lw_tbl wz_c_X11_look_m := goodIn_ca (goodIn_sub (by decide +kernel) (by decide +kernel)) (goodIn_app (goodIn_sub (by decide +kernel) (by decide +kernel)) (goodIn_app (gl_c_X11_isTime_m) (gl_nil _)))
set_option maxHeartbeats 4000000 in
set_option maxRecDepth 100000 in
theorem gl_c_L_look_m : GoodIn lw_tbl wz_c_L_look_m := goodIn_ca (goodIn_sub (by decide +kernel) (by decide +kernel)) (goodIn_app (gl_c_X11_look_m) (gl_nil _))
set_option maxHeartbeats 4000000 in
set_option maxRecDepth 100000 in
theorem gl_c_M_isTime_m : GoodIn lw_tbl wz_c_M_isTime_m := goodIn_ca (goodIn_sub (by decide +kernel) (by decide +kernel)) (gl_nil _)
set_option maxHeartbeats 4000000 in
set_option maxRecDepth 100000 in
theorem gl_c_M_look_m : GoodIn lw_tbl wz_c_M_look_m := goodIn_ca (goodIn_sub (by decide +kernel) (by decide +kernel)) (goodIn_app (goodIn_sub in_RX12 (by decide +kernel)) (goodIn_app (gl_c_M_isTime_m) (gl_nil _)))
set_option maxHeartbeats 4000000 in
set_option maxRecDepth 100000 in
theorem gl_c_X11_isTime_y : GoodIn lw_tbl wz_c_X11_isTime_y := goodIn_ca (goodIn_sub (by decide +kernel) (by decide +kernel)) (gl_nil _)
set_option maxHeartbeats 4000000 in
set_option maxRecDepth 100000 in
theorem gl_c_X10_view : GoodIn lw_tbl wz_c_X10_view := goodIn_ca (goodIn_sub (by decide +kernel) (by decide +kernel)) (goodIn_app (goodIn_sub in_RX10 (by decide +kernel)) (gl_nil _))
set_option maxHeartbeats 4000000 in
set_option maxRecDepth 100000 in
theorem gl_c_X10_at_empty : GoodIn lw_tbl wz_c_X10_at_empty := goodIn_ca (goodIn_sub (by decide +kernel) (by decide +kernel)) (goodIn_app (goodIn_sub in_RX0 (by decide +kernel)) (gl_nil _))
set_option maxHeartbeats 4000000 in
set_option maxRecDepth 100000 in
theorem gl_c_X4_read : GoodIn lw_tbl wz_c_X4_read := goodIn_ca (goodIn_sub (by decide +kernel) (by decide +kernel)) (goodIn_app (goodIn_sub in_RX4 (by decide +kernel)) (goodIn_app (goodIn_sub in_RX0 (by decide +kernel)) (goodIn_app (gl_c_X10_at_empty) (gl_nil _))))
set_option maxHeartbeats 4000000 in
set_option maxRecDepth 100000 in
theorem gl_c_X4_fault : GoodIn lw_tbl wz_c_X4_fault := goodIn_ca (goodIn_sub (by decide +kernel) (by decide +kernel)) (goodIn_app (goodIn_sub in_RX4 (by decide +kernel)) (gl_nil _))
set_option maxHeartbeats 4000000 in
set_option maxRecDepth 100000 in
theorem gl_c_X11_readSealed : GoodIn lw_tbl wz_c_X11_readSealed := goodIn_ca (goodIn_sub (by decide +kernel) (by decide +kernel)) (goodIn_app (goodIn_sub in_RX11 (by decide +kernel)) (goodIn_app (gl_c_X4_read) (goodIn_app (gl_c_X4_fault) (gl_nil _))))
set_option maxHeartbeats 4000000 in
set_option maxRecDepth 100000 in
theorem gl_c_X11_openLooked : GoodIn lw_tbl wz_c_X11_openLooked := goodIn_ca (goodIn_sub (by decide +kernel) (by decide +kernel)) (goodIn_app (goodIn_sub in_RX11 (by decide +kernel)) (goodIn_app (goodIn_sub in_RX0 (by decide +kernel)) (goodIn_app (gl_c_X10_view) (goodIn_app (gl_c_X4_open) (goodIn_app (gl_c_X11_isInSigns) (goodIn_app (gl_c_X11_readSealed) (gl_nil _)))))))
set_option maxHeartbeats 4000000 in
set_option maxRecDepth 100000 in
theorem gl_c_X11_look_y : GoodIn lw_tbl wz_c_X11_look_y := goodIn_ca (goodIn_sub (by decide +kernel) (by decide +kernel)) (goodIn_app (goodIn_sub in_RX11 (by decide +kernel)) (goodIn_app (goodIn_sub in_RX0 (by decide +kernel)) (goodIn_app (gl_c_X11_isTime_y) (goodIn_app (gl_c_X11_openLooked) (gl_nil _)))))
set_option maxHeartbeats 4000000 in
set_option maxRecDepth 100000 in
theorem gl_c_L_look_y : GoodIn lw_tbl wz_c_L_look_y := goodIn_ca (goodIn_sub (by decide +kernel) (by decide +kernel)) (goodIn_app (gl_c_X11_look_y) (gl_nil _))
set_option maxHeartbeats 4000000 in
set_option maxRecDepth 100000 in
theorem gl_c_M_isTime_y : GoodIn lw_tbl wz_c_M_isTime_y := goodIn_ca (goodIn_sub (by decide +kernel) (by decide +kernel)) (gl_nil _)
set_option maxHeartbeats 4000000 in
set_option maxRecDepth 100000 in
theorem gl_c_M_readCase : GoodIn lw_tbl wz_c_M_readCase := goodIn_ca (goodIn_sub (by decide +kernel) (by decide +kernel)) (goodIn_app (gl_c_M_fail) (gl_nil _))
set_option maxHeartbeats 4000000 in
set_option maxRecDepth 100000 in
theorem gl_c_M_look_y : GoodIn lw_tbl wz_c_M_look_y := goodIn_ca (goodIn_sub (by decide +kernel) (by decide +kernel)) (goodIn_app (goodIn_sub in_RX12 (by decide +kernel)) (goodIn_app (gl_c_M_isTime_y) (goodIn_app (gl_c_M_taken) (goodIn_app (gl_c_M_readCase) (gl_nil _)))))
set_option maxHeartbeats 4000000 in
set_option maxRecDepth 100000 in
theorem gl_c_X11_add_lo : GoodIn lw_tbl wz_c_X11_add_lo := goodIn_ca (goodIn_sub (by decide +kernel) (by decide +kernel)) (gl_nil _)
set_option maxHeartbeats 4000000 in
set_option maxRecDepth 100000 in
theorem gl_c_M_add_lo : GoodIn lw_tbl wz_c_M_add_lo := goodIn_ca (goodIn_sub (by decide +kernel) (by decide +kernel)) (goodIn_app (goodIn_sub in_RX12 (by decide +kernel)) (gl_nil _))
set_option maxHeartbeats 4000000 in
set_option maxRecDepth 100000 in
theorem gl_c_X11_add_hi : GoodIn lw_tbl wz_c_X11_add_hi := goodIn_ca (goodIn_sub (by decide +kernel) (by decide +kernel)) (gl_nil _)
set_option maxHeartbeats 4000000 in
set_option maxRecDepth 100000 in
theorem gl_c_M_add_hi : GoodIn lw_tbl wz_c_M_add_hi := goodIn_ca (goodIn_sub (by decide +kernel) (by decide +kernel)) (goodIn_app (goodIn_sub in_RX12 (by decide +kernel)) (gl_nil _))
set_option maxHeartbeats 4000000 in
set_option maxRecDepth 100000 in
theorem gl_c_X0_push : GoodIn lw_tbl wz_c_X0_push := goodIn_ca (goodIn_sub (by decide +kernel) (by decide +kernel)) (goodIn_app (goodIn_sub in_RX0 (by decide +kernel)) (gl_nil _))
set_option maxHeartbeats 4000000 in
set_option maxRecDepth 100000 in
theorem gl_c_X11_add_1 : GoodIn lw_tbl wz_c_X11_add_1 := goodIn_ca (goodIn_sub (by decide +kernel) (by decide +kernel)) (goodIn_app (goodIn_sub in_RX11 (by decide +kernel)) (goodIn_app (goodIn_sub in_RX0 (by decide +kernel)) (goodIn_app (gl_c_X0_push) (gl_nil _))))
set_option maxHeartbeats 4000000 in
set_option maxRecDepth 100000 in
theorem gl_c_M_add_1 : GoodIn lw_tbl wz_c_M_add_1 := goodIn_ca (goodIn_sub (by decide +kernel) (by decide +kernel)) (goodIn_app (goodIn_sub in_RX12 (by decide +kernel)) (gl_nil _))
set_option maxHeartbeats 4000000 in
set_option maxRecDepth 100000 in
theorem gl_c_X11_add_2 : GoodIn lw_tbl wz_c_X11_add_2 := goodIn_ca (goodIn_sub (by decide +kernel) (by decide +kernel)) (goodIn_app (goodIn_sub in_RX11 (by decide +kernel)) (goodIn_app (goodIn_sub in_RX0 (by decide +kernel)) (goodIn_app (gl_c_X0_push) (gl_nil _))))
set_option maxHeartbeats 4000000 in
set_option maxRecDepth 100000 in
theorem gl_c_M_add_2 : GoodIn lw_tbl wz_c_M_add_2 := goodIn_ca (goodIn_sub (by decide +kernel) (by decide +kernel)) (goodIn_app (goodIn_sub in_RX12 (by decide +kernel)) (gl_nil _))
set_option maxHeartbeats 4000000 in
set_option maxRecDepth 100000 in
theorem gl_c_X11_add_3 : GoodIn lw_tbl wz_c_X11_add_3 := goodIn_ca (goodIn_sub (by decide +kernel) (by decide +kernel)) (goodIn_app (goodIn_sub in_RX11 (by decide +kernel)) (goodIn_app (goodIn_sub in_RX0 (by decide +kernel)) (goodIn_app (gl_c_X0_push) (gl_nil _))))
set_option maxHeartbeats 4000000 in
set_option maxRecDepth 100000 in
theorem gl_c_M_add_3 : GoodIn lw_tbl wz_c_M_add_3 := goodIn_ca (goodIn_sub (by decide +kernel) (by decide +kernel)) (goodIn_app (goodIn_sub in_RX12 (by decide +kernel)) (gl_nil _))
set_option maxHeartbeats 4000000 in
set_option maxRecDepth 100000 in
theorem gl_c_X11_add_4 : GoodIn lw_tbl wz_c_X11_add_4 := goodIn_ca (goodIn_sub (by decide +kernel) (by decide +kernel)) (goodIn_app (goodIn_sub in_RX11 (by decide +kernel)) (goodIn_app (goodIn_sub in_RX0 (by decide +kernel)) (goodIn_app (gl_c_X0_push) (gl_nil _))))
set_option maxHeartbeats 4000000 in
set_option maxRecDepth 100000 in
theorem gl_c_M_add_4 : GoodIn lw_tbl wz_c_M_add_4 := goodIn_ca (goodIn_sub (by decide +kernel) (by decide +kernel)) (goodIn_app (goodIn_sub in_RX12 (by decide +kernel)) (gl_nil _))
set_option maxHeartbeats 4000000 in
set_option maxRecDepth 100000 in
theorem gl_c_X11_add_5 : GoodIn lw_tbl wz_c_X11_add_5 := goodIn_ca (goodIn_sub (by decide +kernel) (by decide +kernel)) (goodIn_app (goodIn_sub in_RX11 (by decide +kernel)) (goodIn_app (goodIn_sub in_RX0 (by decide +kernel)) (goodIn_app (gl_c_X0_push) (gl_nil _))))
set_option maxHeartbeats 4000000 in
set_option maxRecDepth 100000 in
theorem gl_c_M_add_5 : GoodIn lw_tbl wz_c_M_add_5 := goodIn_ca (goodIn_sub (by decide +kernel) (by decide +kernel)) (goodIn_app (goodIn_sub in_RX12 (by decide +kernel)) (gl_nil _))
set_option maxHeartbeats 4000000 in
set_option maxRecDepth 100000 in
theorem gl_c_X11_add_6 : GoodIn lw_tbl wz_c_X11_add_6 := goodIn_ca (goodIn_sub (by decide +kernel) (by decide +kernel)) (goodIn_app (goodIn_sub in_RX11 (by decide +kernel)) (goodIn_app (goodIn_sub in_RX0 (by decide +kernel)) (goodIn_app (gl_c_X0_push) (gl_nil _))))
set_option maxHeartbeats 4000000 in
set_option maxRecDepth 100000 in
theorem gl_c_M_add_6 : GoodIn lw_tbl wz_c_M_add_6 := goodIn_ca (goodIn_sub (by decide +kernel) (by decide +kernel)) (goodIn_app (goodIn_sub in_RX12 (by decide +kernel)) (gl_nil _))
set_option maxHeartbeats 4000000 in
set_option maxRecDepth 100000 in
theorem gl_c_X11_add_7 : GoodIn lw_tbl wz_c_X11_add_7 := goodIn_ca (goodIn_sub (by decide +kernel) (by decide +kernel)) (goodIn_app (goodIn_sub in_RX11 (by decide +kernel)) (goodIn_app (goodIn_sub in_RX0 (by decide +kernel)) (goodIn_app (gl_c_X0_push) (gl_nil _))))
set_option maxHeartbeats 4000000 in
set_option maxRecDepth 100000 in
theorem gl_c_M_add_7 : GoodIn lw_tbl wz_c_M_add_7 := goodIn_ca (goodIn_sub (by decide +kernel) (by decide +kernel)) (goodIn_app (goodIn_sub in_RX12 (by decide +kernel)) (gl_nil _))
set_option maxHeartbeats 4000000 in
set_option maxRecDepth 100000 in
theorem gl_c_X11_add_8 : GoodIn lw_tbl wz_c_X11_add_8 := goodIn_ca (goodIn_sub (by decide +kernel) (by decide +kernel)) (goodIn_app (goodIn_sub in_RX11 (by decide +kernel)) (goodIn_app (goodIn_sub in_RX0 (by decide +kernel)) (goodIn_app (gl_c_X0_push) (gl_nil _))))
set_option maxHeartbeats 4000000 in
set_option maxRecDepth 100000 in
theorem gl_c_M_add_8 : GoodIn lw_tbl wz_c_M_add_8 := goodIn_ca (goodIn_sub (by decide +kernel) (by decide +kernel)) (goodIn_app (goodIn_sub in_RX12 (by decide +kernel)) (gl_nil _))
set_option maxHeartbeats 4000000 in
set_option maxRecDepth 100000 in
theorem gl_c_X10_init_X0 : GoodIn lw_tbl wz_c_X10_init_X0 := goodIn_ca (goodIn_sub (by decide +kernel) (by decide +kernel)) (goodIn_app (goodIn_sub in_RX0 (by decide +kernel)) (gl_nil _))
set_option maxHeartbeats 4000000 in
set_option maxRecDepth 100000 in
theorem gl_c_X0_init_4096 : GoodIn lw_tbl wz_c_X0_init_4096 := goodIn_ca (goodIn_sub (by decide +kernel) (by decide +kernel)) (goodIn_app (gl_c_X10_init_X0) (gl_nil _))
set_option maxHeartbeats 4000000 in
set_option maxRecDepth 100000 in
theorem gl_c_X0_init_1024 : GoodIn lw_tbl wz_c_X0_init_1024 := goodIn_ca (goodIn_sub (by decide +kernel) (by decide +kernel)) (goodIn_app (gl_c_X10_init_X0) (gl_nil _))
set_option maxHeartbeats 4000000 in
set_option maxRecDepth 100000 in
theorem gl_c_X0_init_256 : GoodIn lw_tbl wz_c_X0_init_256 := goodIn_ca (goodIn_sub (by decide +kernel) (by decide +kernel)) (goodIn_app (gl_c_X10_init_X0) (gl_nil _))
set_option maxHeartbeats 4000000 in
set_option maxRecDepth 100000 in
theorem gl_c_X10_init_X10 : GoodIn lw_tbl wz_c_X10_init_X10 := goodIn_ca (goodIn_sub (by decide +kernel) (by decide +kernel)) (goodIn_app (goodIn_sub in_RX10 (by decide +kernel)) (gl_nil _))
set_option maxHeartbeats 4000000 in
set_option maxRecDepth 100000 in
theorem gl_c_X4_init : GoodIn lw_tbl wz_c_X4_init := goodIn_ca (goodIn_sub (by decide +kernel) (by decide +kernel)) (goodIn_app (goodIn_sub in_RX10 (by decide +kernel)) (goodIn_app (goodIn_sub in_RX4 (by decide +kernel)) (goodIn_app (goodIn_sub in_RX0 (by decide +kernel)) (goodIn_app (gl_c_X10_init_X10) (goodIn_app (gl_c_X0_init_256) (gl_nil _))))))
set_option maxHeartbeats 4000000 in
set_option maxRecDepth 100000 in
theorem gl_c_X9_init : GoodIn lw_tbl wz_c_X9_init := goodIn_ca (goodIn_sub (by decide +kernel) (by decide +kernel)) (goodIn_app (goodIn_sub in_RX0 (by decide +kernel)) (goodIn_app (goodIn_sub in_RX9 (by decide +kernel)) (goodIn_app (gl_c_X0_init_1024) (gl_nil _))))
set_option maxHeartbeats 4000000 in
set_option maxRecDepth 100000 in
theorem gl_c_X1_init : GoodIn lw_tbl wz_c_X1_init := goodIn_ca (goodIn_sub (by decide +kernel) (by decide +kernel)) (goodIn_app (goodIn_sub in_RX1 (by decide +kernel)) (gl_nil _))
set_option maxHeartbeats 4000000 in
set_option maxRecDepth 100000 in
theorem gl_c_AbsColl_init : GoodIn lw_tbl wz_c_AbsColl_init := goodIn_ca (goodIn_sub (by decide +kernel) (by decide +kernel)) (gl_nil _)
set_option maxHeartbeats 4000000 in
set_option maxRecDepth 100000 in
theorem gl_c_AbsList_init : GoodIn lw_tbl wz_c_AbsList_init := goodIn_ca (goodIn_sub (by decide +kernel) (by decide +kernel)) (goodIn_app (goodIn_sub in_RJx4a65c (by decide +kernel)) (goodIn_app (gl_c_AbsColl_init) (gl_nil _)))
set_option maxHeartbeats 4000000 in
set_option maxRecDepth 100000 in
theorem gl_c_ArrayList_init : GoodIn lw_tbl wz_c_ArrayList_init := goodIn_ca (goodIn_sub (by decide +kernel) (by decide +kernel)) (goodIn_app (goodIn_sub in_RJx4a65c (by decide +kernel)) (goodIn_app (gl_c_AbsList_init) (gl_nil _)))
set_option maxHeartbeats 4000000 in
set_option maxRecDepth 100000 in
theorem gl_c_X10_init_X3 : GoodIn lw_tbl wz_c_X10_init_X3 := goodIn_ca (goodIn_sub (by decide +kernel) (by decide +kernel)) (goodIn_app (goodIn_sub in_RX3 (by decide +kernel)) (gl_nil _))
set_option maxHeartbeats 4000000 in
set_option maxRecDepth 100000 in
theorem gl_c_X5_init : GoodIn lw_tbl wz_c_X5_init := goodIn_ca (goodIn_sub (by decide +kernel) (by decide +kernel)) (goodIn_app (goodIn_sub in_RJx4a65c (by decide +kernel)) (goodIn_app (goodIn_sub in_RX3 (by decide +kernel)) (goodIn_app (gl_c_X10_init_X3) (goodIn_app (gl_c_ArrayList_init) (gl_nil _)))))
set_option maxHeartbeats 4000000 in
set_option maxRecDepth 100000 in
theorem gl_c_X3_init : GoodIn lw_tbl wz_c_X3_init := goodIn_ca (goodIn_sub (by decide +kernel) (by decide +kernel)) (goodIn_app (goodIn_sub in_RJx4a65c (by decide +kernel)) (goodIn_app (goodIn_sub in_RX3 (by decide +kernel)) (goodIn_app (gl_c_X5_init) (goodIn_app (gl_c_ArrayList_init) (gl_nil _)))))
set_option maxHeartbeats 4000000 in
set_option maxRecDepth 100000 in
theorem gl_c_X10_init_X8 : GoodIn lw_tbl wz_c_X10_init_X8 := goodIn_ca (goodIn_sub (by decide +kernel) (by decide +kernel)) (goodIn_app (goodIn_sub in_RX8 (by decide +kernel)) (gl_nil _))
set_option maxHeartbeats 4000000 in
set_option maxRecDepth 100000 in
theorem gl_c_X8_init : GoodIn lw_tbl wz_c_X8_init := goodIn_ca (goodIn_sub (by decide +kernel) (by decide +kernel)) (goodIn_app (gl_c_X10_init_X8) (gl_nil _))
set_option maxHeartbeats 4000000 in
set_option maxRecDepth 100000 in
theorem gl_c_X7_init : GoodIn lw_tbl wz_c_X7_init := goodIn_ca (goodIn_sub (by decide +kernel) (by decide +kernel)) (goodIn_app (goodIn_sub in_RJx4a65c (by decide +kernel)) (goodIn_app (goodIn_sub in_RX7 (by decide +kernel)) (goodIn_app (goodIn_sub in_RX1 (by decide +kernel)) (goodIn_app (goodIn_sub in_RX0 (by decide +kernel)) (goodIn_app (goodIn_sub in_RX3 (by decide +kernel)) (goodIn_app (goodIn_sub in_RX8 (by decide +kernel)) (goodIn_app (gl_c_ArrayList_init) (goodIn_app (gl_c_X1_init) (goodIn_app (gl_c_X0_init_256) (goodIn_app (gl_c_X3_init) (goodIn_app (gl_c_X8_init) (gl_nil _))))))))))))
set_option maxHeartbeats 4000000 in
set_option maxRecDepth 100000 in
theorem gl_c_X6_init : GoodIn lw_tbl wz_c_X6_init := goodIn_ca (goodIn_sub (by decide +kernel) (by decide +kernel)) (goodIn_app (goodIn_sub in_RX6 (by decide +kernel)) (gl_nil _))
set_option maxHeartbeats 4000000 in
set_option maxRecDepth 100000 in
theorem gl_c_X0_init_128 : GoodIn lw_tbl wz_c_X0_init_128 := goodIn_ca (goodIn_sub (by decide +kernel) (by decide +kernel)) (goodIn_app (gl_c_X10_init_X0) (gl_nil _))
set_option maxHeartbeats 4000000 in
set_option maxRecDepth 100000 in
theorem gl_c_X2_init : GoodIn lw_tbl wz_c_X2_init := goodIn_ca (goodIn_sub (by decide +kernel) (by decide +kernel)) (goodIn_app (goodIn_sub in_RX1 (by decide +kernel)) (goodIn_app (goodIn_sub in_RX2 (by decide +kernel)) (goodIn_app (goodIn_sub in_RX0 (by decide +kernel)) (goodIn_app (goodIn_sub in_RX6 (by decide +kernel)) (goodIn_app (goodIn_sub in_RX8 (by decide +kernel)) (goodIn_app (gl_c_X1_init) (goodIn_app (gl_c_X0_init_1024) (goodIn_app (gl_c_X6_init) (goodIn_app (gl_c_X0_init_128) (goodIn_app (gl_c_X8_init) (gl_nil _)))))))))))
set_option maxHeartbeats 4000000 in
set_option maxRecDepth 100000 in
theorem gl_c_X11_init : GoodIn lw_tbl wz_c_X11_init := goodIn_ca (goodIn_sub (by decide +kernel) (by decide +kernel)) (goodIn_app (goodIn_sub in_RX0 (by decide +kernel)) (goodIn_app (goodIn_sub in_RX11 (by decide +kernel)) (goodIn_app (goodIn_sub in_RX10 (by decide +kernel)) (goodIn_app (goodIn_sub in_RX4 (by decide +kernel)) (goodIn_app (goodIn_sub in_RX9 (by decide +kernel)) (goodIn_app (goodIn_sub in_RX1 (by decide +kernel)) (goodIn_app (goodIn_sub in_RX7 (by decide +kernel)) (goodIn_app (goodIn_sub in_RX2 (by decide +kernel)) (goodIn_app (goodIn_sub in_RX8 (by decide +kernel)) (goodIn_app (gl_c_X0_init_4096) (goodIn_app (gl_c_X0_init_1024) (goodIn_app (gl_c_X0_init_256) (goodIn_app (gl_c_X10_init_X10) (goodIn_app (gl_c_X4_init) (goodIn_app (gl_c_X9_init) (goodIn_app (gl_c_X1_init) (goodIn_app (gl_c_X7_init) (goodIn_app (gl_c_X2_init) (goodIn_app (gl_c_X8_init) (gl_nil _))))))))))))))))))))
set_option maxHeartbeats 4000000 in
set_option maxRecDepth 100000 in
theorem gl_c_X12_init : GoodIn lw_tbl wz_c_X12_init := goodIn_ca (goodIn_sub (by decide +kernel) (by decide +kernel)) (goodIn_app (goodIn_sub in_RX12 (by decide +kernel)) (gl_nil _))

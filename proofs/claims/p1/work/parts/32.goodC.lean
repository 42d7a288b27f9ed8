theorem gl_c_chr1_o_4 : GoodIn zt wz_c_chr1_o_4 := gl_c_chr1_o_11
theorem gl_c_chr_o_4 : GoodIn zt wz_c_chr_o_4 := gl_c_chr_o_11
theorem gl_c_X0_pushText_4 : GoodIn zt wz_c_X0_pushText_4 := gl_c_X0_pushText_11
set_option maxHeartbeats 4000000 in
set_option maxRecDepth 100000 in
theorem gl_c_X9_write_1 : GoodIn zt wz_c_X9_write_1 := goodIn_ca (zz_sub (js := [486, 487, 479, 480, 29, 252, 253, 32, 284, 228, 229, 86, 280, 281, 488, 489]) (by decide +kernel) (by decide +kernel)) (goodIn_app (gu_RX0) (goodIn_app (gl_c_X0_pushText_11) (goodIn_app (gl_c_X9_label_1) (goodIn_app (gl_c_X0_pushText_4) (goodIn_app (gl_c_X0_pushText_5) (goodIn_app (gl_c_X0_push) (goodIn_app (gl_c_X9_sumOf) (goodIn_app (gl_c_X9_writeGroup) (goodIn_app (gl_c_X0_pushText_9) (gl_nil _))))))))))
set_option maxHeartbeats 4000000 in
set_option maxRecDepth 100000 in
theorem gl_c_X11_armor_1 : GoodIn zt wz_c_X11_armor_1 := goodIn_ca (zz_sub (js := [503, 223, 82, 81, 224, 484, 485, 32]) (by decide +kernel) (by decide +kernel)) (goodIn_app (gu_RX11) (goodIn_app (gu_RX0) (goodIn_app (gl_c_X9_write_1) (gl_nil _))))
set_option maxHeartbeats 4000000 in
set_option maxRecDepth 100000 in
theorem gl_c_L_armor_1 : GoodIn zt wz_c_L_armor_1 := goodIn_ca (zz_sub (js := [499, 500, 501, 502, 27]) (by decide +kernel) (by decide +kernel)) (goodIn_app (gl_c_X11_armor_1) (gl_nil _))
theorem gl_c_M_label_1 : GoodIn zt wz_c_M_label_1 := gl_c_M_label_0
theorem gl_c_ens_16_15 : GoodIn zt wz_c_ens_16_15 := gl_c_ens_16_11
theorem gl_c_getBytes_8_11_16 : GoodIn zt wz_c_getBytes_8_11_16 := gl_c_getBytes_6_0_16
theorem gl_c_putStr_8_11_16 : GoodIn zt wz_c_putStr_8_11_16 := gl_c_putStr_6_0_16
theorem gl_c_ASBapp_8_11_16 : GoodIn zt wz_c_ASBapp_8_11_16 := gl_c_ASBapp_6_0_16
theorem gl_c_SBapp_8_11_16 : GoodIn zt wz_c_SBapp_8_11_16 := gl_c_SBapp_6_0_16
theorem gl_c_copyOf_b1 : GoodIn zt wz_c_copyOf_b1 := gl_c_copyOf_b0
theorem gl_c_ens_b1 : GoodIn zt wz_c_ens_b1 := gl_c_ens_b0
theorem gl_c_getBytes_10_15_34 : GoodIn zt wz_c_getBytes_10_15_34 := gl_c_getBytes_6_0_16
theorem gl_c_putStr_10_15_34 : GoodIn zt wz_c_putStr_10_15_34 := gl_c_putStr_6_0_16
theorem gl_c_ASBapp_b1 : GoodIn zt wz_c_ASBapp_b1 := gl_c_ASBapp_b0
theorem gl_c_SBapp_b1 : GoodIn zt wz_c_SBapp_b1 := gl_c_SBapp_b0
theorem gl_c_chkLen_20 : GoodIn zt wz_c_chkLen_20 := gl_c_chkLen_27
theorem gl_c_cRB_b1 : GoodIn zt wz_c_cRB_b1 := gl_c_cRB_b0
theorem gl_c_cR_b1 : GoodIn zt wz_c_cR_b1 := gl_c_cR_b0
theorem gl_c_Si1_b1 : GoodIn zt wz_c_Si1_b1 := gl_c_Si1_b0
theorem gl_c_Si2_b1 : GoodIn zt wz_c_Si2_b1 := gl_c_Si2_b0
theorem gl_c_toS_b1 : GoodIn zt wz_c_toS_b1 := gl_c_toS_b0
theorem gl_c_len_w_20 : GoodIn zt wz_c_len_w_20 := gl_c_len_w_27
theorem gl_c_chkN_20 : GoodIn zt wz_c_chkN_20 := gl_c_chkN_11
theorem gl_c_chkR_20 : GoodIn zt wz_c_chkR_20 := gl_c_chkN_11
theorem gl_c_chk_20 : GoodIn zt wz_c_chk_20 := gl_c_chk_11
theorem gl_c_chr1_w_20 : GoodIn zt wz_c_chr1_w_20 := gl_c_chr1_o_11
theorem gl_c_chr_w_20 : GoodIn zt wz_c_chr_w_20 := gl_c_chr_w_27
theorem gl_c_M_putText_20 : GoodIn zt wz_c_M_putText_20 := gl_c_M_putText_27
theorem gl_c_ens_16_13 : GoodIn zt wz_c_ens_16_13 := gl_c_ens_16_11
theorem gl_c_getBytes_8_9_16 : GoodIn zt wz_c_getBytes_8_9_16 := gl_c_getBytes_6_0_16
theorem gl_c_putStr_8_9_16 : GoodIn zt wz_c_putStr_8_9_16 := gl_c_putStr_6_0_16
theorem gl_c_ASBapp_8_9_16 : GoodIn zt wz_c_ASBapp_8_9_16 := gl_c_ASBapp_6_0_16
theorem gl_c_SBapp_8_9_16 : GoodIn zt wz_c_SBapp_8_9_16 := gl_c_SBapp_6_0_16
theorem gl_c_newLen_18 : GoodIn zt wz_c_newLen_18 := gl_c_newLen_22
theorem gl_c_newCap_18 : GoodIn zt wz_c_newCap_18 := gl_c_newCap_22
theorem gl_c_copyOf_e1 : GoodIn zt wz_c_copyOf_e1 := gl_c_copyOf_b0
theorem gl_c_ens_e1 : GoodIn zt wz_c_ens_e1 := gl_c_ens_b0
theorem gl_c_getBytes_10_13_34 : GoodIn zt wz_c_getBytes_10_13_34 := gl_c_getBytes_6_0_16
theorem gl_c_putStr_10_13_34 : GoodIn zt wz_c_putStr_10_13_34 := gl_c_putStr_6_0_16
theorem gl_c_ASBapp_e1 : GoodIn zt wz_c_ASBapp_e1 := gl_c_ASBapp_b0
theorem gl_c_SBapp_e1 : GoodIn zt wz_c_SBapp_e1 := gl_c_SBapp_b0
theorem gl_c_chkLen_18 : GoodIn zt wz_c_chkLen_18 := gl_c_chkLen_27
theorem gl_c_cRB_e1 : GoodIn zt wz_c_cRB_e1 := gl_c_cRB_b0
theorem gl_c_cR_e1 : GoodIn zt wz_c_cR_e1 := gl_c_cR_b0
theorem gl_c_Si1_e1 : GoodIn zt wz_c_Si1_e1 := gl_c_Si1_b0
theorem gl_c_Si2_e1 : GoodIn zt wz_c_Si2_e1 := gl_c_Si2_b0
theorem gl_c_toS_e1 : GoodIn zt wz_c_toS_e1 := gl_c_toS_b0
theorem gl_c_len_w_18 : GoodIn zt wz_c_len_w_18 := gl_c_len_w_27
theorem gl_c_chkN_18 : GoodIn zt wz_c_chkN_18 := gl_c_chkN_11
theorem gl_c_chkR_18 : GoodIn zt wz_c_chkR_18 := gl_c_chkN_11
theorem gl_c_chk_18 : GoodIn zt wz_c_chk_18 := gl_c_chk_11
theorem gl_c_chr1_w_18 : GoodIn zt wz_c_chr1_w_18 := gl_c_chr1_o_11
theorem gl_c_chr_w_18 : GoodIn zt wz_c_chr_w_18 := gl_c_chr_w_27
theorem gl_c_M_putText_18 : GoodIn zt wz_c_M_putText_18 := gl_c_M_putText_27
set_option maxHeartbeats 4000000 in
set_option maxRecDepth 100000 in
theorem gl_c_M_putSigns_1 : GoodIn zt wz_c_M_putSigns_1 := goodIn_ca (zz_sub (js := [668, 571, 319, 51, 572, 320, 573, 348, 349, 574, 575, 43, 577, 367, 368, 660, 661, 24, 663, 664, 25, 580, 581, 669, 670]) (by decide +kernel) (by decide +kernel)) (goodIn_app (gu_RJ4) (goodIn_app (gl_c_SB_init) (goodIn_app (gl_c_SBapp_6_0_16) (goodIn_app (gl_c_M_label_1) (goodIn_app (gl_c_SBapp_8_11_16) (goodIn_app (gl_c_SBapp_b1) (goodIn_app (gl_c_toS_b1) (goodIn_app (gl_c_M_putText_20) (goodIn_app (gl_c_M_put) (goodIn_app (gl_c_M_sumOf) (goodIn_app (gl_c_M_signOf_45) (goodIn_app (gl_c_M_signOf_48) (goodIn_app (gl_c_M_signOf_19) (goodIn_app (gl_c_M_signOf_14) (goodIn_app (gl_c_SBapp_11_0_16) (goodIn_app (gl_c_SBapp_8_9_16) (goodIn_app (gl_c_SBapp_e1) (goodIn_app (gl_c_toS_e1) (goodIn_app (gl_c_M_putText_18) (gl_nil _))))))))))))))))))))
set_option maxHeartbeats 4000000 in
set_option maxRecDepth 100000 in
theorem gl_c_M_armor_1 : GoodIn zt wz_c_M_armor_1 := goodIn_ca (zz_sub (js := [673, 530, 526, 531, 565, 566, 43, 666, 667, 26]) (by decide +kernel) (by decide +kernel)) (goodIn_app (gu_RX12) (goodIn_app (gl_c_M_part0) (goodIn_app (gl_c_M_putSigns_1) (gl_nil _))))
theorem gl_c_X9_label_2 : GoodIn zt wz_c_X9_label_2 := gl_c_X9_label_0
theorem gl_c_len_o_13 : GoodIn zt wz_c_len_o_13 := gl_c_len_o_11
theorem gl_c_chkN_13 : GoodIn zt wz_c_chkN_13 := gl_c_chkN_11
theorem gl_c_chkR_13 : GoodIn zt wz_c_chkR_13 := gl_c_chkN_11
theorem gl_c_chk_13 : GoodIn zt wz_c_chk_13 := gl_c_chk_11
theorem gl_c_chr1_o_13 : GoodIn zt wz_c_chr1_o_13 := gl_c_chr1_o_11
theorem gl_c_chr_o_13 : GoodIn zt wz_c_chr_o_13 := gl_c_chr_o_11
theorem gl_c_X0_pushText_13 : GoodIn zt wz_c_X0_pushText_13 := gl_c_X0_pushText_11
theorem gl_c_X9_write_2 : GoodIn zt wz_c_X9_write_2 := gl_c_X9_write_1
theorem gl_c_X11_armor_2 : GoodIn zt wz_c_X11_armor_2 := gl_c_X11_armor_1
theorem gl_c_L_armor_2 : GoodIn zt wz_c_L_armor_2 := gl_c_L_armor_1
theorem gl_c_M_label_2 : GoodIn zt wz_c_M_label_2 := gl_c_M_label_0
theorem gl_c_newLen_24 : GoodIn zt wz_c_newLen_24 := gl_c_newLen_22
theorem gl_c_newCap_24 : GoodIn zt wz_c_newCap_24 := gl_c_newCap_22
theorem gl_c_ens_b2 : GoodIn zt wz_c_ens_b2 := gl_c_ens_b0
theorem gl_c_getBytes_9_11_34 : GoodIn zt wz_c_getBytes_9_11_34 := gl_c_getBytes_6_0_16
theorem gl_c_putStr_9_11_34 : GoodIn zt wz_c_putStr_9_11_34 := gl_c_putStr_6_0_16
theorem gl_c_ASBapp_b2 : GoodIn zt wz_c_ASBapp_b2 := gl_c_ASBapp_b0
theorem gl_c_SBapp_b2 : GoodIn zt wz_c_SBapp_b2 := gl_c_SBapp_b0
theorem gl_c_ens_34_29 : GoodIn zt wz_c_ens_34_29 := gl_c_ens_16_11
theorem gl_c_getBytes_10_24_34 : GoodIn zt wz_c_getBytes_10_24_34 := gl_c_getBytes_6_0_16
theorem gl_c_putStr_10_24_34 : GoodIn zt wz_c_putStr_10_24_34 := gl_c_putStr_6_0_16
theorem gl_c_ASBapp_10_24_34 : GoodIn zt wz_c_ASBapp_10_24_34 := gl_c_ASBapp_6_0_16
theorem gl_c_SBapp_10_24_34 : GoodIn zt wz_c_SBapp_10_24_34 := gl_c_SBapp_6_0_16
theorem gl_c_chkLen_29 : GoodIn zt wz_c_chkLen_29 := gl_c_chkLen_27
theorem gl_c_cRB_b2 : GoodIn zt wz_c_cRB_b2 := gl_c_cRB_b0
theorem gl_c_cR_b2 : GoodIn zt wz_c_cR_b2 := gl_c_cR_b0
theorem gl_c_Si1_b2 : GoodIn zt wz_c_Si1_b2 := gl_c_Si1_b0
theorem gl_c_Si2_b2 : GoodIn zt wz_c_Si2_b2 := gl_c_Si2_b0
theorem gl_c_toS_b2 : GoodIn zt wz_c_toS_b2 := gl_c_toS_b0
theorem gl_c_len_w_29 : GoodIn zt wz_c_len_w_29 := gl_c_len_w_27
theorem gl_c_chkN_29 : GoodIn zt wz_c_chkN_29 := gl_c_chkN_11
theorem gl_c_chkR_29 : GoodIn zt wz_c_chkR_29 := gl_c_chkN_11
theorem gl_c_chk_29 : GoodIn zt wz_c_chk_29 := gl_c_chk_11
theorem gl_c_chr1_w_29 : GoodIn zt wz_c_chr1_w_29 := gl_c_chr1_o_11
theorem gl_c_chr_w_29 : GoodIn zt wz_c_chr_w_29 := gl_c_chr_w_27
theorem gl_c_M_putText_29 : GoodIn zt wz_c_M_putText_29 := gl_c_M_putText_27
theorem gl_c_ens_e2 : GoodIn zt wz_c_ens_e2 := gl_c_ens_b0
theorem gl_c_getBytes_9_9_34 : GoodIn zt wz_c_getBytes_9_9_34 := gl_c_getBytes_6_0_16
theorem gl_c_putStr_9_9_34 : GoodIn zt wz_c_putStr_9_9_34 := gl_c_putStr_6_0_16
theorem gl_c_ASBapp_e2 : GoodIn zt wz_c_ASBapp_e2 := gl_c_ASBapp_b0
theorem gl_c_SBapp_e2 : GoodIn zt wz_c_SBapp_e2 := gl_c_SBapp_b0
theorem gl_c_cRB_e2 : GoodIn zt wz_c_cRB_e2 := gl_c_cRB_b0
theorem gl_c_cR_e2 : GoodIn zt wz_c_cR_e2 := gl_c_cR_b0
theorem gl_c_Si1_e2 : GoodIn zt wz_c_Si1_e2 := gl_c_Si1_b0
theorem gl_c_Si2_e2 : GoodIn zt wz_c_Si2_e2 := gl_c_Si2_b0
theorem gl_c_toS_e2 : GoodIn zt wz_c_toS_e2 := gl_c_toS_b0
theorem gl_c_M_putSigns_2 : GoodIn zt wz_c_M_putSigns_2 := gl_c_M_putSigns_0
theorem gl_c_M_armor_2 : GoodIn zt wz_c_M_armor_2 := gl_c_M_armor_0
set_option maxHeartbeats 4000000 in
set_option maxRecDepth 100000 in
theorem gl_c_X11_hash_w : GoodIn zt wz_c_X11_hash_w := goodIn_ca (zz_sub (js := [520, 443, 49]) (by decide +kernel) (by decide +kernel)) (goodIn_app (gc_2) (gl_nil _))
set_option maxHeartbeats 4000000 in
set_option maxRecDepth 100000 in
theorem gl_c_L_hash_w : GoodIn zt wz_c_L_hash_w := goodIn_ca (zz_sub (js := [516, 517, 518, 519, 27, 434]) (by decide +kernel) (by decide +kernel)) (goodIn_app (gl_c_X11_hash_w) (gl_nil _))
set_option maxHeartbeats 4000000 in
set_option maxRecDepth 100000 in
theorem gl_c_M_hash_w : GoodIn zt wz_c_M_hash_w := goodIn_ca (zz_sub (js := [678, 526]) (by decide +kernel) (by decide +kernel)) (goodIn_app (gu_RX12) (gl_nil _))
set_option maxHeartbeats 4000000 in
set_option maxRecDepth 100000 in
theorem gl_c_X11_hash_1lo : GoodIn zt wz_c_X11_hash_1lo := goodIn_ca (zz_sub (js := [520, 462, 53]) (by decide +kernel) (by decide +kernel)) (goodIn_app (gc_0) (gl_nil _))
set_option maxHeartbeats 4000000 in
set_option maxRecDepth 100000 in
theorem gl_c_L_hash_1lo : GoodIn zt wz_c_L_hash_1lo := goodIn_ca (zz_sub (js := [516, 517, 518, 519, 27, 434, 454]) (by decide +kernel) (by decide +kernel)) (goodIn_app (gl_c_X11_hash_1lo) (gl_nil _))
theorem gl_c_M_hash_1lo : GoodIn zt wz_c_M_hash_1lo := gl_c_M_hash_w
theorem gl_c_X11_hash_1hi : GoodIn zt wz_c_X11_hash_1hi := gl_c_X11_hash_1lo
theorem gl_c_L_hash_1hi : GoodIn zt wz_c_L_hash_1hi := gl_c_L_hash_1lo
theorem gl_c_M_hash_1hi : GoodIn zt wz_c_M_hash_1hi := gl_c_M_hash_w
set_option maxHeartbeats 4000000 in
set_option maxRecDepth 100000 in
theorem gl_c_num4_0 : GoodIn zt wz_c_num4_0 := goodIn_ca (zz_sub (js := [310, 75, 79]) (by decide +kernel) (by decide +kernel)) (goodIn_app (gu_RX0) (gl_nil _))
set_option maxHeartbeats 4000000 in
set_option maxRecDepth 100000 in
theorem gl_c_X1_wordOf_0 : GoodIn zt wz_c_X1_wordOf_0 := goodIn_ca (zz_sub (js := [404, 405, 308, 309, 307, 28, 83]) (by decide +kernel) (by decide +kernel)) (goodIn_app (gu_RX0) (goodIn_app (gl_c_num4_0) (gl_nil _)))
theorem gl_c_num4_4 : GoodIn zt wz_c_num4_4 := gl_c_num4_0
theorem gl_c_X1_wordOf_4 : GoodIn zt wz_c_X1_wordOf_4 := gl_c_X1_wordOf_0
theorem gl_c_num4_8 : GoodIn zt wz_c_num4_8 := gl_c_num4_0
theorem gl_c_X1_wordOf_8 : GoodIn zt wz_c_X1_wordOf_8 := gl_c_X1_wordOf_0
theorem gl_c_num4_12 : GoodIn zt wz_c_num4_12 := gl_c_num4_0
theorem gl_c_X1_wordOf_12 : GoodIn zt wz_c_X1_wordOf_12 := gl_c_X1_wordOf_0
theorem gl_c_num4_16 : GoodIn zt wz_c_num4_16 := gl_c_num4_0
theorem gl_c_X1_wordOf_16 : GoodIn zt wz_c_X1_wordOf_16 := gl_c_X1_wordOf_0
theorem gl_c_num4_20 : GoodIn zt wz_c_num4_20 := gl_c_num4_0
theorem gl_c_X1_wordOf_20 : GoodIn zt wz_c_X1_wordOf_20 := gl_c_X1_wordOf_0
theorem gl_c_num4_24 : GoodIn zt wz_c_num4_24 := gl_c_num4_0
theorem gl_c_X1_wordOf_24 : GoodIn zt wz_c_X1_wordOf_24 := gl_c_X1_wordOf_0
theorem gl_c_num4_28 : GoodIn zt wz_c_num4_28 := gl_c_num4_0
theorem gl_c_X1_wordOf_28 : GoodIn zt wz_c_X1_wordOf_28 := gl_c_X1_wordOf_0
theorem gl_c_num4_32 : GoodIn zt wz_c_num4_32 := gl_c_num4_0
theorem gl_c_X1_wordOf_32 : GoodIn zt wz_c_X1_wordOf_32 := gl_c_X1_wordOf_0
theorem gl_c_num4_36 : GoodIn zt wz_c_num4_36 := gl_c_num4_0
theorem gl_c_X1_wordOf_36 : GoodIn zt wz_c_X1_wordOf_36 := gl_c_X1_wordOf_0
theorem gl_c_num4_40 : GoodIn zt wz_c_num4_40 := gl_c_num4_0
theorem gl_c_X1_wordOf_40 : GoodIn zt wz_c_X1_wordOf_40 := gl_c_X1_wordOf_0
theorem gl_c_num4_44 : GoodIn zt wz_c_num4_44 := gl_c_num4_0
theorem gl_c_X1_wordOf_44 : GoodIn zt wz_c_X1_wordOf_44 := gl_c_X1_wordOf_0
theorem gl_c_num4_48 : GoodIn zt wz_c_num4_48 := gl_c_num4_0
theorem gl_c_X1_wordOf_48 : GoodIn zt wz_c_X1_wordOf_48 := gl_c_X1_wordOf_0
theorem gl_c_num4_52 : GoodIn zt wz_c_num4_52 := gl_c_num4_0
theorem gl_c_X1_wordOf_52 : GoodIn zt wz_c_X1_wordOf_52 := gl_c_X1_wordOf_0
theorem gl_c_num4_56 : GoodIn zt wz_c_num4_56 := gl_c_num4_0
theorem gl_c_X1_wordOf_56 : GoodIn zt wz_c_X1_wordOf_56 := gl_c_X1_wordOf_0
theorem gl_c_num4_60 : GoodIn zt wz_c_num4_60 := gl_c_num4_0
theorem gl_c_X1_wordOf_60 : GoodIn zt wz_c_X1_wordOf_60 := gl_c_X1_wordOf_0
set_option maxHeartbeats 4000000 in
set_option maxRecDepth 100000 in
theorem gl_c_X1_mixFirst : GoodIn zt wz_c_X1_mixFirst := goodIn_ca (zz_sub (js := [414, 121, 120, 415, 416, 417, 418]) (by decide +kernel) (by decide +kernel)) (goodIn_app (gu_RX1) (gl_nil _))
set_option maxHeartbeats 4000000 in
set_option maxRecDepth 100000 in
theorem gl_c_X1_make_1 : GoodIn zt wz_c_X1_make_1 := goodIn_ca (zz_sub (js := [399, 122, 120, 401, 83, 121, 402, 403, 33, 411, 412, 413]) (by decide +kernel) (by decide +kernel)) (goodIn_app (gu_RX1) (goodIn_app (gu_RX0) (goodIn_app (gl_c_X1_wordOf_0) (goodIn_app (gl_c_X1_wordOf_4) (goodIn_app (gl_c_X1_wordOf_8) (goodIn_app (gl_c_X1_wordOf_12) (goodIn_app (gl_c_X1_wordOf_16) (goodIn_app (gl_c_X1_wordOf_20) (goodIn_app (gl_c_X1_wordOf_24) (goodIn_app (gl_c_X1_wordOf_28) (goodIn_app (gl_c_X1_wordOf_32) (goodIn_app (gl_c_X1_wordOf_36) (goodIn_app (gl_c_X1_wordOf_40) (goodIn_app (gl_c_X1_wordOf_44) (goodIn_app (gl_c_X1_wordOf_48) (goodIn_app (gl_c_X1_wordOf_52) (goodIn_app (gl_c_X1_wordOf_56) (goodIn_app (gl_c_X1_wordOf_60) (goodIn_app (gl_c_X1_mixFirst) (gl_nil _))))))))))))))))))))
set_option maxHeartbeats 4000000 in
set_option maxRecDepth 100000 in
theorem gl_c_X1_at_1 : GoodIn zt wz_c_X1_at_1 := goodIn_ca (zz_sub (js := [421, 120]) (by decide +kernel) (by decide +kernel)) (goodIn_app (gu_RX1) (gl_nil _))
set_option maxHeartbeats 4000000 in
set_option maxRecDepth 100000 in
theorem gl_c_X11_hash_1 : GoodIn zt wz_c_X11_hash_1 := goodIn_ca (zz_sub (js := [520, 225, 219, 213, 521, 397, 398, 33, 478, 419, 420]) (by decide +kernel) (by decide +kernel)) (goodIn_app (gu_RX11) (goodIn_app (gl_c_X1_make_1) (goodIn_app (gl_c_X1_at_1) (gl_nil _))))
set_option maxHeartbeats 4000000 in
set_option maxRecDepth 100000 in
theorem gl_c_L_hash_1 : GoodIn zt wz_c_L_hash_1 := goodIn_ca (zz_sub (js := [516, 517, 518, 519, 27]) (by decide +kernel) (by decide +kernel)) (goodIn_app (gl_c_X11_hash_1) (gl_nil _))
set_option maxHeartbeats 4000000 in
set_option maxRecDepth 100000 in
theorem gl_c_M_sayRow0 : GoodIn zt wz_c_M_sayRow0 := goodIn_ca (zz_sub (js := [599]) (by decide +kernel) (by decide +kernel)) (gl_nil _)
set_option maxHeartbeats 4000000 in
set_option maxRecDepth 100000 in
theorem gl_c_M_say : GoodIn zt wz_c_M_say := goodIn_ca (zz_sub (js := [593, 541, 540]) (by decide +kernel) (by decide +kernel)) (goodIn_app (gu_RX12) (gl_nil _))
set_option maxHeartbeats 4000000 in
set_option maxRecDepth 100000 in
theorem gl_c_M_sayNumber : GoodIn zt wz_c_M_sayNumber := goodIn_ca (zz_sub (js := [596, 560, 591, 592, 13, 43]) (by decide +kernel) (by decide +kernel)) (goodIn_app (gl_c_M_say) (gl_nil _))
set_option maxHeartbeats 4000000 in
set_option maxRecDepth 100000 in
theorem gl_c_M_close : GoodIn zt wz_c_M_close := goodIn_ca (zz_sub (js := [608, 609, 540, 591, 592, 13, 43, 594, 595, 14]) (by decide +kernel) (by decide +kernel)) (goodIn_app (gu_RX12) (goodIn_app (gl_c_M_say) (goodIn_app (gl_c_M_sayNumber) (gl_nil _))))
set_option maxHeartbeats 4000000 in
set_option maxRecDepth 100000 in
theorem gl_c_M_number : GoodIn zt wz_c_M_number := goodIn_ca (zz_sub (js := [617, 590]) (by decide +kernel) (by decide +kernel)) (gl_nil _)
set_option maxHeartbeats 4000000 in
set_option maxRecDepth 100000 in
theorem gl_c_M_left : GoodIn zt wz_c_M_left := goodIn_ca (zz_sub (js := [620]) (by decide +kernel) (by decide +kernel)) (gl_nil _)
set_option maxHeartbeats 4000000 in
set_option maxRecDepth 100000 in
theorem gl_c_M_keep_1_0 : GoodIn zt wz_c_M_keep_1_0 := goodIn_ca (zz_sub (js := [627, 542]) (by decide +kernel) (by decide +kernel)) (goodIn_app (gu_RX12) (gl_nil _))
theorem gl_c_M_keep_1_1 : GoodIn zt wz_c_M_keep_1_1 := gl_c_M_keep_1_0
theorem gl_c_M_keep_1_2 : GoodIn zt wz_c_M_keep_1_2 := gl_c_M_keep_1_0
theorem gl_c_M_keep_1_3 : GoodIn zt wz_c_M_keep_1_3 := gl_c_M_keep_1_0
theorem gl_c_M_keep_1_4 : GoodIn zt wz_c_M_keep_1_4 := gl_c_M_keep_1_0
set_option maxHeartbeats 4000000 in
set_option maxRecDepth 100000 in
theorem gl_c_M_firstHash : GoodIn zt wz_c_M_firstHash := goodIn_ca (zz_sub (js := [605, 606, 607, 18, 43, 610, 611, 612, 613, 614, 543, 541, 615, 616, 621, 618, 619, 622, 623, 624, 625, 626, 19]) (by decide +kernel) (by decide +kernel)) (goodIn_app (gu_RX12) (goodIn_app (gl_c_M_close) (goodIn_app (gl_c_M_number) (goodIn_app (gl_c_M_left) (goodIn_app (gl_c_M_keep_1_0) (goodIn_app (gl_c_M_keep_1_1) (goodIn_app (gl_c_M_keep_1_2) (goodIn_app (gl_c_M_keep_1_3) (goodIn_app (gl_c_M_keep_1_4) (gl_nil _))))))))))
set_option maxHeartbeats 4000000 in
set_option maxRecDepth 100000 in
theorem gl_c_M_hashOf_1 : GoodIn zt wz_c_M_hashOf_1 := goodIn_ca (zz_sub (js := [602, 603, 604, 17, 43]) (by decide +kernel) (by decide +kernel)) (goodIn_app (gl_c_M_firstHash) (gl_nil _))
set_option maxHeartbeats 4000000 in
set_option maxRecDepth 100000 in
theorem gl_c_M_hash_1 : GoodIn zt wz_c_M_hash_1 := goodIn_ca (zz_sub (js := [678, 526, 540, 529, 597, 598, 15, 43, 600, 601, 16, 542]) (by decide +kernel) (by decide +kernel)) (goodIn_app (gu_RX12) (goodIn_app (gl_c_M_sayRow0) (goodIn_app (gl_c_M_hashOf_1) (gl_nil _))))
theorem gl_c_X11_hash_2lo : GoodIn zt wz_c_X11_hash_2lo := gl_c_X11_hash_1lo
theorem gl_c_L_hash_2lo : GoodIn zt wz_c_L_hash_2lo := gl_c_L_hash_1lo
theorem gl_c_M_hash_2lo : GoodIn zt wz_c_M_hash_2lo := gl_c_M_hash_w
theorem gl_c_X11_hash_2hi : GoodIn zt wz_c_X11_hash_2hi := gl_c_X11_hash_1lo
theorem gl_c_L_hash_2hi : GoodIn zt wz_c_L_hash_2hi := gl_c_L_hash_1lo
theorem gl_c_M_hash_2hi : GoodIn zt wz_c_M_hash_2hi := gl_c_M_hash_w
set_option maxHeartbeats 4000000 in
set_option maxRecDepth 100000 in
theorem gl_c_X1_mixSecond : GoodIn zt wz_c_X1_mixSecond := goodIn_ca (zz_sub (js := [409, 121, 120, 410]) (by decide +kernel) (by decide +kernel)) (goodIn_app (gu_RX1) (gl_nil _))
set_option maxHeartbeats 4000000 in
set_option maxRecDepth 100000 in
theorem gl_c_X1_make_2 : GoodIn zt wz_c_X1_make_2 := goodIn_ca (zz_sub (js := [399, 122, 120, 400, 83, 121, 402, 403, 33, 406, 407, 408]) (by decide +kernel) (by decide +kernel)) (goodIn_app (gu_RX1) (goodIn_app (gu_RX0) (goodIn_app (gl_c_X1_wordOf_0) (goodIn_app (gl_c_X1_wordOf_4) (goodIn_app (gl_c_X1_wordOf_8) (goodIn_app (gl_c_X1_wordOf_12) (goodIn_app (gl_c_X1_wordOf_16) (goodIn_app (gl_c_X1_wordOf_20) (goodIn_app (gl_c_X1_wordOf_24) (goodIn_app (gl_c_X1_wordOf_28) (goodIn_app (gl_c_X1_wordOf_32) (goodIn_app (gl_c_X1_wordOf_36) (goodIn_app (gl_c_X1_wordOf_40) (goodIn_app (gl_c_X1_wordOf_44) (goodIn_app (gl_c_X1_wordOf_48) (goodIn_app (gl_c_X1_wordOf_52) (goodIn_app (gl_c_X1_wordOf_56) (goodIn_app (gl_c_X1_wordOf_60) (goodIn_app (gl_c_X1_mixSecond) (gl_nil _))))))))))))))))))))
theorem gl_c_X1_at_2 : GoodIn zt wz_c_X1_at_2 := gl_c_X1_at_1
set_option maxHeartbeats 4000000 in
set_option maxRecDepth 100000 in
theorem gl_c_X11_hash_2 : GoodIn zt wz_c_X11_hash_2 := goodIn_ca (zz_sub (js := [520, 225, 219, 213, 521, 397, 398, 33, 478, 419, 420]) (by decide +kernel) (by decide +kernel)) (goodIn_app (gu_RX11) (goodIn_app (gl_c_X1_make_2) (goodIn_app (gl_c_X1_at_2) (gl_nil _))))
set_option maxHeartbeats 4000000 in
set_option maxRecDepth 100000 in
theorem gl_c_L_hash_2 : GoodIn zt wz_c_L_hash_2 := goodIn_ca (zz_sub (js := [516, 517, 518, 519, 27]) (by decide +kernel) (by decide +kernel)) (goodIn_app (gl_c_X11_hash_2) (gl_nil _))
theorem gl_c_M_keep_2_0 : GoodIn zt wz_c_M_keep_2_0 := gl_c_M_keep_1_0
theorem gl_c_M_keep_2_1 : GoodIn zt wz_c_M_keep_2_1 := gl_c_M_keep_1_0
theorem gl_c_M_keep_2_2 : GoodIn zt wz_c_M_keep_2_2 := gl_c_M_keep_1_0
theorem gl_c_M_keep_2_3 : GoodIn zt wz_c_M_keep_2_3 := gl_c_M_keep_1_0
theorem gl_c_M_keep_2_4 : GoodIn zt wz_c_M_keep_2_4 := gl_c_M_keep_1_0
theorem gl_c_M_keep_2_5 : GoodIn zt wz_c_M_keep_2_5 := gl_c_M_keep_1_0
theorem gl_c_M_keep_2_6 : GoodIn zt wz_c_M_keep_2_6 := gl_c_M_keep_1_0
theorem gl_c_M_keep_2_7 : GoodIn zt wz_c_M_keep_2_7 := gl_c_M_keep_1_0
set_option maxHeartbeats 4000000 in
set_option maxRecDepth 100000 in
theorem gl_c_M_secondHash : GoodIn zt wz_c_M_secondHash := goodIn_ca (zz_sub (js := [630, 606, 607, 18, 43, 544, 631, 632, 633, 634, 635, 636, 637, 638, 545, 543, 541, 615, 616, 618, 619, 639, 625, 626, 19]) (by decide +kernel) (by decide +kernel)) (goodIn_app (gu_RX12) (goodIn_app (gl_c_M_close) (goodIn_app (gl_c_M_number) (goodIn_app (gl_c_M_left) (goodIn_app (gl_c_M_keep_2_0) (goodIn_app (gl_c_M_keep_2_1) (goodIn_app (gl_c_M_keep_2_2) (goodIn_app (gl_c_M_keep_2_3) (goodIn_app (gl_c_M_keep_2_4) (goodIn_app (gl_c_M_keep_2_5) (goodIn_app (gl_c_M_keep_2_6) (goodIn_app (gl_c_M_keep_2_7) (gl_nil _)))))))))))))
set_option maxHeartbeats 4000000 in
set_option maxRecDepth 100000 in
theorem gl_c_M_hashOf_2 : GoodIn zt wz_c_M_hashOf_2 := goodIn_ca (zz_sub (js := [602, 628, 629, 20, 43]) (by decide +kernel) (by decide +kernel)) (goodIn_app (gl_c_M_secondHash) (gl_nil _))
set_option maxHeartbeats 4000000 in
set_option maxRecDepth 100000 in
theorem gl_c_M_hash_2 : GoodIn zt wz_c_M_hash_2 := goodIn_ca (zz_sub (js := [678, 526, 540, 529, 597, 598, 15, 43, 600, 601, 16, 542]) (by decide +kernel) (by decide +kernel)) (goodIn_app (gu_RX12) (goodIn_app (gl_c_M_sayRow0) (goodIn_app (gl_c_M_hashOf_2) (gl_nil _))))
set_option maxHeartbeats 4000000 in
set_option maxRecDepth 100000 in
theorem gl_c_X10_init_X0 : GoodIn zt wz_c_X10_init_X0 := goodIn_ca (zz_sub (js := [69, 70, 57, 58, 71, 75, 79]) (by decide +kernel) (by decide +kernel)) (goodIn_app (gu_RX0) (gl_nil _))
set_option maxHeartbeats 4000000 in
set_option maxRecDepth 100000 in
theorem gl_c_X0_init_4096 : GoodIn zt wz_c_X0_init_4096 := goodIn_ca (zz_sub (js := [63, 64, 65, 30, 66, 87, 28, 67, 68]) (by decide +kernel) (by decide +kernel)) (goodIn_app (gl_c_X10_init_X0) (gl_nil _))
theorem gl_c_X0_init_1024 : GoodIn zt wz_c_X0_init_1024 := gl_c_X0_init_4096
theorem gl_c_X0_init_256 : GoodIn zt wz_c_X0_init_256 := gl_c_X0_init_4096
set_option maxHeartbeats 4000000 in
set_option maxRecDepth 100000 in
theorem gl_c_X10_init_X10 : GoodIn zt wz_c_X10_init_X10 := goodIn_ca (zz_sub (js := [69, 70, 57, 58, 71, 75, 79]) (by decide +kernel) (by decide +kernel)) (goodIn_app (gu_RX10) (gl_nil _))
set_option maxHeartbeats 4000000 in
set_option maxRecDepth 100000 in
theorem gl_c_X4_init : GoodIn zt wz_c_X4_init := goodIn_ca (zz_sub (js := [94, 95, 57, 58, 96, 89, 28, 87, 97, 68, 100, 98, 60, 29, 99, 62, 101, 102]) (by decide +kernel) (by decide +kernel)) (goodIn_app (gu_RX10) (goodIn_app (gu_RX4) (goodIn_app (gu_RX0) (goodIn_app (gl_c_X10_init_X10) (goodIn_app (gl_c_X0_init_256) (gl_nil _))))))
set_option maxHeartbeats 4000000 in
set_option maxRecDepth 100000 in
theorem gl_c_X9_init : GoodIn zt wz_c_X9_init := goodIn_ca (zz_sub (js := [109, 110, 57, 58, 111, 60, 29, 112, 62, 113, 114]) (by decide +kernel) (by decide +kernel)) (goodIn_app (gu_RX0) (goodIn_app (gu_RX9) (goodIn_app (gl_c_X0_init_1024) (gl_nil _))))
set_option maxHeartbeats 4000000 in
set_option maxRecDepth 100000 in
theorem gl_c_X1_init : GoodIn zt wz_c_X1_init := goodIn_ca (zz_sub (js := [118, 119, 57, 58, 123, 120, 121]) (by decide +kernel) (by decide +kernel)) (goodIn_app (gu_RX1) (gl_nil _))
set_option maxHeartbeats 4000000 in
set_option maxRecDepth 100000 in
theorem gl_c_AbsColl_init : GoodIn zt wz_c_AbsColl_init := goodIn_ca (zz_sub (js := [139, 140, 57, 58]) (by decide +kernel) (by decide +kernel)) (gl_nil _)
set_option maxHeartbeats 4000000 in
set_option maxRecDepth 100000 in
theorem gl_c_AbsList_init : GoodIn zt wz_c_AbsList_init := goodIn_ca (zz_sub (js := [136, 35, 137, 138, 144]) (by decide +kernel) (by decide +kernel)) (goodIn_app (gu_RJx4a65c) (goodIn_app (gl_c_AbsColl_init) (gl_nil _)))
set_option maxHeartbeats 4000000 in
set_option maxRecDepth 100000 in
theorem gl_c_ArrayList_init : GoodIn zt wz_c_ArrayList_init := goodIn_ca (zz_sub (js := [133, 36, 134, 135, 141, 142]) (by decide +kernel) (by decide +kernel)) (goodIn_app (gu_RJx4a65c) (goodIn_app (gl_c_AbsList_init) (gl_nil _)))
set_option maxHeartbeats 4000000 in
set_option maxRecDepth 100000 in
theorem gl_c_X10_init_X3 : GoodIn zt wz_c_X10_init_X3 := goodIn_ca (zz_sub (js := [69, 70, 57, 58, 71, 75, 79]) (by decide +kernel) (by decide +kernel)) (goodIn_app (gu_RX3) (gl_nil _))
set_option maxHeartbeats 4000000 in
set_option maxRecDepth 100000 in
theorem gl_c_X5_init : GoodIn zt wz_c_X5_init := goodIn_ca (zz_sub (js := [155, 28, 156, 68, 157, 130, 37, 158, 132, 165]) (by decide +kernel) (by decide +kernel)) (goodIn_app (gu_RJx4a65c) (goodIn_app (gu_RX3) (goodIn_app (gl_c_X10_init_X3) (goodIn_app (gl_c_ArrayList_init) (gl_nil _)))))
set_option maxHeartbeats 4000000 in
set_option maxRecDepth 100000 in
theorem gl_c_X3_init : GoodIn zt wz_c_X3_init := goodIn_ca (zz_sub (js := [152, 38, 153, 154, 159, 130, 37, 160, 132, 162, 163, 87, 164, 161]) (by decide +kernel) (by decide +kernel)) (goodIn_app (gu_RJx4a65c) (goodIn_app (gu_RX3) (goodIn_app (gl_c_X5_init) (goodIn_app (gl_c_ArrayList_init) (gl_nil _)))))
set_option maxHeartbeats 4000000 in
set_option maxRecDepth 100000 in
theorem gl_c_X10_init_X8 : GoodIn zt wz_c_X10_init_X8 := goodIn_ca (zz_sub (js := [69, 70, 57, 58, 71, 75, 79]) (by decide +kernel) (by decide +kernel)) (goodIn_app (gu_RX8) (gl_nil _))
set_option maxHeartbeats 4000000 in
set_option maxRecDepth 100000 in
theorem gl_c_X8_init : GoodIn zt wz_c_X8_init := goodIn_ca (zz_sub (js := [170, 28, 171, 68]) (by decide +kernel) (by decide +kernel)) (goodIn_app (gl_c_X10_init_X8) (gl_nil _))
set_option maxHeartbeats 4000000 in
set_option maxRecDepth 100000 in
theorem gl_c_X7_init : GoodIn zt wz_c_X7_init := goodIn_ca (zz_sub (js := [127, 128, 57, 58, 129, 130, 37, 131, 132, 172, 145, 116, 33, 117, 174, 146, 60, 29, 147, 62, 175, 148, 149, 39, 87, 150, 151, 176, 166, 167, 40, 168, 169, 177]) (by decide +kernel) (by decide +kernel)) (goodIn_app (gu_RJx4a65c) (goodIn_app (gu_RX7) (goodIn_app (gu_RX1) (goodIn_app (gu_RX0) (goodIn_app (gu_RX3) (goodIn_app (gu_RX8) (goodIn_app (gl_c_ArrayList_init) (goodIn_app (gl_c_X1_init) (goodIn_app (gl_c_X0_init_256) (goodIn_app (gl_c_X3_init) (goodIn_app (gl_c_X8_init) (gl_nil _))))))))))))
set_option maxHeartbeats 4000000 in
set_option maxRecDepth 100000 in
theorem gl_c_X6_init : GoodIn zt wz_c_X6_init := goodIn_ca (zz_sub (js := [192, 193, 57, 58, 202, 194, 195, 196, 197, 198, 199, 200, 201]) (by decide +kernel) (by decide +kernel)) (goodIn_app (gu_RX6) (gl_nil _))
theorem gl_c_X0_init_128 : GoodIn zt wz_c_X0_init_128 := gl_c_X0_init_4096
set_option maxHeartbeats 4000000 in
set_option maxRecDepth 100000 in
theorem gl_c_X2_init : GoodIn zt wz_c_X2_init := goodIn_ca (zz_sub (js := [183, 184, 57, 58, 185, 116, 33, 117, 205, 186, 60, 29, 187, 62, 206, 188, 189, 42, 190, 191, 207, 208, 203, 167, 40, 87, 204, 169, 209]) (by decide +kernel) (by decide +kernel)) (goodIn_app (gu_RX1) (goodIn_app (gu_RX2) (goodIn_app (gu_RX0) (goodIn_app (gu_RX6) (goodIn_app (gu_RX8) (goodIn_app (gl_c_X1_init) (goodIn_app (gl_c_X0_init_1024) (goodIn_app (gl_c_X6_init) (goodIn_app (gl_c_X0_init_128) (goodIn_app (gl_c_X8_init) (gl_nil _)))))))))))
set_option maxHeartbeats 4000000 in
set_option maxRecDepth 100000 in
theorem gl_c_X11_init : GoodIn zt wz_c_X11_init := goodIn_ca (zz_sub (js := [55, 56, 57, 58, 59, 60, 29, 61, 62, 212, 213, 214, 215, 88, 89, 28, 87, 90, 68, 216, 91, 92, 31, 93, 217, 106, 107, 32, 108, 218, 115, 116, 33, 117, 219, 124, 125, 34, 126, 220, 180, 181, 41, 182, 221, 210, 167, 40, 211, 169, 222, 223, 224]) (by decide +kernel) (by decide +kernel)) (goodIn_app (gu_RX0) (goodIn_app (gu_RX11) (goodIn_app (gu_RX10) (goodIn_app (gu_RX4) (goodIn_app (gu_RX9) (goodIn_app (gu_RX1) (goodIn_app (gu_RX7) (goodIn_app (gu_RX2) (goodIn_app (gu_RX8) (goodIn_app (gl_c_X0_init_4096) (goodIn_app (gl_c_X0_init_1024) (goodIn_app (gl_c_X0_init_256) (goodIn_app (gl_c_X10_init_X10) (goodIn_app (gl_c_X4_init) (goodIn_app (gl_c_X9_init) (goodIn_app (gl_c_X1_init) (goodIn_app (gl_c_X7_init) (goodIn_app (gl_c_X2_init) (goodIn_app (gl_c_X8_init) (gl_nil _))))))))))))))))))))
set_option maxHeartbeats 4000000 in
set_option maxRecDepth 100000 in
theorem gl_c_X12_init : GoodIn zt wz_c_X12_init := goodIn_ca (zz_sub (js := [522, 523, 57, 58, 123, 528, 529, 524, 531, 533, 525, 534, 535, 537, 538, 539, 541, 542, 543, 544, 545, 202, 546, 547, 548, 549, 550, 555, 557, 556]) (by decide +kernel) (by decide +kernel)) (goodIn_app (gu_RX12) (gl_nil _))

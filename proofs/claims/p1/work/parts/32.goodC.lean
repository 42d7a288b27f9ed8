theorem gl_c_chr1_o_4 : GoodIn zt wz_c_chr1_o_4 := gl_c_chr1_o_11
theorem gl_c_chr_o_4 : GoodIn zt wz_c_chr_o_4 := gl_c_chr_o_11
theorem gl_c_X0_pushText_4 : GoodIn zt wz_c_X0_pushText_4 := gl_c_X0_pushText_11
set_option maxHeartbeats 4000000 in
set_option maxRecDepth 100000 in
theorem gl_c_X9_write_1 : GoodIn zt wz_c_X9_write_1 := goodIn_ca (zz_cons zc_79 (by decide +kernel) (zz_sub (js := [399, 393, 394, 29, 226, 227, 32, 249, 210, 211, 81, 246, 247, 400, 401]) (by decide +kernel) (by decide +kernel))) (goodIn_app (gu_RX0) (goodIn_app (gl_c_X0_pushText_11) (goodIn_app (gl_c_X9_label_1) (goodIn_app (gl_c_X0_pushText_4) (goodIn_app (gl_c_X0_pushText_5) (goodIn_app (gl_c_X0_push) (goodIn_app (gl_c_X9_sumOf) (goodIn_app (gl_c_X9_writeGroup) (goodIn_app (gl_c_X0_pushText_9) (gl_nil _))))))))))
set_option maxHeartbeats 4000000 in
set_option maxRecDepth 100000 in
theorem gl_c_X11_armor_1 : GoodIn zt wz_c_X11_armor_1 := goodIn_ca (zz_cons zc_65 (by decide +kernel) (zz_sub (js := [206, 77, 76, 207, 397, 398, 32]) (by decide +kernel) (by decide +kernel))) (goodIn_app (gu_RX11) (goodIn_app (gu_RX0) (goodIn_app (gl_c_X9_write_1) (gl_nil _))))
set_option maxHeartbeats 4000000 in
set_option maxRecDepth 100000 in
theorem gl_c_L_armor_1 : GoodIn zt wz_c_L_armor_1 := goodIn_ca (zz_cons zc_66 (by decide +kernel) (zz_sub (js := [407, 408, 409, 27]) (by decide +kernel) (by decide +kernel))) (goodIn_app (gl_c_X11_armor_1) (gl_nil _))
theorem gl_c_M_label_1 : GoodIn zt wz_c_M_label_1 := gl_c_M_label_0
theorem gl_c_ens_16_15 : GoodIn zt wz_c_ens_16_15 := gl_c_ens_16_11
theorem gl_c_getBytes_8_11_16 : GoodIn zt wz_c_getBytes_8_11_16 := gl_c_getBytes_6_0_16
theorem gl_c_putStr_8_11_16 : GoodIn zt wz_c_putStr_8_11_16 := gl_c_putStr_6_0_16
theorem gl_c_ASBapp_8_11_16 : GoodIn zt wz_c_ASBapp_8_11_16 := gl_c_ASBapp_6_0_16
theorem gl_c_SBapp_8_11_16 : GoodIn zt wz_c_SBapp_8_11_16 := gl_c_SBapp_6_0_16
theorem gl_c_copyOf_b1 : GoodIn zt wz_c_copyOf_b1 := gl_c_copyOf_b0
theorem gl_c_ens_b1 : GoodIn zt wz_c_ens_b1 := gl_c_ens_b0
theorem gl_c_getBytes_10_15_34 : GoodIn zt wz_c_getBytes_10_15_34 := gl_c_getBytes_6_0_16
theorem gl_c_putStr_10_15_34 : GoodIn zt wz_c_putStr_10_15_34 := gl_c_putStr_6_0_16
theorem gl_c_ASBapp_b1 : GoodIn zt wz_c_ASBapp_b1 := gl_c_ASBapp_b0
theorem gl_c_SBapp_b1 : GoodIn zt wz_c_SBapp_b1 := gl_c_SBapp_b0
theorem gl_c_chkLen_20 : GoodIn zt wz_c_chkLen_20 := gl_c_chkLen_27
theorem gl_c_cRB_b1 : GoodIn zt wz_c_cRB_b1 := gl_c_cRB_b0
theorem gl_c_cR_b1 : GoodIn zt wz_c_cR_b1 := gl_c_cR_b0
theorem gl_c_Si1_b1 : GoodIn zt wz_c_Si1_b1 := gl_c_Si1_b0
theorem gl_c_Si2_b1 : GoodIn zt wz_c_Si2_b1 := gl_c_Si2_b0
theorem gl_c_toS_b1 : GoodIn zt wz_c_toS_b1 := gl_c_toS_b0
theorem gl_c_len_w_20 : GoodIn zt wz_c_len_w_20 := gl_c_len_w_27
theorem gl_c_chkN_20 : GoodIn zt wz_c_chkN_20 := gl_c_chkN_11
theorem gl_c_chkR_20 : GoodIn zt wz_c_chkR_20 := gl_c_chkN_11
theorem gl_c_chk_20 : GoodIn zt wz_c_chk_20 := gl_c_chk_11
theorem gl_c_chr1_w_20 : GoodIn zt wz_c_chr1_w_20 := gl_c_chr1_o_11
theorem gl_c_chr_w_20 : GoodIn zt wz_c_chr_w_20 := gl_c_chr_w_27
theorem gl_c_M_putText_20 : GoodIn zt wz_c_M_putText_20 := gl_c_M_putText_27
theorem gl_c_ens_16_13 : GoodIn zt wz_c_ens_16_13 := gl_c_ens_16_11
theorem gl_c_getBytes_8_9_16 : GoodIn zt wz_c_getBytes_8_9_16 := gl_c_getBytes_6_0_16
theorem gl_c_putStr_8_9_16 : GoodIn zt wz_c_putStr_8_9_16 := gl_c_putStr_6_0_16
theorem gl_c_ASBapp_8_9_16 : GoodIn zt wz_c_ASBapp_8_9_16 := gl_c_ASBapp_6_0_16
theorem gl_c_SBapp_8_9_16 : GoodIn zt wz_c_SBapp_8_9_16 := gl_c_SBapp_6_0_16
theorem gl_c_newLen_18 : GoodIn zt wz_c_newLen_18 := gl_c_newLen_22
theorem gl_c_newCap_18 : GoodIn zt wz_c_newCap_18 := gl_c_newCap_22
theorem gl_c_copyOf_e1 : GoodIn zt wz_c_copyOf_e1 := gl_c_copyOf_b0
theorem gl_c_ens_e1 : GoodIn zt wz_c_ens_e1 := gl_c_ens_b0
theorem gl_c_getBytes_10_13_34 : GoodIn zt wz_c_getBytes_10_13_34 := gl_c_getBytes_6_0_16
theorem gl_c_putStr_10_13_34 : GoodIn zt wz_c_putStr_10_13_34 := gl_c_putStr_6_0_16
theorem gl_c_ASBapp_e1 : GoodIn zt wz_c_ASBapp_e1 := gl_c_ASBapp_b0
theorem gl_c_SBapp_e1 : GoodIn zt wz_c_SBapp_e1 := gl_c_SBapp_b0
theorem gl_c_chkLen_18 : GoodIn zt wz_c_chkLen_18 := gl_c_chkLen_27
theorem gl_c_cRB_e1 : GoodIn zt wz_c_cRB_e1 := gl_c_cRB_b0
theorem gl_c_cR_e1 : GoodIn zt wz_c_cR_e1 := gl_c_cR_b0
theorem gl_c_Si1_e1 : GoodIn zt wz_c_Si1_e1 := gl_c_Si1_b0
theorem gl_c_Si2_e1 : GoodIn zt wz_c_Si2_e1 := gl_c_Si2_b0
theorem gl_c_toS_e1 : GoodIn zt wz_c_toS_e1 := gl_c_toS_b0
theorem gl_c_len_w_18 : GoodIn zt wz_c_len_w_18 := gl_c_len_w_27
theorem gl_c_chkN_18 : GoodIn zt wz_c_chkN_18 := gl_c_chkN_11
theorem gl_c_chkR_18 : GoodIn zt wz_c_chkR_18 := gl_c_chkN_11
theorem gl_c_chk_18 : GoodIn zt wz_c_chk_18 := gl_c_chk_11
theorem gl_c_chr1_w_18 : GoodIn zt wz_c_chr1_w_18 := gl_c_chr1_o_11
theorem gl_c_chr_w_18 : GoodIn zt wz_c_chr_w_18 := gl_c_chr_w_27
theorem gl_c_M_putText_18 : GoodIn zt wz_c_M_putText_18 := gl_c_M_putText_27
set_option maxHeartbeats 4000000 in
set_option maxRecDepth 100000 in
theorem gl_c_M_putSigns_1 : GoodIn zt wz_c_M_putSigns_1 := goodIn_ca (zz_cons zc_107 (by decide +kernel) (zz_sub (js := [464, 274, 51, 465, 275, 466, 297, 298, 467, 468, 43, 469, 311, 312, 528, 529, 24, 530, 531, 25, 472, 473, 534, 535]) (by decide +kernel) (by decide +kernel))) (goodIn_app (gu_RJ4) (goodIn_app (gl_c_SB_init) (goodIn_app (gl_c_SBapp_6_0_16) (goodIn_app (gl_c_M_label_1) (goodIn_app (gl_c_SBapp_8_11_16) (goodIn_app (gl_c_SBapp_b1) (goodIn_app (gl_c_toS_b1) (goodIn_app (gl_c_M_putText_20) (goodIn_app (gl_c_M_put) (goodIn_app (gl_c_M_sumOf) (goodIn_app (gl_c_M_signOf_45) (goodIn_app (gl_c_M_signOf_48) (goodIn_app (gl_c_M_signOf_19) (goodIn_app (gl_c_M_signOf_14) (goodIn_app (gl_c_SBapp_11_0_16) (goodIn_app (gl_c_SBapp_8_9_16) (goodIn_app (gl_c_SBapp_e1) (goodIn_app (gl_c_toS_e1) (goodIn_app (gl_c_M_putText_18) (gl_nil _))))))))))))))))))))
set_option maxHeartbeats 4000000 in
set_option maxRecDepth 100000 in
theorem gl_c_M_armor_1 : GoodIn zt wz_c_M_armor_1 := goodIn_ca (zz_cons zc_67 (by decide +kernel) (zz_sub (js := [429, 425, 430, 460, 461, 43, 532, 533, 26]) (by decide +kernel) (by decide +kernel))) (goodIn_app (gu_RX12) (goodIn_app (gl_c_M_part0) (goodIn_app (gl_c_M_putSigns_1) (gl_nil _))))
theorem gl_c_X9_label_2 : GoodIn zt wz_c_X9_label_2 := gl_c_X9_label_0
theorem gl_c_len_o_13 : GoodIn zt wz_c_len_o_13 := gl_c_len_o_11
theorem gl_c_chkN_13 : GoodIn zt wz_c_chkN_13 := gl_c_chkN_11
theorem gl_c_chkR_13 : GoodIn zt wz_c_chkR_13 := gl_c_chkN_11
theorem gl_c_chk_13 : GoodIn zt wz_c_chk_13 := gl_c_chk_11
theorem gl_c_chr1_o_13 : GoodIn zt wz_c_chr1_o_13 := gl_c_chr1_o_11
theorem gl_c_chr_o_13 : GoodIn zt wz_c_chr_o_13 := gl_c_chr_o_11
theorem gl_c_X0_pushText_13 : GoodIn zt wz_c_X0_pushText_13 := gl_c_X0_pushText_11
theorem gl_c_X9_write_2 : GoodIn zt wz_c_X9_write_2 := gl_c_X9_write_1
theorem gl_c_X11_armor_2 : GoodIn zt wz_c_X11_armor_2 := gl_c_X11_armor_1
theorem gl_c_L_armor_2 : GoodIn zt wz_c_L_armor_2 := gl_c_L_armor_1
theorem gl_c_M_label_2 : GoodIn zt wz_c_M_label_2 := gl_c_M_label_0
theorem gl_c_newLen_24 : GoodIn zt wz_c_newLen_24 := gl_c_newLen_22
theorem gl_c_newCap_24 : GoodIn zt wz_c_newCap_24 := gl_c_newCap_22
theorem gl_c_ens_b2 : GoodIn zt wz_c_ens_b2 := gl_c_ens_b0
theorem gl_c_getBytes_9_11_34 : GoodIn zt wz_c_getBytes_9_11_34 := gl_c_getBytes_6_0_16
theorem gl_c_putStr_9_11_34 : GoodIn zt wz_c_putStr_9_11_34 := gl_c_putStr_6_0_16
theorem gl_c_ASBapp_b2 : GoodIn zt wz_c_ASBapp_b2 := gl_c_ASBapp_b0
theorem gl_c_SBapp_b2 : GoodIn zt wz_c_SBapp_b2 := gl_c_SBapp_b0
theorem gl_c_ens_34_29 : GoodIn zt wz_c_ens_34_29 := gl_c_ens_16_11
theorem gl_c_getBytes_10_24_34 : GoodIn zt wz_c_getBytes_10_24_34 := gl_c_getBytes_6_0_16
theorem gl_c_putStr_10_24_34 : GoodIn zt wz_c_putStr_10_24_34 := gl_c_putStr_6_0_16
theorem gl_c_ASBapp_10_24_34 : GoodIn zt wz_c_ASBapp_10_24_34 := gl_c_ASBapp_6_0_16
theorem gl_c_SBapp_10_24_34 : GoodIn zt wz_c_SBapp_10_24_34 := gl_c_SBapp_6_0_16
theorem gl_c_chkLen_29 : GoodIn zt wz_c_chkLen_29 := gl_c_chkLen_27
theorem gl_c_cRB_b2 : GoodIn zt wz_c_cRB_b2 := gl_c_cRB_b0
theorem gl_c_cR_b2 : GoodIn zt wz_c_cR_b2 := gl_c_cR_b0
theorem gl_c_Si1_b2 : GoodIn zt wz_c_Si1_b2 := gl_c_Si1_b0
theorem gl_c_Si2_b2 : GoodIn zt wz_c_Si2_b2 := gl_c_Si2_b0
theorem gl_c_toS_b2 : GoodIn zt wz_c_toS_b2 := gl_c_toS_b0
theorem gl_c_len_w_29 : GoodIn zt wz_c_len_w_29 := gl_c_len_w_27
theorem gl_c_chkN_29 : GoodIn zt wz_c_chkN_29 := gl_c_chkN_11
theorem gl_c_chkR_29 : GoodIn zt wz_c_chkR_29 := gl_c_chkN_11
theorem gl_c_chk_29 : GoodIn zt wz_c_chk_29 := gl_c_chk_11
theorem gl_c_chr1_w_29 : GoodIn zt wz_c_chr1_w_29 := gl_c_chr1_o_11
theorem gl_c_chr_w_29 : GoodIn zt wz_c_chr_w_29 := gl_c_chr_w_27
theorem gl_c_M_putText_29 : GoodIn zt wz_c_M_putText_29 := gl_c_M_putText_27
theorem gl_c_ens_e2 : GoodIn zt wz_c_ens_e2 := gl_c_ens_b0
theorem gl_c_getBytes_9_9_34 : GoodIn zt wz_c_getBytes_9_9_34 := gl_c_getBytes_6_0_16
theorem gl_c_putStr_9_9_34 : GoodIn zt wz_c_putStr_9_9_34 := gl_c_putStr_6_0_16
theorem gl_c_ASBapp_e2 : GoodIn zt wz_c_ASBapp_e2 := gl_c_ASBapp_b0
theorem gl_c_SBapp_e2 : GoodIn zt wz_c_SBapp_e2 := gl_c_SBapp_b0
theorem gl_c_cRB_e2 : GoodIn zt wz_c_cRB_e2 := gl_c_cRB_b0
theorem gl_c_cR_e2 : GoodIn zt wz_c_cR_e2 := gl_c_cR_b0
theorem gl_c_Si1_e2 : GoodIn zt wz_c_Si1_e2 := gl_c_Si1_b0
theorem gl_c_Si2_e2 : GoodIn zt wz_c_Si2_e2 := gl_c_Si2_b0
theorem gl_c_toS_e2 : GoodIn zt wz_c_toS_e2 := gl_c_toS_b0
theorem gl_c_M_putSigns_2 : GoodIn zt wz_c_M_putSigns_2 := gl_c_M_putSigns_0
theorem gl_c_M_armor_2 : GoodIn zt wz_c_M_armor_2 := gl_c_M_armor_0
set_option maxHeartbeats 4000000 in
set_option maxRecDepth 100000 in
theorem gl_c_X11_hash_w : GoodIn zt wz_c_X11_hash_w := goodIn_ca (zz_cons zc_108 (by decide +kernel) (zz_sub (js := [368, 49]) (by decide +kernel) (by decide +kernel))) (goodIn_app (gc_2) (gl_nil _))
set_option maxHeartbeats 4000000 in
set_option maxRecDepth 100000 in
theorem gl_c_L_hash_w : GoodIn zt wz_c_L_hash_w := goodIn_ca (zz_cons zc_109 (by decide +kernel) (zz_sub (js := [418, 419, 420, 27, 361]) (by decide +kernel) (by decide +kernel))) (goodIn_app (gl_c_X11_hash_w) (gl_nil _))
set_option maxHeartbeats 4000000 in
set_option maxRecDepth 100000 in
theorem gl_c_M_hash_w : GoodIn zt wz_c_M_hash_w := goodIn_ca (zz_cons zc_110 (by decide +kernel) (zz_sub (js := [425]) (by decide +kernel) (by decide +kernel))) (goodIn_app (gu_RX12) (gl_nil _))
set_option maxHeartbeats 4000000 in
set_option maxRecDepth 100000 in
theorem gl_c_X11_hash_1lo : GoodIn zt wz_c_X11_hash_1lo := goodIn_ca (zz_cons zc_108 (by decide +kernel) (zz_sub (js := [382, 53]) (by decide +kernel) (by decide +kernel))) (goodIn_app (gc_0) (gl_nil _))
set_option maxHeartbeats 4000000 in
set_option maxRecDepth 100000 in
theorem gl_c_L_hash_1lo : GoodIn zt wz_c_L_hash_1lo := goodIn_ca (zz_cons zc_109 (by decide +kernel) (zz_sub (js := [418, 419, 420, 27, 361, 376]) (by decide +kernel) (by decide +kernel))) (goodIn_app (gl_c_X11_hash_1lo) (gl_nil _))
theorem gl_c_M_hash_1lo : GoodIn zt wz_c_M_hash_1lo := gl_c_M_hash_w
theorem gl_c_X11_hash_1hi : GoodIn zt wz_c_X11_hash_1hi := gl_c_X11_hash_1lo
theorem gl_c_L_hash_1hi : GoodIn zt wz_c_L_hash_1hi := gl_c_L_hash_1lo
theorem gl_c_M_hash_1hi : GoodIn zt wz_c_M_hash_1hi := gl_c_M_hash_w
set_option maxHeartbeats 4000000 in
set_option maxRecDepth 100000 in
theorem gl_c_num4_0 : GoodIn zt wz_c_num4_0 := goodIn_ca (zz_cons zc_111 (by decide +kernel) (zz_sub (js := [70, 74]) (by decide +kernel) (by decide +kernel))) (goodIn_app (gu_RX0) (gl_nil _))
set_option maxHeartbeats 4000000 in
set_option maxRecDepth 100000 in
theorem gl_c_X1_wordOf_0 : GoodIn zt wz_c_X1_wordOf_0 := goodIn_ca (zz_cons zc_112 (by decide +kernel) (zz_sub (js := [341, 267, 268, 266, 28, 78]) (by decide +kernel) (by decide +kernel))) (goodIn_app (gu_RX0) (goodIn_app (gl_c_num4_0) (gl_nil _)))
theorem gl_c_num4_4 : GoodIn zt wz_c_num4_4 := gl_c_num4_0
theorem gl_c_X1_wordOf_4 : GoodIn zt wz_c_X1_wordOf_4 := gl_c_X1_wordOf_0
theorem gl_c_num4_8 : GoodIn zt wz_c_num4_8 := gl_c_num4_0
theorem gl_c_X1_wordOf_8 : GoodIn zt wz_c_X1_wordOf_8 := gl_c_X1_wordOf_0
theorem gl_c_num4_12 : GoodIn zt wz_c_num4_12 := gl_c_num4_0
theorem gl_c_X1_wordOf_12 : GoodIn zt wz_c_X1_wordOf_12 := gl_c_X1_wordOf_0
theorem gl_c_num4_16 : GoodIn zt wz_c_num4_16 := gl_c_num4_0
theorem gl_c_X1_wordOf_16 : GoodIn zt wz_c_X1_wordOf_16 := gl_c_X1_wordOf_0
theorem gl_c_num4_20 : GoodIn zt wz_c_num4_20 := gl_c_num4_0
theorem gl_c_X1_wordOf_20 : GoodIn zt wz_c_X1_wordOf_20 := gl_c_X1_wordOf_0
theorem gl_c_num4_24 : GoodIn zt wz_c_num4_24 := gl_c_num4_0
theorem gl_c_X1_wordOf_24 : GoodIn zt wz_c_X1_wordOf_24 := gl_c_X1_wordOf_0
theorem gl_c_num4_28 : GoodIn zt wz_c_num4_28 := gl_c_num4_0
theorem gl_c_X1_wordOf_28 : GoodIn zt wz_c_X1_wordOf_28 := gl_c_X1_wordOf_0
theorem gl_c_num4_32 : GoodIn zt wz_c_num4_32 := gl_c_num4_0
theorem gl_c_X1_wordOf_32 : GoodIn zt wz_c_X1_wordOf_32 := gl_c_X1_wordOf_0
theorem gl_c_num4_36 : GoodIn zt wz_c_num4_36 := gl_c_num4_0
theorem gl_c_X1_wordOf_36 : GoodIn zt wz_c_X1_wordOf_36 := gl_c_X1_wordOf_0
theorem gl_c_num4_40 : GoodIn zt wz_c_num4_40 := gl_c_num4_0
theorem gl_c_X1_wordOf_40 : GoodIn zt wz_c_X1_wordOf_40 := gl_c_X1_wordOf_0
theorem gl_c_num4_44 : GoodIn zt wz_c_num4_44 := gl_c_num4_0
theorem gl_c_X1_wordOf_44 : GoodIn zt wz_c_X1_wordOf_44 := gl_c_X1_wordOf_0
theorem gl_c_num4_48 : GoodIn zt wz_c_num4_48 := gl_c_num4_0
theorem gl_c_X1_wordOf_48 : GoodIn zt wz_c_X1_wordOf_48 := gl_c_X1_wordOf_0
theorem gl_c_num4_52 : GoodIn zt wz_c_num4_52 := gl_c_num4_0
theorem gl_c_X1_wordOf_52 : GoodIn zt wz_c_X1_wordOf_52 := gl_c_X1_wordOf_0
theorem gl_c_num4_56 : GoodIn zt wz_c_num4_56 := gl_c_num4_0
theorem gl_c_X1_wordOf_56 : GoodIn zt wz_c_X1_wordOf_56 := gl_c_X1_wordOf_0
theorem gl_c_num4_60 : GoodIn zt wz_c_num4_60 := gl_c_num4_0
theorem gl_c_X1_wordOf_60 : GoodIn zt wz_c_X1_wordOf_60 := gl_c_X1_wordOf_0
set_option maxHeartbeats 4000000 in
set_option maxRecDepth 100000 in
theorem gl_c_X1_mixFirst : GoodIn zt wz_c_X1_mixFirst := goodIn_ca (zz_cons zc_113 (by decide +kernel) (zz_sub (js := [113, 112, 349, 350, 351, 352]) (by decide +kernel) (by decide +kernel))) (goodIn_app (gu_RX1) (gl_nil _))
set_option maxHeartbeats 4000000 in
set_option maxRecDepth 100000 in
theorem gl_c_X1_make_1 : GoodIn zt wz_c_X1_make_1 := goodIn_ca (zz_cons zc_114 (by decide +kernel) (zz_sub (js := [114, 112, 338, 78, 113, 339, 340, 33, 346, 347, 348]) (by decide +kernel) (by decide +kernel))) (goodIn_app (gu_RX1) (goodIn_app (gu_RX0) (goodIn_app (gl_c_X1_wordOf_0) (goodIn_app (gl_c_X1_wordOf_4) (goodIn_app (gl_c_X1_wordOf_8) (goodIn_app (gl_c_X1_wordOf_12) (goodIn_app (gl_c_X1_wordOf_16) (goodIn_app (gl_c_X1_wordOf_20) (goodIn_app (gl_c_X1_wordOf_24) (goodIn_app (gl_c_X1_wordOf_28) (goodIn_app (gl_c_X1_wordOf_32) (goodIn_app (gl_c_X1_wordOf_36) (goodIn_app (gl_c_X1_wordOf_40) (goodIn_app (gl_c_X1_wordOf_44) (goodIn_app (gl_c_X1_wordOf_48) (goodIn_app (gl_c_X1_wordOf_52) (goodIn_app (gl_c_X1_wordOf_56) (goodIn_app (gl_c_X1_wordOf_60) (goodIn_app (gl_c_X1_mixFirst) (gl_nil _))))))))))))))))))))
set_option maxHeartbeats 4000000 in
set_option maxRecDepth 100000 in
theorem gl_c_X1_at_1 : GoodIn zt wz_c_X1_at_1 := goodIn_ca (zz_cons zc_115 (by decide +kernel) (zz_sub (js := [112]) (by decide +kernel) (by decide +kernel))) (goodIn_app (gu_RX1) (gl_nil _))
set_option maxHeartbeats 4000000 in
set_option maxRecDepth 100000 in
theorem gl_c_X11_hash_1 : GoodIn zt wz_c_X11_hash_1 := goodIn_ca (zz_cons zc_108 (by decide +kernel) (zz_sub (js := [208, 202, 196, 421, 335, 336, 33, 392, 353, 354]) (by decide +kernel) (by decide +kernel))) (goodIn_app (gu_RX11) (goodIn_app (gl_c_X1_make_1) (goodIn_app (gl_c_X1_at_1) (gl_nil _))))
set_option maxHeartbeats 4000000 in
set_option maxRecDepth 100000 in
theorem gl_c_L_hash_1 : GoodIn zt wz_c_L_hash_1 := goodIn_ca (zz_cons zc_109 (by decide +kernel) (zz_sub (js := [418, 419, 420, 27]) (by decide +kernel) (by decide +kernel))) (goodIn_app (gl_c_X11_hash_1) (gl_nil _))
set_option maxHeartbeats 4000000 in
set_option maxRecDepth 100000 in
theorem gl_c_M_sayRow0 : GoodIn zt wz_c_M_sayRow0 := goodIn_ca (zz_cons zc_116 (by decide +kernel) (gl_nil _)) (gl_nil _)
set_option maxHeartbeats 4000000 in
set_option maxRecDepth 100000 in
theorem gl_c_M_say : GoodIn zt wz_c_M_say := goodIn_ca (zz_cons zc_117 (by decide +kernel) (zz_sub (js := [440, 439]) (by decide +kernel) (by decide +kernel))) (goodIn_app (gu_RX12) (gl_nil _))
set_option maxHeartbeats 4000000 in
set_option maxRecDepth 100000 in
theorem gl_c_M_sayNumber : GoodIn zt wz_c_M_sayNumber := goodIn_ca (zz_cons zc_118 (by decide +kernel) (zz_sub (js := [457, 480, 481, 13, 43]) (by decide +kernel) (by decide +kernel))) (goodIn_app (gl_c_M_say) (gl_nil _))
set_option maxHeartbeats 4000000 in
set_option maxRecDepth 100000 in
theorem gl_c_M_close : GoodIn zt wz_c_M_close := goodIn_ca (zz_cons zc_119 (by decide +kernel) (zz_sub (js := [492, 439, 480, 481, 13, 43, 482, 483, 14]) (by decide +kernel) (by decide +kernel))) (goodIn_app (gu_RX12) (goodIn_app (gl_c_M_say) (goodIn_app (gl_c_M_sayNumber) (gl_nil _))))
set_option maxHeartbeats 4000000 in
set_option maxRecDepth 100000 in
theorem gl_c_M_number : GoodIn zt wz_c_M_number := goodIn_ca (zz_cons zc_120 (by decide +kernel) (zz_sub (js := [479]) (by decide +kernel) (by decide +kernel))) (gl_nil _)
set_option maxHeartbeats 4000000 in
set_option maxRecDepth 100000 in
theorem gl_c_M_left : GoodIn zt wz_c_M_left := goodIn_ca (zz_cons zc_121 (by decide +kernel) (gl_nil _)) (gl_nil _)
set_option maxHeartbeats 4000000 in
set_option maxRecDepth 100000 in
theorem gl_c_M_keep_1_0 : GoodIn zt wz_c_M_keep_1_0 := goodIn_ca (zz_cons zc_122 (by decide +kernel) (zz_sub (js := [441]) (by decide +kernel) (by decide +kernel))) (goodIn_app (gu_RX12) (gl_nil _))
theorem gl_c_M_keep_1_1 : GoodIn zt wz_c_M_keep_1_1 := gl_c_M_keep_1_0
theorem gl_c_M_keep_1_2 : GoodIn zt wz_c_M_keep_1_2 := gl_c_M_keep_1_0
theorem gl_c_M_keep_1_3 : GoodIn zt wz_c_M_keep_1_3 := gl_c_M_keep_1_0
theorem gl_c_M_keep_1_4 : GoodIn zt wz_c_M_keep_1_4 := gl_c_M_keep_1_0
set_option maxHeartbeats 4000000 in
set_option maxRecDepth 100000 in
theorem gl_c_M_firstHash : GoodIn zt wz_c_M_firstHash := goodIn_ca (zz_cons zc_123 (by decide +kernel) (zz_sub (js := [490, 491, 18, 43, 493, 494, 495, 496, 497, 442, 440, 498, 499, 502, 500, 501, 503, 504, 505, 506, 507, 19]) (by decide +kernel) (by decide +kernel))) (goodIn_app (gu_RX12) (goodIn_app (gl_c_M_close) (goodIn_app (gl_c_M_number) (goodIn_app (gl_c_M_left) (goodIn_app (gl_c_M_keep_1_0) (goodIn_app (gl_c_M_keep_1_1) (goodIn_app (gl_c_M_keep_1_2) (goodIn_app (gl_c_M_keep_1_3) (goodIn_app (gl_c_M_keep_1_4) (gl_nil _))))))))))
set_option maxHeartbeats 4000000 in
set_option maxRecDepth 100000 in
theorem gl_c_M_hashOf_1 : GoodIn zt wz_c_M_hashOf_1 := goodIn_ca (zz_cons zc_124 (by decide +kernel) (zz_sub (js := [488, 489, 17, 43]) (by decide +kernel) (by decide +kernel))) (goodIn_app (gl_c_M_firstHash) (gl_nil _))
set_option maxHeartbeats 4000000 in
set_option maxRecDepth 100000 in
theorem gl_c_M_hash_1 : GoodIn zt wz_c_M_hash_1 := goodIn_ca (zz_cons zc_110 (by decide +kernel) (zz_sub (js := [425, 439, 428, 484, 485, 15, 43, 486, 487, 16, 441]) (by decide +kernel) (by decide +kernel))) (goodIn_app (gu_RX12) (goodIn_app (gl_c_M_sayRow0) (goodIn_app (gl_c_M_hashOf_1) (gl_nil _))))
theorem gl_c_X11_hash_2lo : GoodIn zt wz_c_X11_hash_2lo := gl_c_X11_hash_1lo
theorem gl_c_L_hash_2lo : GoodIn zt wz_c_L_hash_2lo := gl_c_L_hash_1lo
theorem gl_c_M_hash_2lo : GoodIn zt wz_c_M_hash_2lo := gl_c_M_hash_w
theorem gl_c_X11_hash_2hi : GoodIn zt wz_c_X11_hash_2hi := gl_c_X11_hash_1lo
theorem gl_c_L_hash_2hi : GoodIn zt wz_c_L_hash_2hi := gl_c_L_hash_1lo
theorem gl_c_M_hash_2hi : GoodIn zt wz_c_M_hash_2hi := gl_c_M_hash_w
set_option maxHeartbeats 4000000 in
set_option maxRecDepth 100000 in
theorem gl_c_X1_mixSecond : GoodIn zt wz_c_X1_mixSecond := goodIn_ca (zz_cons zc_125 (by decide +kernel) (zz_sub (js := [113, 112, 345]) (by decide +kernel) (by decide +kernel))) (goodIn_app (gu_RX1) (gl_nil _))
set_option maxHeartbeats 4000000 in
set_option maxRecDepth 100000 in
theorem gl_c_X1_make_2 : GoodIn zt wz_c_X1_make_2 := goodIn_ca (zz_cons zc_114 (by decide +kernel) (zz_sub (js := [114, 112, 337, 78, 113, 339, 340, 33, 342, 343, 344]) (by decide +kernel) (by decide +kernel))) (goodIn_app (gu_RX1) (goodIn_app (gu_RX0) (goodIn_app (gl_c_X1_wordOf_0) (goodIn_app (gl_c_X1_wordOf_4) (goodIn_app (gl_c_X1_wordOf_8) (goodIn_app (gl_c_X1_wordOf_12) (goodIn_app (gl_c_X1_wordOf_16) (goodIn_app (gl_c_X1_wordOf_20) (goodIn_app (gl_c_X1_wordOf_24) (goodIn_app (gl_c_X1_wordOf_28) (goodIn_app (gl_c_X1_wordOf_32) (goodIn_app (gl_c_X1_wordOf_36) (goodIn_app (gl_c_X1_wordOf_40) (goodIn_app (gl_c_X1_wordOf_44) (goodIn_app (gl_c_X1_wordOf_48) (goodIn_app (gl_c_X1_wordOf_52) (goodIn_app (gl_c_X1_wordOf_56) (goodIn_app (gl_c_X1_wordOf_60) (goodIn_app (gl_c_X1_mixSecond) (gl_nil _))))))))))))))))))))
theorem gl_c_X1_at_2 : GoodIn zt wz_c_X1_at_2 := gl_c_X1_at_1
set_option maxHeartbeats 4000000 in
set_option maxRecDepth 100000 in
theorem gl_c_X11_hash_2 : GoodIn zt wz_c_X11_hash_2 := goodIn_ca (zz_cons zc_108 (by decide +kernel) (zz_sub (js := [208, 202, 196, 421, 335, 336, 33, 392, 353, 354]) (by decide +kernel) (by decide +kernel))) (goodIn_app (gu_RX11) (goodIn_app (gl_c_X1_make_2) (goodIn_app (gl_c_X1_at_2) (gl_nil _))))
set_option maxHeartbeats 4000000 in
set_option maxRecDepth 100000 in
theorem gl_c_L_hash_2 : GoodIn zt wz_c_L_hash_2 := goodIn_ca (zz_cons zc_109 (by decide +kernel) (zz_sub (js := [418, 419, 420, 27]) (by decide +kernel) (by decide +kernel))) (goodIn_app (gl_c_X11_hash_2) (gl_nil _))
theorem gl_c_M_keep_2_0 : GoodIn zt wz_c_M_keep_2_0 := gl_c_M_keep_1_0
theorem gl_c_M_keep_2_1 : GoodIn zt wz_c_M_keep_2_1 := gl_c_M_keep_1_0
theorem gl_c_M_keep_2_2 : GoodIn zt wz_c_M_keep_2_2 := gl_c_M_keep_1_0
theorem gl_c_M_keep_2_3 : GoodIn zt wz_c_M_keep_2_3 := gl_c_M_keep_1_0
theorem gl_c_M_keep_2_4 : GoodIn zt wz_c_M_keep_2_4 := gl_c_M_keep_1_0
theorem gl_c_M_keep_2_5 : GoodIn zt wz_c_M_keep_2_5 := gl_c_M_keep_1_0
theorem gl_c_M_keep_2_6 : GoodIn zt wz_c_M_keep_2_6 := gl_c_M_keep_1_0
theorem gl_c_M_keep_2_7 : GoodIn zt wz_c_M_keep_2_7 := gl_c_M_keep_1_0
set_option maxHeartbeats 4000000 in
set_option maxRecDepth 100000 in
theorem gl_c_M_secondHash : GoodIn zt wz_c_M_secondHash := goodIn_ca (zz_cons zc_126 (by decide +kernel) (zz_sub (js := [490, 491, 18, 43, 443, 510, 511, 512, 513, 514, 515, 516, 517, 444, 442, 440, 498, 499, 500, 501, 518, 506, 507, 19]) (by decide +kernel) (by decide +kernel))) (goodIn_app (gu_RX12) (goodIn_app (gl_c_M_close) (goodIn_app (gl_c_M_number) (goodIn_app (gl_c_M_left) (goodIn_app (gl_c_M_keep_2_0) (goodIn_app (gl_c_M_keep_2_1) (goodIn_app (gl_c_M_keep_2_2) (goodIn_app (gl_c_M_keep_2_3) (goodIn_app (gl_c_M_keep_2_4) (goodIn_app (gl_c_M_keep_2_5) (goodIn_app (gl_c_M_keep_2_6) (goodIn_app (gl_c_M_keep_2_7) (gl_nil _)))))))))))))
set_option maxHeartbeats 4000000 in
set_option maxRecDepth 100000 in
theorem gl_c_M_hashOf_2 : GoodIn zt wz_c_M_hashOf_2 := goodIn_ca (zz_cons zc_124 (by decide +kernel) (zz_sub (js := [508, 509, 20, 43]) (by decide +kernel) (by decide +kernel))) (goodIn_app (gl_c_M_secondHash) (gl_nil _))
set_option maxHeartbeats 4000000 in
set_option maxRecDepth 100000 in
theorem gl_c_M_hash_2 : GoodIn zt wz_c_M_hash_2 := goodIn_ca (zz_cons zc_110 (by decide +kernel) (zz_sub (js := [425, 439, 428, 484, 485, 15, 43, 486, 487, 16, 441]) (by decide +kernel) (by decide +kernel))) (goodIn_app (gu_RX12) (goodIn_app (gl_c_M_sayRow0) (goodIn_app (gl_c_M_hashOf_2) (gl_nil _))))
set_option maxHeartbeats 4000000 in
set_option maxRecDepth 100000 in
theorem gl_c_X10_init_X0 : GoodIn zt wz_c_X10_init_X0 := goodIn_ca (zz_cons zc_127 (by decide +kernel) (goodIn_app (a := [.methodLink RX10 1 objectInit, .instanceMethod objectInit]) (zz_sub (js := [65, 56]) (by decide +kernel) (by decide +kernel)) (zz_cons zc_81 (by decide +kernel) (zz_sub (js := [66, 70, 74]) (by decide +kernel) (by decide +kernel))))) (goodIn_app (gu_RX0) (gl_nil _))
set_option maxHeartbeats 4000000 in
set_option maxRecDepth 100000 in
theorem gl_c_X0_init_4096 : GoodIn zt wz_c_X0_init_4096 := goodIn_ca (zz_cons zc_128 (by decide +kernel) (goodIn_app (a := [.methodLink RX0 1 Lib.Math.max.name, .static Lib.Math.max.name, .initialized "java/lang/Math"]) (zz_sub (js := [61, 62, 30]) (by decide +kernel) (by decide +kernel)) (zz_cons zc_91 (by decide +kernel) (zz_sub (js := [82, 28, 63, 64]) (by decide +kernel) (by decide +kernel))))) (goodIn_app (gl_c_X10_init_X0) (gl_nil _))
theorem gl_c_X0_init_1024 : GoodIn zt wz_c_X0_init_1024 := gl_c_X0_init_4096
theorem gl_c_X0_init_256 : GoodIn zt wz_c_X0_init_256 := gl_c_X0_init_4096
set_option maxHeartbeats 4000000 in
set_option maxRecDepth 100000 in
theorem gl_c_X10_init_X10 : GoodIn zt wz_c_X10_init_X10 := goodIn_ca (zz_cons zc_127 (by decide +kernel) (goodIn_app (a := [.methodLink RX10 1 objectInit, .instanceMethod objectInit]) (zz_sub (js := [65, 56]) (by decide +kernel) (by decide +kernel)) (zz_cons zc_81 (by decide +kernel) (zz_sub (js := [66, 70, 74]) (by decide +kernel) (by decide +kernel))))) (goodIn_app (gu_RX10) (gl_nil _))
set_option maxHeartbeats 4000000 in
set_option maxRecDepth 100000 in
theorem gl_c_X4_init : GoodIn zt wz_c_X4_init := goodIn_ca (zz_cons zc_129 (by decide +kernel) (goodIn_app (a := [.methodLink RX4 3 objectInit, .instanceMethod objectInit]) (zz_sub (js := [89, 56]) (by decide +kernel) (by decide +kernel)) (zz_cons zc_81 (by decide +kernel) (zz_sub (js := [90, 84, 28, 82, 91, 64, 94, 92, 58, 29, 93, 60, 95, 96]) (by decide +kernel) (by decide +kernel))))) (goodIn_app (gu_RX10) (goodIn_app (gu_RX4) (goodIn_app (gu_RX0) (goodIn_app (gl_c_X10_init_X10) (goodIn_app (gl_c_X0_init_256) (gl_nil _))))))
set_option maxHeartbeats 4000000 in
set_option maxRecDepth 100000 in
theorem gl_c_X9_init : GoodIn zt wz_c_X9_init := goodIn_ca (zz_cons zc_130 (by decide +kernel) (goodIn_app (a := [.methodLink RX9 3 objectInit, .instanceMethod objectInit]) (zz_sub (js := [103, 56]) (by decide +kernel) (by decide +kernel)) (zz_cons zc_81 (by decide +kernel) (zz_sub (js := [104, 58, 29, 105, 60, 106, 107]) (by decide +kernel) (by decide +kernel))))) (goodIn_app (gu_RX0) (goodIn_app (gu_RX9) (goodIn_app (gl_c_X0_init_1024) (gl_nil _))))
set_option maxHeartbeats 4000000 in
set_option maxRecDepth 100000 in
theorem gl_c_X1_init : GoodIn zt wz_c_X1_init := goodIn_ca (zz_cons zc_131 (by decide +kernel) (goodIn_app (a := [.methodLink RX1 3 objectInit, .instanceMethod objectInit]) (zz_sub (js := [111, 56]) (by decide +kernel) (by decide +kernel)) (zz_cons zc_81 (by decide +kernel) (zz_sub (js := [115, 112, 113]) (by decide +kernel) (by decide +kernel))))) (goodIn_app (gu_RX1) (gl_nil _))
set_option maxHeartbeats 4000000 in
set_option maxRecDepth 100000 in
theorem gl_c_AbsColl_init : GoodIn zt wz_c_AbsColl_init := goodIn_ca (zz_cons zc_132 (by decide +kernel) (goodIn_app (a := [.methodLink RJxa1e45 1 objectInit, .instanceMethod objectInit]) (zz_sub (js := [128, 56]) (by decide +kernel) (by decide +kernel)) (zz_cons zc_81 (by decide +kernel) (gl_nil _)))) (gl_nil _)
set_option maxHeartbeats 4000000 in
set_option maxRecDepth 100000 in
theorem gl_c_AbsList_init : GoodIn zt wz_c_AbsList_init := goodIn_ca (zz_cons zc_133 (by decide +kernel) (zz_sub (js := [35, 126, 127, 132]) (by decide +kernel) (by decide +kernel))) (goodIn_app (gu_RJx4a65c) (goodIn_app (gl_c_AbsColl_init) (gl_nil _)))
set_option maxHeartbeats 4000000 in
set_option maxRecDepth 100000 in
theorem gl_c_ArrayList_init : GoodIn zt wz_c_ArrayList_init := goodIn_ca (zz_cons zc_134 (by decide +kernel) (zz_sub (js := [36, 124, 125, 129, 130]) (by decide +kernel) (by decide +kernel))) (goodIn_app (gu_RJx4a65c) (goodIn_app (gl_c_AbsList_init) (gl_nil _)))
set_option maxHeartbeats 4000000 in
set_option maxRecDepth 100000 in
theorem gl_c_X10_init_X3 : GoodIn zt wz_c_X10_init_X3 := goodIn_ca (zz_cons zc_127 (by decide +kernel) (goodIn_app (a := [.methodLink RX10 1 objectInit, .instanceMethod objectInit]) (zz_sub (js := [65, 56]) (by decide +kernel) (by decide +kernel)) (zz_cons zc_81 (by decide +kernel) (zz_sub (js := [66, 70, 74]) (by decide +kernel) (by decide +kernel))))) (goodIn_app (gu_RX3) (gl_nil _))
set_option maxHeartbeats 4000000 in
set_option maxRecDepth 100000 in
theorem gl_c_X5_init : GoodIn zt wz_c_X5_init := goodIn_ca (zz_cons zc_135 (by decide +kernel) (zz_sub (js := [28, 142, 64, 143, 121, 37, 144, 123, 151]) (by decide +kernel) (by decide +kernel))) (goodIn_app (gu_RJx4a65c) (goodIn_app (gu_RX3) (goodIn_app (gl_c_X10_init_X3) (goodIn_app (gl_c_ArrayList_init) (gl_nil _)))))
set_option maxHeartbeats 4000000 in
set_option maxRecDepth 100000 in
theorem gl_c_X3_init : GoodIn zt wz_c_X3_init := goodIn_ca (zz_cons zc_136 (by decide +kernel) (zz_sub (js := [38, 140, 141, 145, 121, 37, 146, 123, 148, 149, 82, 150, 147]) (by decide +kernel) (by decide +kernel))) (goodIn_app (gu_RJx4a65c) (goodIn_app (gu_RX3) (goodIn_app (gl_c_X5_init) (goodIn_app (gl_c_ArrayList_init) (gl_nil _)))))
set_option maxHeartbeats 4000000 in
set_option maxRecDepth 100000 in
theorem gl_c_X10_init_X8 : GoodIn zt wz_c_X10_init_X8 := goodIn_ca (zz_cons zc_127 (by decide +kernel) (goodIn_app (a := [.methodLink RX10 1 objectInit, .instanceMethod objectInit]) (zz_sub (js := [65, 56]) (by decide +kernel) (by decide +kernel)) (zz_cons zc_81 (by decide +kernel) (zz_sub (js := [66, 70, 74]) (by decide +kernel) (by decide +kernel))))) (goodIn_app (gu_RX8) (gl_nil _))
set_option maxHeartbeats 4000000 in
set_option maxRecDepth 100000 in
theorem gl_c_X8_init : GoodIn zt wz_c_X8_init := goodIn_ca (zz_cons zc_137 (by decide +kernel) (zz_sub (js := [28, 156, 64]) (by decide +kernel) (by decide +kernel))) (goodIn_app (gl_c_X10_init_X8) (gl_nil _))
set_option maxHeartbeats 4000000 in
set_option maxRecDepth 100000 in
theorem gl_c_X7_init : GoodIn zt wz_c_X7_init := goodIn_ca (zz_cons zc_138 (by decide +kernel) (goodIn_app (a := [.methodLink RX7 3 objectInit, .instanceMethod objectInit]) (zz_sub (js := [119, 56]) (by decide +kernel) (by decide +kernel)) (zz_cons zc_81 (by decide +kernel) (zz_sub (js := [120, 121, 37, 122, 123, 157, 133, 109, 33, 110, 159, 134, 58, 29, 135, 60, 160, 136, 137, 39, 82, 138, 139, 161, 152, 153, 40, 154, 155, 162]) (by decide +kernel) (by decide +kernel))))) (goodIn_app (gu_RJx4a65c) (goodIn_app (gu_RX7) (goodIn_app (gu_RX1) (goodIn_app (gu_RX0) (goodIn_app (gu_RX3) (goodIn_app (gu_RX8) (goodIn_app (gl_c_ArrayList_init) (goodIn_app (gl_c_X1_init) (goodIn_app (gl_c_X0_init_256) (goodIn_app (gl_c_X3_init) (goodIn_app (gl_c_X8_init) (gl_nil _))))))))))))
set_option maxHeartbeats 4000000 in
set_option maxRecDepth 100000 in
theorem gl_c_X6_init : GoodIn zt wz_c_X6_init := goodIn_ca (zz_cons zc_139 (by decide +kernel) (goodIn_app (a := [.methodLink RX6 3 objectInit, .instanceMethod objectInit]) (zz_sub (js := [176, 56]) (by decide +kernel) (by decide +kernel)) (zz_cons zc_81 (by decide +kernel) (zz_sub (js := [185, 177, 178, 179, 180, 181, 182, 183, 184]) (by decide +kernel) (by decide +kernel))))) (goodIn_app (gu_RX6) (gl_nil _))
theorem gl_c_X0_init_128 : GoodIn zt wz_c_X0_init_128 := gl_c_X0_init_4096
set_option maxHeartbeats 4000000 in
set_option maxRecDepth 100000 in
theorem gl_c_X2_init : GoodIn zt wz_c_X2_init := goodIn_ca (zz_cons zc_140 (by decide +kernel) (goodIn_app (a := [.methodLink RX2 3 objectInit, .instanceMethod objectInit]) (zz_sub (js := [168, 56]) (by decide +kernel) (by decide +kernel)) (zz_cons zc_81 (by decide +kernel) (zz_sub (js := [169, 109, 33, 110, 188, 170, 58, 29, 171, 60, 189, 172, 173, 42, 174, 175, 190, 191, 186, 153, 40, 82, 187, 155, 192]) (by decide +kernel) (by decide +kernel))))) (goodIn_app (gu_RX1) (goodIn_app (gu_RX2) (goodIn_app (gu_RX0) (goodIn_app (gu_RX6) (goodIn_app (gu_RX8) (goodIn_app (gl_c_X1_init) (goodIn_app (gl_c_X0_init_1024) (goodIn_app (gl_c_X6_init) (goodIn_app (gl_c_X0_init_128) (goodIn_app (gl_c_X8_init) (gl_nil _)))))))))))
set_option maxHeartbeats 4000000 in
set_option maxRecDepth 100000 in
theorem gl_c_X11_init : GoodIn zt wz_c_X11_init := goodIn_ca (zz_cons zc_141 (by decide +kernel) (goodIn_app (a := [.methodLink RX11 1 objectInit, .instanceMethod objectInit]) (zz_sub (js := [55, 56]) (by decide +kernel) (by decide +kernel)) (zz_cons zc_81 (by decide +kernel) (zz_sub (js := [57, 58, 29, 59, 60, 195, 196, 197, 198, 83, 84, 28, 82, 85, 64, 199, 86, 87, 31, 88, 200, 100, 101, 32, 102, 201, 108, 109, 33, 110, 202, 116, 117, 34, 118, 203, 165, 166, 41, 167, 204, 193, 153, 40, 194, 155, 205, 206, 207]) (by decide +kernel) (by decide +kernel))))) (goodIn_app (gu_RX0) (goodIn_app (gu_RX11) (goodIn_app (gu_RX10) (goodIn_app (gu_RX4) (goodIn_app (gu_RX9) (goodIn_app (gu_RX1) (goodIn_app (gu_RX7) (goodIn_app (gu_RX2) (goodIn_app (gu_RX8) (goodIn_app (gl_c_X0_init_4096) (goodIn_app (gl_c_X0_init_1024) (goodIn_app (gl_c_X0_init_256) (goodIn_app (gl_c_X10_init_X10) (goodIn_app (gl_c_X4_init) (goodIn_app (gl_c_X9_init) (goodIn_app (gl_c_X1_init) (goodIn_app (gl_c_X7_init) (goodIn_app (gl_c_X2_init) (goodIn_app (gl_c_X8_init) (gl_nil _))))))))))))))))))))
set_option maxHeartbeats 4000000 in
set_option maxRecDepth 100000 in
theorem gl_c_X12_init : GoodIn zt wz_c_X12_init := goodIn_ca (zz_cons zc_142 (by decide +kernel) (goodIn_app (a := [.methodLink RX12 1 objectInit, .instanceMethod objectInit]) (zz_sub (js := [422, 56]) (by decide +kernel) (by decide +kernel)) (zz_cons zc_81 (by decide +kernel) (zz_sub (js := [115, 427, 428, 423, 430, 432, 424, 433, 434, 436, 437, 438, 440, 441, 442, 443, 444, 185, 445, 446, 447, 448, 449, 454, 456, 455]) (by decide +kernel) (by decide +kernel))))) (goodIn_app (gu_RX12) (gl_nil _))

def wz_c_M_secondHash : List Cond := .code yX12_secondHash cX12_secondHash 12 none :: ([.methodLink RX12 106 yX12_close, .instanceMethod yX12_close, .selects RX12 yX12_close yX12_close, .initialized RX12, .fieldLink RX12 49 "SignetRingModel" "state" "[I", .constant RX12 131 1779033703, .constant RX12 132 (-1150833019), .constant RX12 133 1013904242, .constant RX12 134 (-1521486534), .constant RX12 135 1359893119, .constant RX12 136 (-1694144372), .constant RX12 137 528734635, .constant RX12 138 1541459225, .fieldLink RX12 52 "SignetRingModel" "now" "[I", .fieldLink RX12 46 "SignetRingModel" "words" "[I", .fieldLink RX12 40 "SignetRingModel" "message" "[I", .methodLink RX12 115 yX12_number, .static yX12_number, .methodLink RX12 119 yX12_left, .static yX12_left, .fieldLink RX12 139 "SignetRingModel" "ROUNDS" "[I", .methodLink RX12 127 yX12_keep, .instanceMethod yX12_keep, .selects RX12 yX12_keep yX12_keep] ++ (wsX120 ++ (wz_c_M_close ++ (wz_c_M_number ++ (wz_c_M_left ++ (wz_c_M_keep_2_0 ++ (wz_c_M_keep_2_1 ++ (wz_c_M_keep_2_2 ++ (wz_c_M_keep_2_3 ++ (wz_c_M_keep_2_4 ++ (wz_c_M_keep_2_5 ++ (wz_c_M_keep_2_6 ++ (wz_c_M_keep_2_7 ++ ([]))))))))))))))
set_option maxRecDepth 100000 in
theorem gz_c_M_secondHash_c_M_close : GoodIn wz_c_M_secondHash wz_c_M_close := goodIn_sub (fun w h => List.mem_cons_of_mem _ (List.mem_append_right _ (List.mem_append_right _ (List.mem_append_left _ h)))) (by decide +kernel)
set_option maxRecDepth 100000 in
theorem gz_c_M_secondHash_c_M_number : GoodIn wz_c_M_secondHash wz_c_M_number := goodIn_sub (fun w h => List.mem_cons_of_mem _ (List.mem_append_right _ (List.mem_append_right _ (List.mem_append_right _ (List.mem_append_left _ h))))) (by decide +kernel)
set_option maxRecDepth 100000 in
theorem gz_c_M_secondHash_c_M_left : GoodIn wz_c_M_secondHash wz_c_M_left := goodIn_sub (fun w h => List.mem_cons_of_mem _ (List.mem_append_right _ (List.mem_append_right _ (List.mem_append_right _ (List.mem_append_right _ (List.mem_append_left _ h)))))) (by decide +kernel)
set_option maxRecDepth 100000 in
theorem gz_c_M_secondHash_c_M_keep_2_0 : GoodIn wz_c_M_secondHash wz_c_M_keep_2_0 := goodIn_sub (fun w h => List.mem_cons_of_mem _ (List.mem_append_right _ (List.mem_append_right _ (List.mem_append_right _ (List.mem_append_right _ (List.mem_append_right _ (List.mem_append_left _ h))))))) (by decide +kernel)
set_option maxRecDepth 100000 in
theorem gz_c_M_secondHash_c_M_keep_2_1 : GoodIn wz_c_M_secondHash wz_c_M_keep_2_1 := goodIn_sub (fun w h => List.mem_cons_of_mem _ (List.mem_append_right _ (List.mem_append_right _ (List.mem_append_right _ (List.mem_append_right _ (List.mem_append_right _ (List.mem_append_right _ (List.mem_append_left _ h)))))))) (by decide +kernel)
set_option maxRecDepth 100000 in
theorem gz_c_M_secondHash_c_M_keep_2_2 : GoodIn wz_c_M_secondHash wz_c_M_keep_2_2 := goodIn_sub (fun w h => List.mem_cons_of_mem _ (List.mem_append_right _ (List.mem_append_right _ (List.mem_append_right _ (List.mem_append_right _ (List.mem_append_right _ (List.mem_append_right _ (List.mem_append_right _ (List.mem_append_left _ h))))))))) (by decide +kernel)
set_option maxRecDepth 100000 in
theorem gz_c_M_secondHash_c_M_keep_2_3 : GoodIn wz_c_M_secondHash wz_c_M_keep_2_3 := goodIn_sub (fun w h => List.mem_cons_of_mem _ (List.mem_append_right _ (List.mem_append_right _ (List.mem_append_right _ (List.mem_append_right _ (List.mem_append_right _ (List.mem_append_right _ (List.mem_append_right _ (List.mem_append_right _ (List.mem_append_left _ h)))))))))) (by decide +kernel)
set_option maxRecDepth 100000 in
theorem gz_c_M_secondHash_c_M_keep_2_4 : GoodIn wz_c_M_secondHash wz_c_M_keep_2_4 := goodIn_sub (fun w h => List.mem_cons_of_mem _ (List.mem_append_right _ (List.mem_append_right _ (List.mem_append_right _ (List.mem_append_right _ (List.mem_append_right _ (List.mem_append_right _ (List.mem_append_right _ (List.mem_append_right _ (List.mem_append_right _ (List.mem_append_left _ h))))))))))) (by decide +kernel)
set_option maxRecDepth 100000 in
theorem gz_c_M_secondHash_c_M_keep_2_5 : GoodIn wz_c_M_secondHash wz_c_M_keep_2_5 := goodIn_sub (fun w h => List.mem_cons_of_mem _ (List.mem_append_right _ (List.mem_append_right _ (List.mem_append_right _ (List.mem_append_right _ (List.mem_append_right _ (List.mem_append_right _ (List.mem_append_right _ (List.mem_append_right _ (List.mem_append_right _ (List.mem_append_right _ (List.mem_append_left _ h)))))))))))) (by decide +kernel)
set_option maxRecDepth 100000 in
theorem gz_c_M_secondHash_c_M_keep_2_6 : GoodIn wz_c_M_secondHash wz_c_M_keep_2_6 := goodIn_sub (fun w h => List.mem_cons_of_mem _ (List.mem_append_right _ (List.mem_append_right _ (List.mem_append_right _ (List.mem_append_right _ (List.mem_append_right _ (List.mem_append_right _ (List.mem_append_right _ (List.mem_append_right _ (List.mem_append_right _ (List.mem_append_right _ (List.mem_append_right _ (List.mem_append_left _ h))))))))))))) (by decide +kernel)
set_option maxRecDepth 100000 in
theorem gz_c_M_secondHash_c_M_keep_2_7 : GoodIn wz_c_M_secondHash wz_c_M_keep_2_7 := goodIn_sub (fun w h => List.mem_cons_of_mem _ (List.mem_append_right _ (List.mem_append_right _ (List.mem_append_right _ (List.mem_append_right _ (List.mem_append_right _ (List.mem_append_right _ (List.mem_append_right _ (List.mem_append_right _ (List.mem_append_right _ (List.mem_append_right _ (List.mem_append_right _ (List.mem_append_right _ (List.mem_append_left _ h)))))))))))))) (by decide +kernel)
set_option maxRecDepth 100000 in
theorem gv_c_M_secondHash_c_M_close_106 : GoodIn wz_c_M_secondHash (wsV RX12 106 RX12 yX12_close wz_c_M_close) := goodIn_app (goodIn_of _ (by decide +kernel)) gz_c_M_secondHash_c_M_close
set_option maxRecDepth 100000 in
theorem gv_c_M_secondHash_c_M_number_115 : GoodIn wz_c_M_secondHash (va_wsS RX12 115 yX12_number wz_c_M_number) := goodIn_app (goodIn_of _ (by decide +kernel)) gz_c_M_secondHash_c_M_number
set_option maxRecDepth 100000 in
theorem gv_c_M_secondHash_c_M_left_119 : GoodIn wz_c_M_secondHash (va_wsS RX12 119 yX12_left wz_c_M_left) := goodIn_app (goodIn_of _ (by decide +kernel)) gz_c_M_secondHash_c_M_left
set_option maxRecDepth 100000 in
theorem gv_c_M_secondHash_c_M_keep_2_0_127 : GoodIn wz_c_M_secondHash (wsV RX12 127 RX12 yX12_keep wz_c_M_keep_2_0) := goodIn_app (goodIn_of _ (by decide +kernel)) gz_c_M_secondHash_c_M_keep_2_0
set_option maxRecDepth 100000 in
theorem gv_c_M_secondHash_c_M_keep_2_1_127 : GoodIn wz_c_M_secondHash (wsV RX12 127 RX12 yX12_keep wz_c_M_keep_2_1) := goodIn_app (goodIn_of _ (by decide +kernel)) gz_c_M_secondHash_c_M_keep_2_1
set_option maxRecDepth 100000 in
theorem gv_c_M_secondHash_c_M_keep_2_2_127 : GoodIn wz_c_M_secondHash (wsV RX12 127 RX12 yX12_keep wz_c_M_keep_2_2) := goodIn_app (goodIn_of _ (by decide +kernel)) gz_c_M_secondHash_c_M_keep_2_2
set_option maxRecDepth 100000 in
theorem gv_c_M_secondHash_c_M_keep_2_3_127 : GoodIn wz_c_M_secondHash (wsV RX12 127 RX12 yX12_keep wz_c_M_keep_2_3) := goodIn_app (goodIn_of _ (by decide +kernel)) gz_c_M_secondHash_c_M_keep_2_3
set_option maxRecDepth 100000 in
theorem gv_c_M_secondHash_c_M_keep_2_4_127 : GoodIn wz_c_M_secondHash (wsV RX12 127 RX12 yX12_keep wz_c_M_keep_2_4) := goodIn_app (goodIn_of _ (by decide +kernel)) gz_c_M_secondHash_c_M_keep_2_4
set_option maxRecDepth 100000 in
theorem gv_c_M_secondHash_c_M_keep_2_5_127 : GoodIn wz_c_M_secondHash (wsV RX12 127 RX12 yX12_keep wz_c_M_keep_2_5) := goodIn_app (goodIn_of _ (by decide +kernel)) gz_c_M_secondHash_c_M_keep_2_5
set_option maxRecDepth 100000 in
theorem gv_c_M_secondHash_c_M_keep_2_6_127 : GoodIn wz_c_M_secondHash (wsV RX12 127 RX12 yX12_keep wz_c_M_keep_2_6) := goodIn_app (goodIn_of _ (by decide +kernel)) gz_c_M_secondHash_c_M_keep_2_6
set_option maxRecDepth 100000 in
theorem gv_c_M_secondHash_c_M_keep_2_7_127 : GoodIn wz_c_M_secondHash (wsV RX12 127 RX12 yX12_keep wz_c_M_keep_2_7) := goodIn_app (goodIn_of _ (by decide +kernel)) gz_c_M_secondHash_c_M_keep_2_7
set_option maxHeartbeats 4000000 in
set_option maxRecDepth 100000 in
theorem ax_c_M_secondHash_0 : ∀ k1 : Nat, k1 < 16 → 0 ≤ k1 → ¬ (64 : Int32) ≤ (nI k1) := by decide +kernel
set_option maxHeartbeats 4000000 in
set_option maxRecDepth 100000 in
theorem ax_c_M_secondHash_1 : ∀ k1 : Nat, k1 < 16 → 0 ≤ k1 → ¬ (16 : Int32) ≤ (nI k1) := by decide +kernel
set_option maxHeartbeats 4000000 in
set_option maxRecDepth 100000 in
theorem ax_c_M_secondHash_2 : ∀ k1 : Nat, k1 < 16 → 0 ≤ k1 → (4 : Int32) * (nI k1) = nI (4 * k1) := by decide +kernel
set_option maxHeartbeats 4000000 in
set_option maxRecDepth 100000 in
theorem ax_c_M_secondHash_3 : ∀ k1 : Nat, k1 < 16 → 0 ≤ k1 → (0 : Int32) + (nI (4 * k1)) = nI (4 * k1) := by decide +kernel
set_option maxHeartbeats 4000000 in
set_option maxRecDepth 100000 in
theorem ax_c_M_secondHash_4 : ∀ k1 : Nat, k1 < 16 → 0 ≤ k1 → ((((((((0 : Int64) + ((tM ((4 * k1) + 0)).toInt64)) * (256 : Int64)) + ((tM ((4 * k1) + 1)).toInt64)) * (256 : Int64)) + ((tM ((4 * k1) + 2)).toInt64)) * (256 : Int64)) + ((tM ((4 * k1) + 3)).toInt64)).toInt32 = tW2 k1 := by decide +kernel
set_option maxHeartbeats 4000000 in
set_option maxRecDepth 100000 in
theorem ax_c_M_secondHash_5 : ∀ k1 : Nat, k1 < 16 → 0 ≤ k1 → (64 : Int32) - (nI k1) = nI (64 - k1) := by decide +kernel
set_option maxHeartbeats 4000000 in
set_option maxRecDepth 100000 in
theorem ax_c_M_secondHash_6 : ∀ k1 : Nat, k1 < 16 → 0 ≤ k1 → (nI (64 - k1)) &&& (7 : Int32) = nI ((64 - k1) % 8) := by decide +kernel
set_option maxHeartbeats 4000000 in
set_option maxRecDepth 100000 in
theorem ax_c_M_secondHash_7 : ∀ k1 : Nat, k1 < 16 → 0 ≤ k1 → (nI ((64 - k1) % 8)) + (4 : Int32) = nI (((64 - k1) % 8) + 4) := by decide +kernel
set_option maxHeartbeats 4000000 in
set_option maxRecDepth 100000 in
theorem ax_c_M_secondHash_8 : ∀ k1 : Nat, k1 < 16 → 0 ≤ k1 → (nI (((64 - k1) % 8) + 4)) &&& (7 : Int32) = nI ((((64 - k1) % 8) + 4) % 8) := by decide +kernel
set_option maxHeartbeats 4000000 in
set_option maxRecDepth 100000 in
theorem ax_c_M_secondHash_9 : ∀ k1 : Nat, k1 < 16 → 0 ≤ k1 → (nI ((64 - k1) % 8)) + (5 : Int32) = nI (((64 - k1) % 8) + 5) := by decide +kernel
set_option maxHeartbeats 4000000 in
set_option maxRecDepth 100000 in
theorem ax_c_M_secondHash_10 : ∀ k1 : Nat, k1 < 16 → 0 ≤ k1 → (nI (((64 - k1) % 8) + 5)) &&& (7 : Int32) = nI ((((64 - k1) % 8) + 5) % 8) := by decide +kernel
set_option maxHeartbeats 4000000 in
set_option maxRecDepth 100000 in
theorem ax_c_M_secondHash_11 : ∀ k1 : Nat, k1 < 16 → 0 ≤ k1 → (nI ((64 - k1) % 8)) + (6 : Int32) = nI (((64 - k1) % 8) + 6) := by decide +kernel
set_option maxHeartbeats 4000000 in
set_option maxRecDepth 100000 in
theorem ax_c_M_secondHash_12 : ∀ k1 : Nat, k1 < 16 → 0 ≤ k1 → (nI (((64 - k1) % 8) + 6)) &&& (7 : Int32) = nI ((((64 - k1) % 8) + 6) % 8) := by decide +kernel
set_option maxHeartbeats 4000000 in
set_option maxRecDepth 100000 in
theorem ax_c_M_secondHash_13 : ∀ k1 : Nat, k1 < 16 → 0 ≤ k1 → (nI ((64 - k1) % 8)) + (7 : Int32) = nI (((64 - k1) % 8) + 7) := by decide +kernel
set_option maxHeartbeats 4000000 in
set_option maxRecDepth 100000 in
theorem ax_c_M_secondHash_14 : ∀ k1 : Nat, k1 < 16 → 0 ≤ k1 → (nI (((64 - k1) % 8) + 7)) &&& (7 : Int32) = nI ((((64 - k1) % 8) + 7) % 8) := by decide +kernel
set_option maxHeartbeats 4000000 in
set_option maxRecDepth 100000 in
theorem ax_c_M_secondHash_15 : ∀ k1 : Nat, k1 < 16 → 0 ≤ k1 → (((((tR k1) ((((64 - k1) % 8) + 7) % 8)) + ((((((tR k1) ((((64 - k1) % 8) + 4) % 8)) <<< ((26 : Int32) &&& 31)) ||| (zu ((tR k1) ((((64 - k1) % 8) + 4) % 8)) ((32 : Int32) - (26 : Int32)))) ^^^ ((((tR k1) ((((64 - k1) % 8) + 4) % 8)) <<< ((21 : Int32) &&& 31)) ||| (zu ((tR k1) ((((64 - k1) % 8) + 4) % 8)) ((32 : Int32) - (21 : Int32))))) ^^^ ((((tR k1) ((((64 - k1) % 8) + 4) % 8)) <<< ((7 : Int32) &&& 31)) ||| (zu ((tR k1) ((((64 - k1) % 8) + 4) % 8)) ((32 : Int32) - (7 : Int32)))))) + (((tR k1) ((((64 - k1) % 8) + 6) % 8)) ^^^ (((tR k1) ((((64 - k1) % 8) + 4) % 8)) &&& (((tR k1) ((((64 - k1) % 8) + 5) % 8)) ^^^ ((tR k1) ((((64 - k1) % 8) + 6) % 8)))))) + (tK k1)) + (tW2 k1) = tT k1 := by decide +kernel
set_option maxHeartbeats 4000000 in
set_option maxRecDepth 100000 in
theorem ax_c_M_secondHash_16 : ∀ k1 : Nat, k1 < 16 → 0 ≤ k1 → (nI ((64 - k1) % 8)) + (1 : Int32) = nI (((64 - k1) % 8) + 1) := by decide +kernel
set_option maxHeartbeats 4000000 in
set_option maxRecDepth 100000 in
theorem ax_c_M_secondHash_17 : ∀ k1 : Nat, k1 < 16 → 0 ≤ k1 → (nI (((64 - k1) % 8) + 1)) &&& (7 : Int32) = nI ((((64 - k1) % 8) + 1) % 8) := by decide +kernel
set_option maxHeartbeats 4000000 in
set_option maxRecDepth 100000 in
theorem ax_c_M_secondHash_18 : ∀ k1 : Nat, k1 < 16 → 0 ≤ k1 → (nI ((64 - k1) % 8)) + (2 : Int32) = nI (((64 - k1) % 8) + 2) := by decide +kernel
set_option maxHeartbeats 4000000 in
set_option maxRecDepth 100000 in
theorem ax_c_M_secondHash_19 : ∀ k1 : Nat, k1 < 16 → 0 ≤ k1 → (nI (((64 - k1) % 8) + 2)) &&& (7 : Int32) = nI ((((64 - k1) % 8) + 2) % 8) := by decide +kernel
set_option maxHeartbeats 4000000 in
set_option maxRecDepth 100000 in
theorem ax_c_M_secondHash_20 : ∀ k1 : Nat, k1 < 16 → 0 ≤ k1 → (nI ((64 - k1) % 8)) + (3 : Int32) = nI (((64 - k1) % 8) + 3) := by decide +kernel
set_option maxHeartbeats 4000000 in
set_option maxRecDepth 100000 in
theorem ax_c_M_secondHash_21 : ∀ k1 : Nat, k1 < 16 → 0 ≤ k1 → (nI (((64 - k1) % 8) + 3)) &&& (7 : Int32) = nI ((((64 - k1) % 8) + 3) % 8) := by decide +kernel
set_option maxHeartbeats 4000000 in
set_option maxRecDepth 100000 in
theorem ax_c_M_secondHash_22 : ∀ k1 : Nat, k1 < 16 → 0 ≤ k1 → ∀ j : Nat, j < 8 → upd (upd (tR k1) ((((64 - k1) % 8) + 3) % 8) (((tR k1) ((((64 - k1) % 8) + 3) % 8)) + (tT k1))) ((((64 - k1) % 8) + 7) % 8) (((tT k1) + ((((((tR k1) ((64 - k1) % 8)) <<< ((30 : Int32) &&& 31)) ||| (zu ((tR k1) ((64 - k1) % 8)) ((32 : Int32) - (30 : Int32)))) ^^^ ((((tR k1) ((64 - k1) % 8)) <<< ((19 : Int32) &&& 31)) ||| (zu ((tR k1) ((64 - k1) % 8)) ((32 : Int32) - (19 : Int32))))) ^^^ ((((tR k1) ((64 - k1) % 8)) <<< ((10 : Int32) &&& 31)) ||| (zu ((tR k1) ((64 - k1) % 8)) ((32 : Int32) - (10 : Int32)))))) + ((((tR k1) ((64 - k1) % 8)) &&& ((tR k1) ((((64 - k1) % 8) + 1) % 8))) ||| (((tR k1) ((((64 - k1) % 8) + 2) % 8)) &&& (((tR k1) ((64 - k1) % 8)) ||| ((tR k1) ((((64 - k1) % 8) + 1) % 8)))))) j = (tR (k1 + 1)) j := by decide +kernel
set_option maxHeartbeats 4000000 in
set_option maxRecDepth 100000 in
theorem ax_c_M_secondHash_23 : ∀ k1 : Nat, k1 < 16 → 0 ≤ k1 → nI k1 + Int32.ofInt 1 = nI (k1 + 1) := by decide +kernel
set_option maxHeartbeats 4000000 in
set_option maxRecDepth 100000 in
theorem ax_c_M_secondHash_24 : ∀ k2 : Nat, k2 < 64 → 16 ≤ k2 → ¬ (64 : Int32) ≤ (nI k2) := by decide +kernel
set_option maxHeartbeats 4000000 in
set_option maxRecDepth 100000 in
theorem ax_c_M_secondHash_25 : ∀ k2 : Nat, k2 < 64 → 16 ≤ k2 → (16 : Int32) ≤ (nI k2) := by decide +kernel
set_option maxHeartbeats 4000000 in
set_option maxRecDepth 100000 in
theorem ax_c_M_secondHash_26 : ∀ k2 : Nat, k2 < 64 → 16 ≤ k2 → (nI k2) - (15 : Int32) = nI (k2 - 15) := by decide +kernel
set_option maxHeartbeats 4000000 in
set_option maxRecDepth 100000 in
theorem ax_c_M_secondHash_27 : ∀ k2 : Nat, k2 < 64 → 16 ≤ k2 → (nI k2) - (2 : Int32) = nI (k2 - 2) := by decide +kernel
set_option maxHeartbeats 4000000 in
set_option maxRecDepth 100000 in
theorem ax_c_M_secondHash_28 : ∀ k2 : Nat, k2 < 64 → 16 ≤ k2 → (nI k2) - (16 : Int32) = nI (k2 - 16) := by decide +kernel
set_option maxHeartbeats 4000000 in
set_option maxRecDepth 100000 in
theorem ax_c_M_secondHash_29 : ∀ k2 : Nat, k2 < 64 → 16 ≤ k2 → (nI k2) - (7 : Int32) = nI (k2 - 7) := by decide +kernel
set_option maxHeartbeats 4000000 in
set_option maxRecDepth 100000 in
theorem ax_c_M_secondHash_30 : ∀ k2 : Nat, k2 < 64 → 16 ≤ k2 → ((((tW2 (k2 - 16)) + (tW2 (k2 - 7))) + (((((tW2 (k2 - 15)) <<< ((25 : Int32) &&& 31)) ||| (zu (tW2 (k2 - 15)) ((32 : Int32) - (25 : Int32)))) ^^^ (((tW2 (k2 - 15)) <<< ((14 : Int32) &&& 31)) ||| (zu (tW2 (k2 - 15)) ((32 : Int32) - (14 : Int32))))) ^^^ (zu (tW2 (k2 - 15)) (3 : Int32)))) + (((((tW2 (k2 - 2)) <<< ((15 : Int32) &&& 31)) ||| (zu (tW2 (k2 - 2)) ((32 : Int32) - (15 : Int32)))) ^^^ (((tW2 (k2 - 2)) <<< ((13 : Int32) &&& 31)) ||| (zu (tW2 (k2 - 2)) ((32 : Int32) - (13 : Int32))))) ^^^ (zu (tW2 (k2 - 2)) (10 : Int32)))) = tW2 k2 := by decide +kernel
set_option maxHeartbeats 4000000 in
set_option maxRecDepth 100000 in
theorem ax_c_M_secondHash_31 : ∀ k2 : Nat, k2 < 64 → 16 ≤ k2 → (64 : Int32) - (nI k2) = nI (64 - k2) := by decide +kernel
set_option maxHeartbeats 4000000 in
set_option maxRecDepth 100000 in
theorem ax_c_M_secondHash_32 : ∀ k2 : Nat, k2 < 64 → 16 ≤ k2 → (nI (64 - k2)) &&& (7 : Int32) = nI ((64 - k2) % 8) := by decide +kernel
set_option maxHeartbeats 4000000 in
set_option maxRecDepth 100000 in
theorem ax_c_M_secondHash_33 : ∀ k2 : Nat, k2 < 64 → 16 ≤ k2 → (nI ((64 - k2) % 8)) + (4 : Int32) = nI (((64 - k2) % 8) + 4) := by decide +kernel
set_option maxHeartbeats 4000000 in
set_option maxRecDepth 100000 in
theorem ax_c_M_secondHash_34 : ∀ k2 : Nat, k2 < 64 → 16 ≤ k2 → (nI (((64 - k2) % 8) + 4)) &&& (7 : Int32) = nI ((((64 - k2) % 8) + 4) % 8) := by decide +kernel
set_option maxHeartbeats 4000000 in
set_option maxRecDepth 100000 in
theorem ax_c_M_secondHash_35 : ∀ k2 : Nat, k2 < 64 → 16 ≤ k2 → (nI ((64 - k2) % 8)) + (5 : Int32) = nI (((64 - k2) % 8) + 5) := by decide +kernel
set_option maxHeartbeats 4000000 in
set_option maxRecDepth 100000 in
theorem ax_c_M_secondHash_36 : ∀ k2 : Nat, k2 < 64 → 16 ≤ k2 → (nI (((64 - k2) % 8) + 5)) &&& (7 : Int32) = nI ((((64 - k2) % 8) + 5) % 8) := by decide +kernel
set_option maxHeartbeats 4000000 in
set_option maxRecDepth 100000 in
theorem ax_c_M_secondHash_37 : ∀ k2 : Nat, k2 < 64 → 16 ≤ k2 → (nI ((64 - k2) % 8)) + (6 : Int32) = nI (((64 - k2) % 8) + 6) := by decide +kernel
set_option maxHeartbeats 4000000 in
set_option maxRecDepth 100000 in
theorem ax_c_M_secondHash_38 : ∀ k2 : Nat, k2 < 64 → 16 ≤ k2 → (nI (((64 - k2) % 8) + 6)) &&& (7 : Int32) = nI ((((64 - k2) % 8) + 6) % 8) := by decide +kernel
set_option maxHeartbeats 4000000 in
set_option maxRecDepth 100000 in
theorem ax_c_M_secondHash_39 : ∀ k2 : Nat, k2 < 64 → 16 ≤ k2 → (nI ((64 - k2) % 8)) + (7 : Int32) = nI (((64 - k2) % 8) + 7) := by decide +kernel
set_option maxHeartbeats 4000000 in
set_option maxRecDepth 100000 in
theorem ax_c_M_secondHash_40 : ∀ k2 : Nat, k2 < 64 → 16 ≤ k2 → (nI (((64 - k2) % 8) + 7)) &&& (7 : Int32) = nI ((((64 - k2) % 8) + 7) % 8) := by decide +kernel
set_option maxHeartbeats 4000000 in
set_option maxRecDepth 100000 in
theorem ax_c_M_secondHash_41 : ∀ k2 : Nat, k2 < 64 → 16 ≤ k2 → (((((tR k2) ((((64 - k2) % 8) + 7) % 8)) + ((((((tR k2) ((((64 - k2) % 8) + 4) % 8)) <<< ((26 : Int32) &&& 31)) ||| (zu ((tR k2) ((((64 - k2) % 8) + 4) % 8)) ((32 : Int32) - (26 : Int32)))) ^^^ ((((tR k2) ((((64 - k2) % 8) + 4) % 8)) <<< ((21 : Int32) &&& 31)) ||| (zu ((tR k2) ((((64 - k2) % 8) + 4) % 8)) ((32 : Int32) - (21 : Int32))))) ^^^ ((((tR k2) ((((64 - k2) % 8) + 4) % 8)) <<< ((7 : Int32) &&& 31)) ||| (zu ((tR k2) ((((64 - k2) % 8) + 4) % 8)) ((32 : Int32) - (7 : Int32)))))) + (((tR k2) ((((64 - k2) % 8) + 6) % 8)) ^^^ (((tR k2) ((((64 - k2) % 8) + 4) % 8)) &&& (((tR k2) ((((64 - k2) % 8) + 5) % 8)) ^^^ ((tR k2) ((((64 - k2) % 8) + 6) % 8)))))) + (tK k2)) + (tW2 k2) = tT k2 := by decide +kernel
set_option maxHeartbeats 4000000 in
set_option maxRecDepth 100000 in
theorem ax_c_M_secondHash_42 : ∀ k2 : Nat, k2 < 64 → 16 ≤ k2 → (nI ((64 - k2) % 8)) + (1 : Int32) = nI (((64 - k2) % 8) + 1) := by decide +kernel
set_option maxHeartbeats 4000000 in
set_option maxRecDepth 100000 in
theorem ax_c_M_secondHash_43 : ∀ k2 : Nat, k2 < 64 → 16 ≤ k2 → (nI (((64 - k2) % 8) + 1)) &&& (7 : Int32) = nI ((((64 - k2) % 8) + 1) % 8) := by decide +kernel
set_option maxHeartbeats 4000000 in
set_option maxRecDepth 100000 in
theorem ax_c_M_secondHash_44 : ∀ k2 : Nat, k2 < 64 → 16 ≤ k2 → (nI ((64 - k2) % 8)) + (2 : Int32) = nI (((64 - k2) % 8) + 2) := by decide +kernel
set_option maxHeartbeats 4000000 in
set_option maxRecDepth 100000 in
theorem ax_c_M_secondHash_45 : ∀ k2 : Nat, k2 < 64 → 16 ≤ k2 → (nI (((64 - k2) % 8) + 2)) &&& (7 : Int32) = nI ((((64 - k2) % 8) + 2) % 8) := by decide +kernel
set_option maxHeartbeats 4000000 in
set_option maxRecDepth 100000 in
theorem ax_c_M_secondHash_46 : ∀ k2 : Nat, k2 < 64 → 16 ≤ k2 → (nI ((64 - k2) % 8)) + (3 : Int32) = nI (((64 - k2) % 8) + 3) := by decide +kernel
set_option maxHeartbeats 4000000 in
set_option maxRecDepth 100000 in
theorem ax_c_M_secondHash_47 : ∀ k2 : Nat, k2 < 64 → 16 ≤ k2 → (nI (((64 - k2) % 8) + 3)) &&& (7 : Int32) = nI ((((64 - k2) % 8) + 3) % 8) := by decide +kernel
set_option maxHeartbeats 4000000 in
set_option maxRecDepth 100000 in
theorem ax_c_M_secondHash_48 : ∀ k2 : Nat, k2 < 64 → 16 ≤ k2 → ∀ j : Nat, j < 8 → upd (upd (tR k2) ((((64 - k2) % 8) + 3) % 8) (((tR k2) ((((64 - k2) % 8) + 3) % 8)) + (tT k2))) ((((64 - k2) % 8) + 7) % 8) (((tT k2) + ((((((tR k2) ((64 - k2) % 8)) <<< ((30 : Int32) &&& 31)) ||| (zu ((tR k2) ((64 - k2) % 8)) ((32 : Int32) - (30 : Int32)))) ^^^ ((((tR k2) ((64 - k2) % 8)) <<< ((19 : Int32) &&& 31)) ||| (zu ((tR k2) ((64 - k2) % 8)) ((32 : Int32) - (19 : Int32))))) ^^^ ((((tR k2) ((64 - k2) % 8)) <<< ((10 : Int32) &&& 31)) ||| (zu ((tR k2) ((64 - k2) % 8)) ((32 : Int32) - (10 : Int32)))))) + ((((tR k2) ((64 - k2) % 8)) &&& ((tR k2) ((((64 - k2) % 8) + 1) % 8))) ||| (((tR k2) ((((64 - k2) % 8) + 2) % 8)) &&& (((tR k2) ((64 - k2) % 8)) ||| ((tR k2) ((((64 - k2) % 8) + 1) % 8)))))) j = (tR (k2 + 1)) j := by decide +kernel
set_option maxHeartbeats 4000000 in
set_option maxRecDepth 100000 in
theorem ax_c_M_secondHash_49 : ∀ k2 : Nat, k2 < 64 → 16 ≤ k2 → nI k2 + Int32.ofInt 1 = nI (k2 + 1) := by decide +kernel
set_option maxHeartbeats 4000000 in
set_option maxRecDepth 100000 in
theorem c_M_secondHash (l : Launch) (D : va_G) (y : Nat → ClassId) (sz : Nat) (h0 : Nat) (ms : Nat) (wd : Nat) (dg : Nat) (st : Nat) (nw : Nat) (w1 : Value) (w2 : Value) (w3 : Value) (w4 : Value) (w5 : Value) (w6 : Value) (w7 : Value) (w8 : Value) (w9 : Value) (w10 : Value) (w11 : Value) (w12 : Value) (w13 : Value) (w14 : Value) (w15 : Value) (w16 : Value) (w17 : Value) (w18 : Value) (w19 : Value) (w20 : Value) (w21 : Value) (w22 : Value) (w23 : Value) (w24 : Value) (w25 : Value) (w26 : Value) (w27 : Value) (w28 : Value) (w29 : Value) (w30 : Value) (w31 : Value) (w32 : Value) (w33 : Value) (w34 : Value) (w35 : Value) (w36 : Value) (w37 : Value) (w38 : Value) (w39 : Value) (w40 : Value) (w41 : Value) (w42 : Value) (w43 : Value) (w44 : Value) (w45 : Value) (w46 : Value) (w47 : Value) (w48 : Value) (w49 : Value) (w50 : Value) (w51 : Value) (w52 : Value) (w53 : Value) (w54 : Value) (w55 : Value) (w56 : Value) (w57 : Value) (w58 : Value) (f1 : Nat → Int32) (f2 : Nat → Int32) (f3 : Nat → Int32) (f4 : Nat → Int32) (f5 : Nat → Int32) (e4 : Nat) : Met l yX12_secondHash wz_c_M_secondHash ({ frames := 3, cells := 0, slots := 0, locals := 67 }) (va_Pc [.ref h0] (zB D y [(h0, .inr (16, [w1, w2, w3, w4, w5, w6, w7, w8, w9, w10, w11, w12, w13, w14, .int (nI 0), .ref ms, .ref dg, .ref wd, .ref st, .ref nw, w15, w16, w17, w18, w19, w20, w21, w22, w23, w24, w25, w26, w27, w28, w29, w30, w31, w32, w33, w34, w35, w36, w37, w38, w39, w40, w41, w42, w43, w44, w45, w46, w47, w48, w49, w50, w51, w52, w53, w54, w55, w56, w57, w58])), (ms, .inl (y 1, 30000, .inl f1)), (wd, .inl (y 1, 80, .inl f2)), (dg, .inl (y 1, 32, .inl f3)), (st, .inl (y 1, 8, .inl f4)), (nw, .inl (y 1, 8, .inl f5))] sz [] [("SignetRingModel", "ROUNDS", "[I", .ref e4)] [] [.inl (e4, 64, tK)])) (va_Qv (fun _ : Unit => True) (fun _ t => va_P D vwCl [(h0, .inr (16, [w1, w2, w3, w4, w5, w6, w7, w8, w9, w10, w11, w12, w13, w14, .int (nI 64), .ref ms, .ref dg, .ref wd, .ref st, .ref nw, w15, w16, w17, w18, w19, w20, w21, w22, w23, w24, w25, w26, w27, w28, w29, w30, w31, w32, w33, w34, w35, w36, w37, w38, w39, w40, w41, w42, w43, w44, w45, w46, w47, w48, w49, w50, w51, w52, w53, w54, w55, w56, w57, w58])), (ms, .inl (y 1, 30000, .inl (zf tM 64 f1))), (wd, .inl (y 1, 80, .inl (zf tW2 64 f2))), (dg, .inl (y 1, 32, .inl (zf tO2 32 f3))), (st, .inl (y 1, 8, .inl (zf tD2 8 (zf tS2 8 f4)))), (nw, .inl (y 1, 8, .inl (zf (tR 64) 8 f5)))] t.heap ∧ va_D (va_A [(h0, .inr (16, [w1, w2, w3, w4, w5, w6, w7, w8, w9, w10, w11, w12, w13, w14, .int (nI 0), .ref ms, .ref dg, .ref wd, .ref st, .ref nw, w15, w16, w17, w18, w19, w20, w21, w22, w23, w24, w25, w26, w27, w28, w29, w30, w31, w32, w33, w34, w35, w36, w37, w38, w39, w40, w41, w42, w43, w44, w45, w46, w47, w48, w49, w50, w51, w52, w53, w54, w55, w56, w57, w58])), (ms, .inl (y 1, 30000, .inl f1)), (wd, .inl (y 1, 80, .inl f2)), (dg, .inl (y 1, 32, .inl f3)), (st, .inl (y 1, 8, .inl f4)), (nw, .inl (y 1, 8, .inl f5))] sz) [(h0, .inr (16, [w1, w2, w3, w4, w5, w6, w7, w8, w9, w10, w11, w12, w13, w14, .int (nI 64), .ref ms, .ref dg, .ref wd, .ref st, .ref nw, w15, w16, w17, w18, w19, w20, w21, w22, w23, w24, w25, w26, w27, w28, w29, w30, w31, w32, w33, w34, w35, w36, w37, w38, w39, w40, w41, w42, w43, w44, w45, w46, w47, w48, w49, w50, w51, w52, w53, w54, w55, w56, w57, w58])), (ms, .inl (y 1, 30000, .inl (zf tM 64 f1))), (wd, .inl (y 1, 80, .inl (zf tW2 64 f2))), (dg, .inl (y 1, 32, .inl (zf tO2 32 f3))), (st, .inl (y 1, 8, .inl (zf tD2 8 (zf tS2 8 f4)))), (nw, .inl (y 1, 8, .inl (zf (tR 64) 8 f5)))]) (va_A [(h0, .inr (16, [w1, w2, w3, w4, w5, w6, w7, w8, w9, w10, w11, w12, w13, w14, .int (nI 0), .ref ms, .ref dg, .ref wd, .ref st, .ref nw, w15, w16, w17, w18, w19, w20, w21, w22, w23, w24, w25, w26, w27, w28, w29, w30, w31, w32, w33, w34, w35, w36, w37, w38, w39, w40, w41, w42, w43, w44, w45, w46, w47, w48, w49, w50, w51, w52, w53, w54, w55, w56, w57, w58])), (ms, .inl (y 1, 30000, .inl f1)), (wd, .inl (y 1, 80, .inl f2)), (dg, .inl (y 1, 32, .inl f3)), (st, .inl (y 1, 8, .inl f4)), (nw, .inl (y 1, 8, .inl f5))] sz)) 0 0 (va_A [(h0, .inr (16, [w1, w2, w3, w4, w5, w6, w7, w8, w9, w10, w11, w12, w13, w14, .int (nI 0), .ref ms, .ref dg, .ref wd, .ref st, .ref nw, w15, w16, w17, w18, w19, w20, w21, w22, w23, w24, w25, w26, w27, w28, w29, w30, w31, w32, w33, w34, w35, w36, w37, w38, w39, w40, w41, w42, w43, w44, w45, w46, w47, w48, w49, w50, w51, w52, w53, w54, w55, w56, w57, w58])), (ms, .inl (y 1, 30000, .inl f1)), (wd, .inl (y 1, 80, .inl f2)), (dg, .inl (y 1, 32, .inl f3)), (st, .inl (y 1, 8, .inl f4)), (nw, .inl (y 1, 8, .inl f5))] sz) := by
  refine Met.ofW (cc := cX12_secondHash) (maxL := 12) (ret := none) (by decide) rfl ?_
  intro p e s m args below meth c s₁ B hml hv
  obtain ⟨rfl, hsz, hP, hK, hD0, hN, hE, hO, hT, hG⟩ := hv
  have hx := B.exec
  have hb := B.bytes
  have hr := B.returns
  have hts := atoms_spec (ws := wz_c_M_secondHash) B.pre
  have hown : s.vm.findClass RX12 = some m.cls := findClass_of_methodNamed B.named
  have hlocks := B.notSynchronized
  subst hsz
  have hD := hD0.self (sz := s.heap.size)
  generalize hAe : va_A [(h0, .inr (16, [w1, w2, w3, w4, w5, w6, w7, w8, w9, w10, w11, w12, w13, w14, .int (nI 0), .ref ms, .ref dg, .ref wd, .ref st, .ref nw, w15, w16, w17, w18, w19, w20, w21, w22, w23, w24, w25, w26, w27, w28, w29, w30, w31, w32, w33, w34, w35, w36, w37, w38, w39, w40, w41, w42, w43, w44, w45, w46, w47, w48, w49, w50, w51, w52, w53, w54, w55, w56, w57, w58])), (ms, .inl (y 1, 30000, .inl f1)), (wd, .inl (y 1, 80, .inl f2)), (dg, .inl (y 1, 32, .inl f3)), (st, .inl (y 1, 8, .inl f4)), (nw, .inl (y 1, 8, .inl f5))] s.heap.size = A at hD hE hT hG ⊢
  have hA : ∀ q : Nat, s.heap.size ≤ q → A q := fun q h => by rw [← hAe]; exact Or.inr h
  have hS : va_S A s.heap s.heap [] := va_S.rf
  have hl := lv_entry ([.ref h0]) (n := 12) (Nat.le_of_ble_eq_true rfl)
  rw [lg_entry_eq]
  generalize (lg_sl ([.ref h0]) ++ List.replicate (12 - (lg_sl ([.ref h0])).length) Slot.unset).toArray = ls at hl ⊢
  have hl : lv_has ls 12 [(0, .ref h0)] := hl
  refine lv_aload_n hx hb dX12_secondHash_0 rfl (lv_at hl 0 rfl) ?_
  have hPc := hP.sub (ws' := [(h0, .inr (16, [w1, w2, w3, w4, w5, w6, w7, w8, w9, w10, w11, w12, w13, w14, .int (nI 0), .ref ms, .ref dg, .ref wd, .ref st, .ref nw, w15, w16, w17, w18, w19, w20, w21, w22, w23, w24, w25, w26, w27, w28, w29, w30, w31, w32, w33, w34, w35, w36, w37, w38, w39, w40, w41, w42, w43, w44, w45, w46, w47, w48, w49, w50, w51, w52, w53, w54, w55, w56, w57, w58])), (ms, .inl (y 1, 30000, .inl f1))]) [0, 1] rfl
  have hDc := hD.sub (ws' := [(h0, .inr (16, [w1, w2, w3, w4, w5, w6, w7, w8, w9, w10, w11, w12, w13, w14, .int (nI 0), .ref ms, .ref dg, .ref wd, .ref st, .ref nw, w15, w16, w17, w18, w19, w20, w21, w22, w23, w24, w25, w26, w27, w28, w29, w30, w31, w32, w33, w34, w35, w36, w37, w38, w39, w40, w41, w42, w43, w44, w45, w46, w47, w48, w49, w50, w51, w52, w53, w54, w55, w56, w57, w58])), (ms, .inl (y 1, 30000, .inl f1))]) [0, 1] (by decide) rfl
  have hFc := va_free (wc := [(h0, .inr (16, [w1, w2, w3, w4, w5, w6, w7, w8, w9, w10, w11, w12, w13, w14, .int (nI 0), .ref ms, .ref dg, .ref wd, .ref st, .ref nw, w15, w16, w17, w18, w19, w20, w21, w22, w23, w24, w25, w26, w27, w28, w29, w30, w31, w32, w33, w34, w35, w36, w37, w38, w39, w40, w41, w42, w43, w44, w45, w46, w47, w48, w49, w50, w51, w52, w53, w54, w55, w56, w57, w58])), (ms, .inl (y 1, 30000, .inl f1))]) hD hS hA [0, 1] rfl
  refine va_calli (va_runV (As := []) (rest := []) ⟨hx, hb, hml, hown, hts⟩ (c_M_close l D y s.heap.size h0 ms w1 w2 w3 w4 w5 w6 w7 w8 w9 w10 w11 w12 w13 w14 ((.ref dg)) ((.ref wd)) ((.ref st)) ((.ref nw)) w15 w16 w17 w18 w19 w20 w21 w22 w23 w24 w25 w26 w27 w28 w29 w30 w31 w32 w33 w34 w35 w36 w37 w38 w39 w40 w41 w42 w43 w44 w45 w46 w47 w48 w49 w50 w51 w52 w53 w54 w55 w56 w57 w58 f1) (cwV 0 hts gv_c_M_secondHash_c_M_close_106 rfl rfl rfl (by decide +kernel) ⟨(Nat.le_of_ble_eq_true rfl), (Nat.le_of_ble_eq_true rfl)⟩) (zB.preV hPc hDc hK hN hE hO hT hG hS hFc (fun _ h => nomatch h) (fun _ h => nomatch h) (fun _ h => nomatch h) (fun _ h => nomatch h) (va_recv hK hPc (ci := 16) (q0 := 0) rfl rfl)) rfl rfl hl.1 rfl (lv_room (Nat.le_of_ble_eq_true rfl)) dX12_secondHash_1 ⟨(Nat.le_of_ble_eq_true rfl), (Nat.le_of_ble_eq_true rfl)⟩) hS (fun q _ h => hFc q h) hFc (fun r1 u t H1 locs ht hvm hw hB hz1 hk1 hS => ?_)
  obtain ⟨hP1, hD1⟩ := hB
  rw [ht] at hP1
  obtain ⟨hP, hD⟩ := va_join (wr := [(wd, .inl (y 1, 80, .inl f2)), (dg, .inl (y 1, 32, .inl f3)), (st, .inl (y 1, 8, .inl f4)), (nw, .inl (y 1, 8, .inl f5))]) (w1 := [(h0, .inr (16, [w1, w2, w3, w4, w5, w6, w7, w8, w9, w10, w11, w12, w13, w14, .int (nI 64), .ref ms, .ref dg, .ref wd, .ref st, .ref nw, w15, w16, w17, w18, w19, w20, w21, w22, w23, w24, w25, w26, w27, w28, w29, w30, w31, w32, w33, w34, w35, w36, w37, w38, w39, w40, w41, w42, w43, w44, w45, w46, w47, w48, w49, w50, w51, w52, w53, w54, w55, w56, w57, w58])), (ms, .inl (y 1, 30000, .inl (zf tM 64 f1)))]) hP hD [0, 1] [2, 3, 4, 5] rfl rfl (by decide) (by decide) hk1 hFc hP1 hD1
  generalize H1 = H at hP hS ⊢
  have hP : va_P D vwCl [(wd, .inl (y 1, 80, .inl f2)), (dg, .inl (y 1, 32, .inl f3)), (st, .inl (y 1, 8, .inl f4)), (nw, .inl (y 1, 8, .inl f5)), (h0, .inr (16, [w1, w2, w3, w4, w5, w6, w7, w8, w9, w10, w11, w12, w13, w14, .int (nI 64), .ref ms, .ref dg, .ref wd, .ref st, .ref nw, w15, w16, w17, w18, w19, w20, w21, w22, w23, w24, w25, w26, w27, w28, w29, w30, w31, w32, w33, w34, w35, w36, w37, w38, w39, w40, w41, w42, w43, w44, w45, w46, w47, w48, w49, w50, w51, w52, w53, w54, w55, w56, w57, w58])), (ms, .inl (y 1, 30000, .inl (zf tM 64 f1)))] H := hP
  have hD : va_D A [(wd, .inl (y 1, 80, .inl f2)), (dg, .inl (y 1, 32, .inl f3)), (st, .inl (y 1, 8, .inl f4)), (nw, .inl (y 1, 8, .inl f5)), (h0, .inr (16, [w1, w2, w3, w4, w5, w6, w7, w8, w9, w10, w11, w12, w13, w14, .int (nI 64), .ref ms, .ref dg, .ref wd, .ref st, .ref nw, w15, w16, w17, w18, w19, w20, w21, w22, w23, w24, w25, w26, w27, w28, w29, w30, w31, w32, w33, w34, w35, w36, w37, w38, w39, w40, w41, w42, w43, w44, w45, w46, w47, w48, w49, w50, w51, w52, w53, w54, w55, w56, w57, w58])), (ms, .inl (y 1, 30000, .inl (zf tM 64 f1)))] := hD
  have hw : r1 = 1 := hw
  subst hw
  refine lv_istore_n (lv' := [(1, .int 1), (0, .ref h0)]) hx hb dX12_secondHash_4 rfl hl (by decide) rfl (fun ls hl => ?_)
  refine lv_aload_n hx hb dX12_secondHash_5 rfl (lv_at hl 1 rfl) ?_
  refine va_get (D := D) (ci := 16) (v := .ref st) (C := RX12) (T := TX12) (N := 64) hx hb hts (by decide +kernel) hown hK hP 4 rfl rfl 18 (by decide) (hts (.fieldLink RX12 49 "SignetRingModel" "state" "[I") (by decide +kernel)) (fun _ h9 => h9) rfl dX12_secondHash_6 ?_
  refine lv_iconst (v := 0) hx hb dX12_secondHash_9 (by decide) ?_
  refine lv_ldc (v := 1779033703) hx hb hown (hts (.constant RX12 131 1779033703) (by decide +kernel)) dX12_secondHash_10 ?_
  refine va_iast hx hb hK hP hD hS 2 1 rfl rfl (by unfold vp_in; decide) dX12_secondHash_12 (fun H locs hP hD hS => ?_)
  have hP : va_P D vwCl [(wd, .inl (y 1, 80, .inl f2)), (dg, .inl (y 1, 32, .inl f3)), (st, .inl (y 1, 8, .inl (upd (zf tS2 0 f4) (nI 0).toNatClampNeg (1779033703 : Int32)))), (nw, .inl (y 1, 8, .inl f5)), (h0, .inr (16, [w1, w2, w3, w4, w5, w6, w7, w8, w9, w10, w11, w12, w13, w14, .int (nI 64), .ref ms, .ref dg, .ref wd, .ref st, .ref nw, w15, w16, w17, w18, w19, w20, w21, w22, w23, w24, w25, w26, w27, w28, w29, w30, w31, w32, w33, w34, w35, w36, w37, w38, w39, w40, w41, w42, w43, w44, w45, w46, w47, w48, w49, w50, w51, w52, w53, w54, w55, w56, w57, w58])), (ms, .inl (y 1, 30000, .inl (zf tM 64 f1)))] H := hP
  have hD : va_D A [(wd, .inl (y 1, 80, .inl f2)), (dg, .inl (y 1, 32, .inl f3)), (st, .inl (y 1, 8, .inl (upd (zf tS2 0 f4) (nI 0).toNatClampNeg (1779033703 : Int32)))), (nw, .inl (y 1, 8, .inl f5)), (h0, .inr (16, [w1, w2, w3, w4, w5, w6, w7, w8, w9, w10, w11, w12, w13, w14, .int (nI 64), .ref ms, .ref dg, .ref wd, .ref st, .ref nw, w15, w16, w17, w18, w19, w20, w21, w22, w23, w24, w25, w26, w27, w28, w29, w30, w31, w32, w33, w34, w35, w36, w37, w38, w39, w40, w41, w42, w43, w44, w45, w46, w47, w48, w49, w50, w51, w52, w53, w54, w55, w56, w57, w58])), (ms, .inl (y 1, 30000, .inl (zf tM 64 f1)))] := hD
  have u2 : upd (zf tS2 0 f4) (nI 0).toNatClampNeg (1779033703 : Int32) = zf tS2 1 f4 := (zf_st (n := 0) (by decide) (by decide +kernel))
  rw [u2] at hP hD
  have hP : va_P D vwCl [(wd, .inl (y 1, 80, .inl f2)), (dg, .inl (y 1, 32, .inl f3)), (st, .inl (y 1, 8, .inl (zf tS2 1 f4))), (nw, .inl (y 1, 8, .inl f5)), (h0, .inr (16, [w1, w2, w3, w4, w5, w6, w7, w8, w9, w10, w11, w12, w13, w14, .int (nI 64), .ref ms, .ref dg, .ref wd, .ref st, .ref nw, w15, w16, w17, w18, w19, w20, w21, w22, w23, w24, w25, w26, w27, w28, w29, w30, w31, w32, w33, w34, w35, w36, w37, w38, w39, w40, w41, w42, w43, w44, w45, w46, w47, w48, w49, w50, w51, w52, w53, w54, w55, w56, w57, w58])), (ms, .inl (y 1, 30000, .inl (zf tM 64 f1)))] H := hP
  have hD : va_D A [(wd, .inl (y 1, 80, .inl f2)), (dg, .inl (y 1, 32, .inl f3)), (st, .inl (y 1, 8, .inl (zf tS2 1 f4))), (nw, .inl (y 1, 8, .inl f5)), (h0, .inr (16, [w1, w2, w3, w4, w5, w6, w7, w8, w9, w10, w11, w12, w13, w14, .int (nI 64), .ref ms, .ref dg, .ref wd, .ref st, .ref nw, w15, w16, w17, w18, w19, w20, w21, w22, w23, w24, w25, w26, w27, w28, w29, w30, w31, w32, w33, w34, w35, w36, w37, w38, w39, w40, w41, w42, w43, w44, w45, w46, w47, w48, w49, w50, w51, w52, w53, w54, w55, w56, w57, w58])), (ms, .inl (y 1, 30000, .inl (zf tM 64 f1)))] := hD
  refine lv_aload_n hx hb dX12_secondHash_13 rfl (lv_at hl 1 rfl) ?_
  refine va_get (D := D) (ci := 16) (v := .ref st) (C := RX12) (T := TX12) (N := 64) hx hb hts (by decide +kernel) hown hK hP 4 rfl rfl 18 (by decide) (hts (.fieldLink RX12 49 "SignetRingModel" "state" "[I") (by decide +kernel)) (fun _ h9 => h9) rfl dX12_secondHash_14 ?_
  refine lv_iconst (v := 1) hx hb dX12_secondHash_17 (by decide) ?_
  refine lv_ldc (v := -1150833019) hx hb hown (hts (.constant RX12 132 (-1150833019)) (by decide +kernel)) dX12_secondHash_18 ?_
  refine va_iast hx hb hK hP hD hS 2 1 rfl rfl (by unfold vp_in; decide) dX12_secondHash_20 (fun H locs hP hD hS => ?_)
  have hP : va_P D vwCl [(wd, .inl (y 1, 80, .inl f2)), (dg, .inl (y 1, 32, .inl f3)), (st, .inl (y 1, 8, .inl (upd (zf tS2 1 f4) (nI 1).toNatClampNeg (-1150833019 : Int32)))), (nw, .inl (y 1, 8, .inl f5)), (h0, .inr (16, [w1, w2, w3, w4, w5, w6, w7, w8, w9, w10, w11, w12, w13, w14, .int (nI 64), .ref ms, .ref dg, .ref wd, .ref st, .ref nw, w15, w16, w17, w18, w19, w20, w21, w22, w23, w24, w25, w26, w27, w28, w29, w30, w31, w32, w33, w34, w35, w36, w37, w38, w39, w40, w41, w42, w43, w44, w45, w46, w47, w48, w49, w50, w51, w52, w53, w54, w55, w56, w57, w58])), (ms, .inl (y 1, 30000, .inl (zf tM 64 f1)))] H := hP
  have hD : va_D A [(wd, .inl (y 1, 80, .inl f2)), (dg, .inl (y 1, 32, .inl f3)), (st, .inl (y 1, 8, .inl (upd (zf tS2 1 f4) (nI 1).toNatClampNeg (-1150833019 : Int32)))), (nw, .inl (y 1, 8, .inl f5)), (h0, .inr (16, [w1, w2, w3, w4, w5, w6, w7, w8, w9, w10, w11, w12, w13, w14, .int (nI 64), .ref ms, .ref dg, .ref wd, .ref st, .ref nw, w15, w16, w17, w18, w19, w20, w21, w22, w23, w24, w25, w26, w27, w28, w29, w30, w31, w32, w33, w34, w35, w36, w37, w38, w39, w40, w41, w42, w43, w44, w45, w46, w47, w48, w49, w50, w51, w52, w53, w54, w55, w56, w57, w58])), (ms, .inl (y 1, 30000, .inl (zf tM 64 f1)))] := hD
  have u3 : upd (zf tS2 1 f4) (nI 1).toNatClampNeg (-1150833019 : Int32) = zf tS2 2 f4 := (zf_st (n := 1) (by decide) (by decide +kernel))
  rw [u3] at hP hD
  have hP : va_P D vwCl [(wd, .inl (y 1, 80, .inl f2)), (dg, .inl (y 1, 32, .inl f3)), (st, .inl (y 1, 8, .inl (zf tS2 2 f4))), (nw, .inl (y 1, 8, .inl f5)), (h0, .inr (16, [w1, w2, w3, w4, w5, w6, w7, w8, w9, w10, w11, w12, w13, w14, .int (nI 64), .ref ms, .ref dg, .ref wd, .ref st, .ref nw, w15, w16, w17, w18, w19, w20, w21, w22, w23, w24, w25, w26, w27, w28, w29, w30, w31, w32, w33, w34, w35, w36, w37, w38, w39, w40, w41, w42, w43, w44, w45, w46, w47, w48, w49, w50, w51, w52, w53, w54, w55, w56, w57, w58])), (ms, .inl (y 1, 30000, .inl (zf tM 64 f1)))] H := hP
  have hD : va_D A [(wd, .inl (y 1, 80, .inl f2)), (dg, .inl (y 1, 32, .inl f3)), (st, .inl (y 1, 8, .inl (zf tS2 2 f4))), (nw, .inl (y 1, 8, .inl f5)), (h0, .inr (16, [w1, w2, w3, w4, w5, w6, w7, w8, w9, w10, w11, w12, w13, w14, .int (nI 64), .ref ms, .ref dg, .ref wd, .ref st, .ref nw, w15, w16, w17, w18, w19, w20, w21, w22, w23, w24, w25, w26, w27, w28, w29, w30, w31, w32, w33, w34, w35, w36, w37, w38, w39, w40, w41, w42, w43, w44, w45, w46, w47, w48, w49, w50, w51, w52, w53, w54, w55, w56, w57, w58])), (ms, .inl (y 1, 30000, .inl (zf tM 64 f1)))] := hD
  refine lv_aload_n hx hb dX12_secondHash_21 rfl (lv_at hl 1 rfl) ?_
  refine va_get (D := D) (ci := 16) (v := .ref st) (C := RX12) (T := TX12) (N := 64) hx hb hts (by decide +kernel) hown hK hP 4 rfl rfl 18 (by decide) (hts (.fieldLink RX12 49 "SignetRingModel" "state" "[I") (by decide +kernel)) (fun _ h9 => h9) rfl dX12_secondHash_22 ?_
  refine lv_iconst (v := 2) hx hb dX12_secondHash_25 (by decide) ?_
  refine lv_ldc (v := 1013904242) hx hb hown (hts (.constant RX12 133 1013904242) (by decide +kernel)) dX12_secondHash_26 ?_
  refine va_iast hx hb hK hP hD hS 2 1 rfl rfl (by unfold vp_in; decide) dX12_secondHash_28 (fun H locs hP hD hS => ?_)
  have hP : va_P D vwCl [(wd, .inl (y 1, 80, .inl f2)), (dg, .inl (y 1, 32, .inl f3)), (st, .inl (y 1, 8, .inl (upd (zf tS2 2 f4) (nI 2).toNatClampNeg (1013904242 : Int32)))), (nw, .inl (y 1, 8, .inl f5)), (h0, .inr (16, [w1, w2, w3, w4, w5, w6, w7, w8, w9, w10, w11, w12, w13, w14, .int (nI 64), .ref ms, .ref dg, .ref wd, .ref st, .ref nw, w15, w16, w17, w18, w19, w20, w21, w22, w23, w24, w25, w26, w27, w28, w29, w30, w31, w32, w33, w34, w35, w36, w37, w38, w39, w40, w41, w42, w43, w44, w45, w46, w47, w48, w49, w50, w51, w52, w53, w54, w55, w56, w57, w58])), (ms, .inl (y 1, 30000, .inl (zf tM 64 f1)))] H := hP
  have hD : va_D A [(wd, .inl (y 1, 80, .inl f2)), (dg, .inl (y 1, 32, .inl f3)), (st, .inl (y 1, 8, .inl (upd (zf tS2 2 f4) (nI 2).toNatClampNeg (1013904242 : Int32)))), (nw, .inl (y 1, 8, .inl f5)), (h0, .inr (16, [w1, w2, w3, w4, w5, w6, w7, w8, w9, w10, w11, w12, w13, w14, .int (nI 64), .ref ms, .ref dg, .ref wd, .ref st, .ref nw, w15, w16, w17, w18, w19, w20, w21, w22, w23, w24, w25, w26, w27, w28, w29, w30, w31, w32, w33, w34, w35, w36, w37, w38, w39, w40, w41, w42, w43, w44, w45, w46, w47, w48, w49, w50, w51, w52, w53, w54, w55, w56, w57, w58])), (ms, .inl (y 1, 30000, .inl (zf tM 64 f1)))] := hD
  have u4 : upd (zf tS2 2 f4) (nI 2).toNatClampNeg (1013904242 : Int32) = zf tS2 3 f4 := (zf_st (n := 2) (by decide) (by decide +kernel))
  rw [u4] at hP hD
  have hP : va_P D vwCl [(wd, .inl (y 1, 80, .inl f2)), (dg, .inl (y 1, 32, .inl f3)), (st, .inl (y 1, 8, .inl (zf tS2 3 f4))), (nw, .inl (y 1, 8, .inl f5)), (h0, .inr (16, [w1, w2, w3, w4, w5, w6, w7, w8, w9, w10, w11, w12, w13, w14, .int (nI 64), .ref ms, .ref dg, .ref wd, .ref st, .ref nw, w15, w16, w17, w18, w19, w20, w21, w22, w23, w24, w25, w26, w27, w28, w29, w30, w31, w32, w33, w34, w35, w36, w37, w38, w39, w40, w41, w42, w43, w44, w45, w46, w47, w48, w49, w50, w51, w52, w53, w54, w55, w56, w57, w58])), (ms, .inl (y 1, 30000, .inl (zf tM 64 f1)))] H := hP
  have hD : va_D A [(wd, .inl (y 1, 80, .inl f2)), (dg, .inl (y 1, 32, .inl f3)), (st, .inl (y 1, 8, .inl (zf tS2 3 f4))), (nw, .inl (y 1, 8, .inl f5)), (h0, .inr (16, [w1, w2, w3, w4, w5, w6, w7, w8, w9, w10, w11, w12, w13, w14, .int (nI 64), .ref ms, .ref dg, .ref wd, .ref st, .ref nw, w15, w16, w17, w18, w19, w20, w21, w22, w23, w24, w25, w26, w27, w28, w29, w30, w31, w32, w33, w34, w35, w36, w37, w38, w39, w40, w41, w42, w43, w44, w45, w46, w47, w48, w49, w50, w51, w52, w53, w54, w55, w56, w57, w58])), (ms, .inl (y 1, 30000, .inl (zf tM 64 f1)))] := hD
  refine lv_aload_n hx hb dX12_secondHash_29 rfl (lv_at hl 1 rfl) ?_
  refine va_get (D := D) (ci := 16) (v := .ref st) (C := RX12) (T := TX12) (N := 64) hx hb hts (by decide +kernel) hown hK hP 4 rfl rfl 18 (by decide) (hts (.fieldLink RX12 49 "SignetRingModel" "state" "[I") (by decide +kernel)) (fun _ h9 => h9) rfl dX12_secondHash_30 ?_
  refine lv_iconst (v := 3) hx hb dX12_secondHash_33 (by decide) ?_
  refine lv_ldc (v := -1521486534) hx hb hown (hts (.constant RX12 134 (-1521486534)) (by decide +kernel)) dX12_secondHash_34 ?_
  refine va_iast hx hb hK hP hD hS 2 1 rfl rfl (by unfold vp_in; decide) dX12_secondHash_36 (fun H locs hP hD hS => ?_)
  have hP : va_P D vwCl [(wd, .inl (y 1, 80, .inl f2)), (dg, .inl (y 1, 32, .inl f3)), (st, .inl (y 1, 8, .inl (upd (zf tS2 3 f4) (nI 3).toNatClampNeg (-1521486534 : Int32)))), (nw, .inl (y 1, 8, .inl f5)), (h0, .inr (16, [w1, w2, w3, w4, w5, w6, w7, w8, w9, w10, w11, w12, w13, w14, .int (nI 64), .ref ms, .ref dg, .ref wd, .ref st, .ref nw, w15, w16, w17, w18, w19, w20, w21, w22, w23, w24, w25, w26, w27, w28, w29, w30, w31, w32, w33, w34, w35, w36, w37, w38, w39, w40, w41, w42, w43, w44, w45, w46, w47, w48, w49, w50, w51, w52, w53, w54, w55, w56, w57, w58])), (ms, .inl (y 1, 30000, .inl (zf tM 64 f1)))] H := hP
  have hD : va_D A [(wd, .inl (y 1, 80, .inl f2)), (dg, .inl (y 1, 32, .inl f3)), (st, .inl (y 1, 8, .inl (upd (zf tS2 3 f4) (nI 3).toNatClampNeg (-1521486534 : Int32)))), (nw, .inl (y 1, 8, .inl f5)), (h0, .inr (16, [w1, w2, w3, w4, w5, w6, w7, w8, w9, w10, w11, w12, w13, w14, .int (nI 64), .ref ms, .ref dg, .ref wd, .ref st, .ref nw, w15, w16, w17, w18, w19, w20, w21, w22, w23, w24, w25, w26, w27, w28, w29, w30, w31, w32, w33, w34, w35, w36, w37, w38, w39, w40, w41, w42, w43, w44, w45, w46, w47, w48, w49, w50, w51, w52, w53, w54, w55, w56, w57, w58])), (ms, .inl (y 1, 30000, .inl (zf tM 64 f1)))] := hD
  have u5 : upd (zf tS2 3 f4) (nI 3).toNatClampNeg (-1521486534 : Int32) = zf tS2 4 f4 := (zf_st (n := 3) (by decide) (by decide +kernel))
  rw [u5] at hP hD
  have hP : va_P D vwCl [(wd, .inl (y 1, 80, .inl f2)), (dg, .inl (y 1, 32, .inl f3)), (st, .inl (y 1, 8, .inl (zf tS2 4 f4))), (nw, .inl (y 1, 8, .inl f5)), (h0, .inr (16, [w1, w2, w3, w4, w5, w6, w7, w8, w9, w10, w11, w12, w13, w14, .int (nI 64), .ref ms, .ref dg, .ref wd, .ref st, .ref nw, w15, w16, w17, w18, w19, w20, w21, w22, w23, w24, w25, w26, w27, w28, w29, w30, w31, w32, w33, w34, w35, w36, w37, w38, w39, w40, w41, w42, w43, w44, w45, w46, w47, w48, w49, w50, w51, w52, w53, w54, w55, w56, w57, w58])), (ms, .inl (y 1, 30000, .inl (zf tM 64 f1)))] H := hP
  have hD : va_D A [(wd, .inl (y 1, 80, .inl f2)), (dg, .inl (y 1, 32, .inl f3)), (st, .inl (y 1, 8, .inl (zf tS2 4 f4))), (nw, .inl (y 1, 8, .inl f5)), (h0, .inr (16, [w1, w2, w3, w4, w5, w6, w7, w8, w9, w10, w11, w12, w13, w14, .int (nI 64), .ref ms, .ref dg, .ref wd, .ref st, .ref nw, w15, w16, w17, w18, w19, w20, w21, w22, w23, w24, w25, w26, w27, w28, w29, w30, w31, w32, w33, w34, w35, w36, w37, w38, w39, w40, w41, w42, w43, w44, w45, w46, w47, w48, w49, w50, w51, w52, w53, w54, w55, w56, w57, w58])), (ms, .inl (y 1, 30000, .inl (zf tM 64 f1)))] := hD
  refine lv_aload_n hx hb dX12_secondHash_37 rfl (lv_at hl 1 rfl) ?_
  refine va_get (D := D) (ci := 16) (v := .ref st) (C := RX12) (T := TX12) (N := 64) hx hb hts (by decide +kernel) hown hK hP 4 rfl rfl 18 (by decide) (hts (.fieldLink RX12 49 "SignetRingModel" "state" "[I") (by decide +kernel)) (fun _ h9 => h9) rfl dX12_secondHash_38 ?_
  refine lv_iconst (v := 4) hx hb dX12_secondHash_41 (by decide) ?_
  refine lv_ldc (v := 1359893119) hx hb hown (hts (.constant RX12 135 1359893119) (by decide +kernel)) dX12_secondHash_42 ?_
  refine va_iast hx hb hK hP hD hS 2 1 rfl rfl (by unfold vp_in; decide) dX12_secondHash_44 (fun H locs hP hD hS => ?_)
  have hP : va_P D vwCl [(wd, .inl (y 1, 80, .inl f2)), (dg, .inl (y 1, 32, .inl f3)), (st, .inl (y 1, 8, .inl (upd (zf tS2 4 f4) (nI 4).toNatClampNeg (1359893119 : Int32)))), (nw, .inl (y 1, 8, .inl f5)), (h0, .inr (16, [w1, w2, w3, w4, w5, w6, w7, w8, w9, w10, w11, w12, w13, w14, .int (nI 64), .ref ms, .ref dg, .ref wd, .ref st, .ref nw, w15, w16, w17, w18, w19, w20, w21, w22, w23, w24, w25, w26, w27, w28, w29, w30, w31, w32, w33, w34, w35, w36, w37, w38, w39, w40, w41, w42, w43, w44, w45, w46, w47, w48, w49, w50, w51, w52, w53, w54, w55, w56, w57, w58])), (ms, .inl (y 1, 30000, .inl (zf tM 64 f1)))] H := hP
  have hD : va_D A [(wd, .inl (y 1, 80, .inl f2)), (dg, .inl (y 1, 32, .inl f3)), (st, .inl (y 1, 8, .inl (upd (zf tS2 4 f4) (nI 4).toNatClampNeg (1359893119 : Int32)))), (nw, .inl (y 1, 8, .inl f5)), (h0, .inr (16, [w1, w2, w3, w4, w5, w6, w7, w8, w9, w10, w11, w12, w13, w14, .int (nI 64), .ref ms, .ref dg, .ref wd, .ref st, .ref nw, w15, w16, w17, w18, w19, w20, w21, w22, w23, w24, w25, w26, w27, w28, w29, w30, w31, w32, w33, w34, w35, w36, w37, w38, w39, w40, w41, w42, w43, w44, w45, w46, w47, w48, w49, w50, w51, w52, w53, w54, w55, w56, w57, w58])), (ms, .inl (y 1, 30000, .inl (zf tM 64 f1)))] := hD
  have u6 : upd (zf tS2 4 f4) (nI 4).toNatClampNeg (1359893119 : Int32) = zf tS2 5 f4 := (zf_st (n := 4) (by decide) (by decide +kernel))
  rw [u6] at hP hD
  have hP : va_P D vwCl [(wd, .inl (y 1, 80, .inl f2)), (dg, .inl (y 1, 32, .inl f3)), (st, .inl (y 1, 8, .inl (zf tS2 5 f4))), (nw, .inl (y 1, 8, .inl f5)), (h0, .inr (16, [w1, w2, w3, w4, w5, w6, w7, w8, w9, w10, w11, w12, w13, w14, .int (nI 64), .ref ms, .ref dg, .ref wd, .ref st, .ref nw, w15, w16, w17, w18, w19, w20, w21, w22, w23, w24, w25, w26, w27, w28, w29, w30, w31, w32, w33, w34, w35, w36, w37, w38, w39, w40, w41, w42, w43, w44, w45, w46, w47, w48, w49, w50, w51, w52, w53, w54, w55, w56, w57, w58])), (ms, .inl (y 1, 30000, .inl (zf tM 64 f1)))] H := hP
  have hD : va_D A [(wd, .inl (y 1, 80, .inl f2)), (dg, .inl (y 1, 32, .inl f3)), (st, .inl (y 1, 8, .inl (zf tS2 5 f4))), (nw, .inl (y 1, 8, .inl f5)), (h0, .inr (16, [w1, w2, w3, w4, w5, w6, w7, w8, w9, w10, w11, w12, w13, w14, .int (nI 64), .ref ms, .ref dg, .ref wd, .ref st, .ref nw, w15, w16, w17, w18, w19, w20, w21, w22, w23, w24, w25, w26, w27, w28, w29, w30, w31, w32, w33, w34, w35, w36, w37, w38, w39, w40, w41, w42, w43, w44, w45, w46, w47, w48, w49, w50, w51, w52, w53, w54, w55, w56, w57, w58])), (ms, .inl (y 1, 30000, .inl (zf tM 64 f1)))] := hD
  refine lv_aload_n hx hb dX12_secondHash_45 rfl (lv_at hl 1 rfl) ?_
  refine va_get (D := D) (ci := 16) (v := .ref st) (C := RX12) (T := TX12) (N := 64) hx hb hts (by decide +kernel) hown hK hP 4 rfl rfl 18 (by decide) (hts (.fieldLink RX12 49 "SignetRingModel" "state" "[I") (by decide +kernel)) (fun _ h9 => h9) rfl dX12_secondHash_46 ?_
  refine lv_iconst (v := 5) hx hb dX12_secondHash_49 (by decide) ?_
  refine lv_ldc (v := -1694144372) hx hb hown (hts (.constant RX12 136 (-1694144372)) (by decide +kernel)) dX12_secondHash_50 ?_
  refine va_iast hx hb hK hP hD hS 2 1 rfl rfl (by unfold vp_in; decide) dX12_secondHash_52 (fun H locs hP hD hS => ?_)
  have hP : va_P D vwCl [(wd, .inl (y 1, 80, .inl f2)), (dg, .inl (y 1, 32, .inl f3)), (st, .inl (y 1, 8, .inl (upd (zf tS2 5 f4) (nI 5).toNatClampNeg (-1694144372 : Int32)))), (nw, .inl (y 1, 8, .inl f5)), (h0, .inr (16, [w1, w2, w3, w4, w5, w6, w7, w8, w9, w10, w11, w12, w13, w14, .int (nI 64), .ref ms, .ref dg, .ref wd, .ref st, .ref nw, w15, w16, w17, w18, w19, w20, w21, w22, w23, w24, w25, w26, w27, w28, w29, w30, w31, w32, w33, w34, w35, w36, w37, w38, w39, w40, w41, w42, w43, w44, w45, w46, w47, w48, w49, w50, w51, w52, w53, w54, w55, w56, w57, w58])), (ms, .inl (y 1, 30000, .inl (zf tM 64 f1)))] H := hP
  have hD : va_D A [(wd, .inl (y 1, 80, .inl f2)), (dg, .inl (y 1, 32, .inl f3)), (st, .inl (y 1, 8, .inl (upd (zf tS2 5 f4) (nI 5).toNatClampNeg (-1694144372 : Int32)))), (nw, .inl (y 1, 8, .inl f5)), (h0, .inr (16, [w1, w2, w3, w4, w5, w6, w7, w8, w9, w10, w11, w12, w13, w14, .int (nI 64), .ref ms, .ref dg, .ref wd, .ref st, .ref nw, w15, w16, w17, w18, w19, w20, w21, w22, w23, w24, w25, w26, w27, w28, w29, w30, w31, w32, w33, w34, w35, w36, w37, w38, w39, w40, w41, w42, w43, w44, w45, w46, w47, w48, w49, w50, w51, w52, w53, w54, w55, w56, w57, w58])), (ms, .inl (y 1, 30000, .inl (zf tM 64 f1)))] := hD
  have u7 : upd (zf tS2 5 f4) (nI 5).toNatClampNeg (-1694144372 : Int32) = zf tS2 6 f4 := (zf_st (n := 5) (by decide) (by decide +kernel))
  rw [u7] at hP hD
  have hP : va_P D vwCl [(wd, .inl (y 1, 80, .inl f2)), (dg, .inl (y 1, 32, .inl f3)), (st, .inl (y 1, 8, .inl (zf tS2 6 f4))), (nw, .inl (y 1, 8, .inl f5)), (h0, .inr (16, [w1, w2, w3, w4, w5, w6, w7, w8, w9, w10, w11, w12, w13, w14, .int (nI 64), .ref ms, .ref dg, .ref wd, .ref st, .ref nw, w15, w16, w17, w18, w19, w20, w21, w22, w23, w24, w25, w26, w27, w28, w29, w30, w31, w32, w33, w34, w35, w36, w37, w38, w39, w40, w41, w42, w43, w44, w45, w46, w47, w48, w49, w50, w51, w52, w53, w54, w55, w56, w57, w58])), (ms, .inl (y 1, 30000, .inl (zf tM 64 f1)))] H := hP
  have hD : va_D A [(wd, .inl (y 1, 80, .inl f2)), (dg, .inl (y 1, 32, .inl f3)), (st, .inl (y 1, 8, .inl (zf tS2 6 f4))), (nw, .inl (y 1, 8, .inl f5)), (h0, .inr (16, [w1, w2, w3, w4, w5, w6, w7, w8, w9, w10, w11, w12, w13, w14, .int (nI 64), .ref ms, .ref dg, .ref wd, .ref st, .ref nw, w15, w16, w17, w18, w19, w20, w21, w22, w23, w24, w25, w26, w27, w28, w29, w30, w31, w32, w33, w34, w35, w36, w37, w38, w39, w40, w41, w42, w43, w44, w45, w46, w47, w48, w49, w50, w51, w52, w53, w54, w55, w56, w57, w58])), (ms, .inl (y 1, 30000, .inl (zf tM 64 f1)))] := hD
  refine lv_aload_n hx hb dX12_secondHash_53 rfl (lv_at hl 1 rfl) ?_
  refine va_get (D := D) (ci := 16) (v := .ref st) (C := RX12) (T := TX12) (N := 64) hx hb hts (by decide +kernel) hown hK hP 4 rfl rfl 18 (by decide) (hts (.fieldLink RX12 49 "SignetRingModel" "state" "[I") (by decide +kernel)) (fun _ h9 => h9) rfl dX12_secondHash_54 ?_
  refine lv_bipush (v := 6) hx hb dX12_secondHash_57 (by decide) ?_
  refine lv_ldc (v := 528734635) hx hb hown (hts (.constant RX12 137 528734635) (by decide +kernel)) dX12_secondHash_59 ?_
  refine va_iast hx hb hK hP hD hS 2 1 rfl rfl (by unfold vp_in; decide) dX12_secondHash_61 (fun H locs hP hD hS => ?_)
  have hP : va_P D vwCl [(wd, .inl (y 1, 80, .inl f2)), (dg, .inl (y 1, 32, .inl f3)), (st, .inl (y 1, 8, .inl (upd (zf tS2 6 f4) (nI 6).toNatClampNeg (528734635 : Int32)))), (nw, .inl (y 1, 8, .inl f5)), (h0, .inr (16, [w1, w2, w3, w4, w5, w6, w7, w8, w9, w10, w11, w12, w13, w14, .int (nI 64), .ref ms, .ref dg, .ref wd, .ref st, .ref nw, w15, w16, w17, w18, w19, w20, w21, w22, w23, w24, w25, w26, w27, w28, w29, w30, w31, w32, w33, w34, w35, w36, w37, w38, w39, w40, w41, w42, w43, w44, w45, w46, w47, w48, w49, w50, w51, w52, w53, w54, w55, w56, w57, w58])), (ms, .inl (y 1, 30000, .inl (zf tM 64 f1)))] H := hP
  have hD : va_D A [(wd, .inl (y 1, 80, .inl f2)), (dg, .inl (y 1, 32, .inl f3)), (st, .inl (y 1, 8, .inl (upd (zf tS2 6 f4) (nI 6).toNatClampNeg (528734635 : Int32)))), (nw, .inl (y 1, 8, .inl f5)), (h0, .inr (16, [w1, w2, w3, w4, w5, w6, w7, w8, w9, w10, w11, w12, w13, w14, .int (nI 64), .ref ms, .ref dg, .ref wd, .ref st, .ref nw, w15, w16, w17, w18, w19, w20, w21, w22, w23, w24, w25, w26, w27, w28, w29, w30, w31, w32, w33, w34, w35, w36, w37, w38, w39, w40, w41, w42, w43, w44, w45, w46, w47, w48, w49, w50, w51, w52, w53, w54, w55, w56, w57, w58])), (ms, .inl (y 1, 30000, .inl (zf tM 64 f1)))] := hD
  have u8 : upd (zf tS2 6 f4) (nI 6).toNatClampNeg (528734635 : Int32) = zf tS2 7 f4 := (zf_st (n := 6) (by decide) (by decide +kernel))
  rw [u8] at hP hD
  have hP : va_P D vwCl [(wd, .inl (y 1, 80, .inl f2)), (dg, .inl (y 1, 32, .inl f3)), (st, .inl (y 1, 8, .inl (zf tS2 7 f4))), (nw, .inl (y 1, 8, .inl f5)), (h0, .inr (16, [w1, w2, w3, w4, w5, w6, w7, w8, w9, w10, w11, w12, w13, w14, .int (nI 64), .ref ms, .ref dg, .ref wd, .ref st, .ref nw, w15, w16, w17, w18, w19, w20, w21, w22, w23, w24, w25, w26, w27, w28, w29, w30, w31, w32, w33, w34, w35, w36, w37, w38, w39, w40, w41, w42, w43, w44, w45, w46, w47, w48, w49, w50, w51, w52, w53, w54, w55, w56, w57, w58])), (ms, .inl (y 1, 30000, .inl (zf tM 64 f1)))] H := hP
  have hD : va_D A [(wd, .inl (y 1, 80, .inl f2)), (dg, .inl (y 1, 32, .inl f3)), (st, .inl (y 1, 8, .inl (zf tS2 7 f4))), (nw, .inl (y 1, 8, .inl f5)), (h0, .inr (16, [w1, w2, w3, w4, w5, w6, w7, w8, w9, w10, w11, w12, w13, w14, .int (nI 64), .ref ms, .ref dg, .ref wd, .ref st, .ref nw, w15, w16, w17, w18, w19, w20, w21, w22, w23, w24, w25, w26, w27, w28, w29, w30, w31, w32, w33, w34, w35, w36, w37, w38, w39, w40, w41, w42, w43, w44, w45, w46, w47, w48, w49, w50, w51, w52, w53, w54, w55, w56, w57, w58])), (ms, .inl (y 1, 30000, .inl (zf tM 64 f1)))] := hD
  refine lv_aload_n hx hb dX12_secondHash_62 rfl (lv_at hl 1 rfl) ?_
  refine va_get (D := D) (ci := 16) (v := .ref st) (C := RX12) (T := TX12) (N := 64) hx hb hts (by decide +kernel) hown hK hP 4 rfl rfl 18 (by decide) (hts (.fieldLink RX12 49 "SignetRingModel" "state" "[I") (by decide +kernel)) (fun _ h9 => h9) rfl dX12_secondHash_63 ?_
  refine lv_bipush (v := 7) hx hb dX12_secondHash_66 (by decide) ?_
  refine lv_ldc (v := 1541459225) hx hb hown (hts (.constant RX12 138 1541459225) (by decide +kernel)) dX12_secondHash_68 ?_
  refine va_iast hx hb hK hP hD hS 2 1 rfl rfl (by unfold vp_in; decide) dX12_secondHash_70 (fun H locs hP hD hS => ?_)
  have hP : va_P D vwCl [(wd, .inl (y 1, 80, .inl f2)), (dg, .inl (y 1, 32, .inl f3)), (st, .inl (y 1, 8, .inl (upd (zf tS2 7 f4) (nI 7).toNatClampNeg (1541459225 : Int32)))), (nw, .inl (y 1, 8, .inl f5)), (h0, .inr (16, [w1, w2, w3, w4, w5, w6, w7, w8, w9, w10, w11, w12, w13, w14, .int (nI 64), .ref ms, .ref dg, .ref wd, .ref st, .ref nw, w15, w16, w17, w18, w19, w20, w21, w22, w23, w24, w25, w26, w27, w28, w29, w30, w31, w32, w33, w34, w35, w36, w37, w38, w39, w40, w41, w42, w43, w44, w45, w46, w47, w48, w49, w50, w51, w52, w53, w54, w55, w56, w57, w58])), (ms, .inl (y 1, 30000, .inl (zf tM 64 f1)))] H := hP
  have hD : va_D A [(wd, .inl (y 1, 80, .inl f2)), (dg, .inl (y 1, 32, .inl f3)), (st, .inl (y 1, 8, .inl (upd (zf tS2 7 f4) (nI 7).toNatClampNeg (1541459225 : Int32)))), (nw, .inl (y 1, 8, .inl f5)), (h0, .inr (16, [w1, w2, w3, w4, w5, w6, w7, w8, w9, w10, w11, w12, w13, w14, .int (nI 64), .ref ms, .ref dg, .ref wd, .ref st, .ref nw, w15, w16, w17, w18, w19, w20, w21, w22, w23, w24, w25, w26, w27, w28, w29, w30, w31, w32, w33, w34, w35, w36, w37, w38, w39, w40, w41, w42, w43, w44, w45, w46, w47, w48, w49, w50, w51, w52, w53, w54, w55, w56, w57, w58])), (ms, .inl (y 1, 30000, .inl (zf tM 64 f1)))] := hD
  have u9 : upd (zf tS2 7 f4) (nI 7).toNatClampNeg (1541459225 : Int32) = zf tS2 8 f4 := (zf_st (n := 7) (by decide) (by decide +kernel))
  rw [u9] at hP hD
  have hP : va_P D vwCl [(wd, .inl (y 1, 80, .inl f2)), (dg, .inl (y 1, 32, .inl f3)), (st, .inl (y 1, 8, .inl (zf tS2 8 f4))), (nw, .inl (y 1, 8, .inl f5)), (h0, .inr (16, [w1, w2, w3, w4, w5, w6, w7, w8, w9, w10, w11, w12, w13, w14, .int (nI 64), .ref ms, .ref dg, .ref wd, .ref st, .ref nw, w15, w16, w17, w18, w19, w20, w21, w22, w23, w24, w25, w26, w27, w28, w29, w30, w31, w32, w33, w34, w35, w36, w37, w38, w39, w40, w41, w42, w43, w44, w45, w46, w47, w48, w49, w50, w51, w52, w53, w54, w55, w56, w57, w58])), (ms, .inl (y 1, 30000, .inl (zf tM 64 f1)))] H := hP
  have hD : va_D A [(wd, .inl (y 1, 80, .inl f2)), (dg, .inl (y 1, 32, .inl f3)), (st, .inl (y 1, 8, .inl (zf tS2 8 f4))), (nw, .inl (y 1, 8, .inl f5)), (h0, .inr (16, [w1, w2, w3, w4, w5, w6, w7, w8, w9, w10, w11, w12, w13, w14, .int (nI 64), .ref ms, .ref dg, .ref wd, .ref st, .ref nw, w15, w16, w17, w18, w19, w20, w21, w22, w23, w24, w25, w26, w27, w28, w29, w30, w31, w32, w33, w34, w35, w36, w37, w38, w39, w40, w41, w42, w43, w44, w45, w46, w47, w48, w49, w50, w51, w52, w53, w54, w55, w56, w57, w58])), (ms, .inl (y 1, 30000, .inl (zf tM 64 f1)))] := hD
  refine lv_iconst (v := 0) hx hb dX12_secondHash_71 (by decide) ?_
  refine lv_istore_n (lv' := [(2, .int 0), (1, .int 1), (0, .ref h0)]) hx hb dX12_secondHash_72 rfl hl (by decide) rfl (fun ls hl => ?_)
  refine lv_iload_n hx hb dX12_secondHash_73 rfl (lv_at hl 0 rfl) ?_
  refine lv_iload_n hx hb dX12_secondHash_74 rfl (lv_at hl 1 rfl) ?_
  refine lv_icmp_ge (tgt := 498) hx hb dX12_secondHash_75 (by decide) (fun c9 => absurd c9 (by decide)) (fun _ => ?_)
  refine lv_iconst (v := 0) hx hb dX12_secondHash_78 (by decide) ?_
  refine lv_istore_n (lv' := [(3, .int 0), (2, .int 0), (1, .int 1), (0, .ref h0)]) hx hb dX12_secondHash_79 rfl hl (by decide) rfl (fun ls hl => ?_)
  refine lv_iload_n hx hb dX12_secondHash_80 rfl (lv_at hl 0 rfl) ?_
  refine lv_bipush (v := 8) hx hb dX12_secondHash_81 (by decide) ?_
  refine lv_icmp_ge (tgt := 104) hx hb dX12_secondHash_83 (by decide) (fun c9 => absurd c9 (by decide)) (fun _ => ?_)
  refine lv_aload_n hx hb dX12_secondHash_86 rfl (lv_at hl 3 rfl) ?_
  refine va_get (D := D) (ci := 16) (v := .ref nw) (C := RX12) (T := TX12) (N := 64) hx hb hts (by decide +kernel) hown hK hP 4 rfl rfl 19 (by decide) (hts (.fieldLink RX12 52 "SignetRingModel" "now" "[I") (by decide +kernel)) (fun _ h9 => h9) rfl dX12_secondHash_87 ?_
  refine lv_iload_n hx hb dX12_secondHash_90 rfl (lv_at hl 0 rfl) ?_
  refine lv_aload_n hx hb dX12_secondHash_91 rfl (lv_at hl 3 rfl) ?_
  refine va_get (D := D) (ci := 16) (v := .ref st) (C := RX12) (T := TX12) (N := 64) hx hb hts (by decide +kernel) hown hK hP 4 rfl rfl 18 (by decide) (hts (.fieldLink RX12 49 "SignetRingModel" "state" "[I") (by decide +kernel)) (fun _ h9 => h9) rfl dX12_secondHash_92 ?_
  refine lv_iload_n hx hb dX12_secondHash_95 rfl (lv_at hl 0 rfl) ?_
  refine va_iald hx hb hK hP 2 1 rfl rfl (by unfold vp_in; decide) dX12_secondHash_96 ?_
  refine lv_topi (fun v10 ev10 => ?_)
  have ev10 : v10 = tS2 0 := ev10.trans (zf_rd (j := 0) (by decide) (by decide))
  subst ev10
  refine va_iast hx hb hK hP hD hS 3 1 rfl rfl (by unfold vp_in; decide) dX12_secondHash_97 (fun H locs hP hD hS => ?_)
  have hP : va_P D vwCl [(wd, .inl (y 1, 80, .inl f2)), (dg, .inl (y 1, 32, .inl f3)), (st, .inl (y 1, 8, .inl (zf tS2 8 f4))), (nw, .inl (y 1, 8, .inl (upd (zf (tR 0) 0 f5) (nI 0).toNatClampNeg (tS2 0)))), (h0, .inr (16, [w1, w2, w3, w4, w5, w6, w7, w8, w9, w10, w11, w12, w13, w14, .int (nI 64), .ref ms, .ref dg, .ref wd, .ref st, .ref nw, w15, w16, w17, w18, w19, w20, w21, w22, w23, w24, w25, w26, w27, w28, w29, w30, w31, w32, w33, w34, w35, w36, w37, w38, w39, w40, w41, w42, w43, w44, w45, w46, w47, w48, w49, w50, w51, w52, w53, w54, w55, w56, w57, w58])), (ms, .inl (y 1, 30000, .inl (zf tM 64 f1)))] H := hP
  have hD : va_D A [(wd, .inl (y 1, 80, .inl f2)), (dg, .inl (y 1, 32, .inl f3)), (st, .inl (y 1, 8, .inl (zf tS2 8 f4))), (nw, .inl (y 1, 8, .inl (upd (zf (tR 0) 0 f5) (nI 0).toNatClampNeg (tS2 0)))), (h0, .inr (16, [w1, w2, w3, w4, w5, w6, w7, w8, w9, w10, w11, w12, w13, w14, .int (nI 64), .ref ms, .ref dg, .ref wd, .ref st, .ref nw, w15, w16, w17, w18, w19, w20, w21, w22, w23, w24, w25, w26, w27, w28, w29, w30, w31, w32, w33, w34, w35, w36, w37, w38, w39, w40, w41, w42, w43, w44, w45, w46, w47, w48, w49, w50, w51, w52, w53, w54, w55, w56, w57, w58])), (ms, .inl (y 1, 30000, .inl (zf tM 64 f1)))] := hD
  have u11 : upd (zf (tR 0) 0 f5) (nI 0).toNatClampNeg (tS2 0) = zf (tR 0) 1 f5 := (zf_st (n := 0) (by decide) (by decide +kernel))
  rw [u11] at hP hD
  have hP : va_P D vwCl [(wd, .inl (y 1, 80, .inl f2)), (dg, .inl (y 1, 32, .inl f3)), (st, .inl (y 1, 8, .inl (zf tS2 8 f4))), (nw, .inl (y 1, 8, .inl (zf (tR 0) 1 f5))), (h0, .inr (16, [w1, w2, w3, w4, w5, w6, w7, w8, w9, w10, w11, w12, w13, w14, .int (nI 64), .ref ms, .ref dg, .ref wd, .ref st, .ref nw, w15, w16, w17, w18, w19, w20, w21, w22, w23, w24, w25, w26, w27, w28, w29, w30, w31, w32, w33, w34, w35, w36, w37, w38, w39, w40, w41, w42, w43, w44, w45, w46, w47, w48, w49, w50, w51, w52, w53, w54, w55, w56, w57, w58])), (ms, .inl (y 1, 30000, .inl (zf tM 64 f1)))] H := hP
  have hD : va_D A [(wd, .inl (y 1, 80, .inl f2)), (dg, .inl (y 1, 32, .inl f3)), (st, .inl (y 1, 8, .inl (zf tS2 8 f4))), (nw, .inl (y 1, 8, .inl (zf (tR 0) 1 f5))), (h0, .inr (16, [w1, w2, w3, w4, w5, w6, w7, w8, w9, w10, w11, w12, w13, w14, .int (nI 64), .ref ms, .ref dg, .ref wd, .ref st, .ref nw, w15, w16, w17, w18, w19, w20, w21, w22, w23, w24, w25, w26, w27, w28, w29, w30, w31, w32, w33, w34, w35, w36, w37, w38, w39, w40, w41, w42, w43, w44, w45, w46, w47, w48, w49, w50, w51, w52, w53, w54, w55, w56, w57, w58])), (ms, .inl (y 1, 30000, .inl (zf tM 64 f1)))] := hD
  refine lv_iinc (v := 1) (lv' := [(3, .int 1), (2, .int 0), (1, .int 1), (0, .ref h0)]) hx hb dX12_secondHash_98 hl (k := 0) rfl (by decide) (by decide) rfl (fun ls hl => ?_)
  refine lv_goto (tgt := 80) hx hb dX12_secondHash_101 (by decide) ?_
  refine lv_iload_n hx hb dX12_secondHash_80 rfl (lv_at hl 0 rfl) ?_
  refine lv_bipush (v := 8) hx hb dX12_secondHash_81 (by decide) ?_
  refine lv_icmp_ge (tgt := 104) hx hb dX12_secondHash_83 (by decide) (fun c9 => absurd c9 (by decide)) (fun _ => ?_)
  refine lv_aload_n hx hb dX12_secondHash_86 rfl (lv_at hl 3 rfl) ?_
  refine va_get (D := D) (ci := 16) (v := .ref nw) (C := RX12) (T := TX12) (N := 64) hx hb hts (by decide +kernel) hown hK hP 4 rfl rfl 19 (by decide) (hts (.fieldLink RX12 52 "SignetRingModel" "now" "[I") (by decide +kernel)) (fun _ h9 => h9) rfl dX12_secondHash_87 ?_
  refine lv_iload_n hx hb dX12_secondHash_90 rfl (lv_at hl 0 rfl) ?_
  refine lv_aload_n hx hb dX12_secondHash_91 rfl (lv_at hl 3 rfl) ?_
  refine va_get (D := D) (ci := 16) (v := .ref st) (C := RX12) (T := TX12) (N := 64) hx hb hts (by decide +kernel) hown hK hP 4 rfl rfl 18 (by decide) (hts (.fieldLink RX12 49 "SignetRingModel" "state" "[I") (by decide +kernel)) (fun _ h9 => h9) rfl dX12_secondHash_92 ?_
  refine lv_iload_n hx hb dX12_secondHash_95 rfl (lv_at hl 0 rfl) ?_
  refine va_iald hx hb hK hP 2 1 rfl rfl (by unfold vp_in; decide) dX12_secondHash_96 ?_
  refine lv_topi (fun v12 ev12 => ?_)
  have ev12 : v12 = tS2 1 := ev12.trans (zf_rd (j := 1) (by decide) (by decide))
  subst ev12
  refine va_iast hx hb hK hP hD hS 3 1 rfl rfl (by unfold vp_in; decide) dX12_secondHash_97 (fun H locs hP hD hS => ?_)
  have hP : va_P D vwCl [(wd, .inl (y 1, 80, .inl f2)), (dg, .inl (y 1, 32, .inl f3)), (st, .inl (y 1, 8, .inl (zf tS2 8 f4))), (nw, .inl (y 1, 8, .inl (upd (zf (tR 0) 1 f5) (nI 1).toNatClampNeg (tS2 1)))), (h0, .inr (16, [w1, w2, w3, w4, w5, w6, w7, w8, w9, w10, w11, w12, w13, w14, .int (nI 64), .ref ms, .ref dg, .ref wd, .ref st, .ref nw, w15, w16, w17, w18, w19, w20, w21, w22, w23, w24, w25, w26, w27, w28, w29, w30, w31, w32, w33, w34, w35, w36, w37, w38, w39, w40, w41, w42, w43, w44, w45, w46, w47, w48, w49, w50, w51, w52, w53, w54, w55, w56, w57, w58])), (ms, .inl (y 1, 30000, .inl (zf tM 64 f1)))] H := hP
  have hD : va_D A [(wd, .inl (y 1, 80, .inl f2)), (dg, .inl (y 1, 32, .inl f3)), (st, .inl (y 1, 8, .inl (zf tS2 8 f4))), (nw, .inl (y 1, 8, .inl (upd (zf (tR 0) 1 f5) (nI 1).toNatClampNeg (tS2 1)))), (h0, .inr (16, [w1, w2, w3, w4, w5, w6, w7, w8, w9, w10, w11, w12, w13, w14, .int (nI 64), .ref ms, .ref dg, .ref wd, .ref st, .ref nw, w15, w16, w17, w18, w19, w20, w21, w22, w23, w24, w25, w26, w27, w28, w29, w30, w31, w32, w33, w34, w35, w36, w37, w38, w39, w40, w41, w42, w43, w44, w45, w46, w47, w48, w49, w50, w51, w52, w53, w54, w55, w56, w57, w58])), (ms, .inl (y 1, 30000, .inl (zf tM 64 f1)))] := hD
  have u13 : upd (zf (tR 0) 1 f5) (nI 1).toNatClampNeg (tS2 1) = zf (tR 0) 2 f5 := (zf_st (n := 1) (by decide) (by decide +kernel))
  rw [u13] at hP hD
  have hP : va_P D vwCl [(wd, .inl (y 1, 80, .inl f2)), (dg, .inl (y 1, 32, .inl f3)), (st, .inl (y 1, 8, .inl (zf tS2 8 f4))), (nw, .inl (y 1, 8, .inl (zf (tR 0) 2 f5))), (h0, .inr (16, [w1, w2, w3, w4, w5, w6, w7, w8, w9, w10, w11, w12, w13, w14, .int (nI 64), .ref ms, .ref dg, .ref wd, .ref st, .ref nw, w15, w16, w17, w18, w19, w20, w21, w22, w23, w24, w25, w26, w27, w28, w29, w30, w31, w32, w33, w34, w35, w36, w37, w38, w39, w40, w41, w42, w43, w44, w45, w46, w47, w48, w49, w50, w51, w52, w53, w54, w55, w56, w57, w58])), (ms, .inl (y 1, 30000, .inl (zf tM 64 f1)))] H := hP
  have hD : va_D A [(wd, .inl (y 1, 80, .inl f2)), (dg, .inl (y 1, 32, .inl f3)), (st, .inl (y 1, 8, .inl (zf tS2 8 f4))), (nw, .inl (y 1, 8, .inl (zf (tR 0) 2 f5))), (h0, .inr (16, [w1, w2, w3, w4, w5, w6, w7, w8, w9, w10, w11, w12, w13, w14, .int (nI 64), .ref ms, .ref dg, .ref wd, .ref st, .ref nw, w15, w16, w17, w18, w19, w20, w21, w22, w23, w24, w25, w26, w27, w28, w29, w30, w31, w32, w33, w34, w35, w36, w37, w38, w39, w40, w41, w42, w43, w44, w45, w46, w47, w48, w49, w50, w51, w52, w53, w54, w55, w56, w57, w58])), (ms, .inl (y 1, 30000, .inl (zf tM 64 f1)))] := hD
  refine lv_iinc (v := 2) (lv' := [(3, .int 2), (2, .int 0), (1, .int 1), (0, .ref h0)]) hx hb dX12_secondHash_98 hl (k := 0) rfl (by decide) (by decide) rfl (fun ls hl => ?_)
  refine lv_goto (tgt := 80) hx hb dX12_secondHash_101 (by decide) ?_
  refine lv_iload_n hx hb dX12_secondHash_80 rfl (lv_at hl 0 rfl) ?_
  refine lv_bipush (v := 8) hx hb dX12_secondHash_81 (by decide) ?_
  refine lv_icmp_ge (tgt := 104) hx hb dX12_secondHash_83 (by decide) (fun c9 => absurd c9 (by decide)) (fun _ => ?_)
  refine lv_aload_n hx hb dX12_secondHash_86 rfl (lv_at hl 3 rfl) ?_
  refine va_get (D := D) (ci := 16) (v := .ref nw) (C := RX12) (T := TX12) (N := 64) hx hb hts (by decide +kernel) hown hK hP 4 rfl rfl 19 (by decide) (hts (.fieldLink RX12 52 "SignetRingModel" "now" "[I") (by decide +kernel)) (fun _ h9 => h9) rfl dX12_secondHash_87 ?_
  refine lv_iload_n hx hb dX12_secondHash_90 rfl (lv_at hl 0 rfl) ?_
  refine lv_aload_n hx hb dX12_secondHash_91 rfl (lv_at hl 3 rfl) ?_
  refine va_get (D := D) (ci := 16) (v := .ref st) (C := RX12) (T := TX12) (N := 64) hx hb hts (by decide +kernel) hown hK hP 4 rfl rfl 18 (by decide) (hts (.fieldLink RX12 49 "SignetRingModel" "state" "[I") (by decide +kernel)) (fun _ h9 => h9) rfl dX12_secondHash_92 ?_
  refine lv_iload_n hx hb dX12_secondHash_95 rfl (lv_at hl 0 rfl) ?_
  refine va_iald hx hb hK hP 2 1 rfl rfl (by unfold vp_in; decide) dX12_secondHash_96 ?_
  refine lv_topi (fun v14 ev14 => ?_)
  have ev14 : v14 = tS2 2 := ev14.trans (zf_rd (j := 2) (by decide) (by decide))
  subst ev14
  refine va_iast hx hb hK hP hD hS 3 1 rfl rfl (by unfold vp_in; decide) dX12_secondHash_97 (fun H locs hP hD hS => ?_)
  have hP : va_P D vwCl [(wd, .inl (y 1, 80, .inl f2)), (dg, .inl (y 1, 32, .inl f3)), (st, .inl (y 1, 8, .inl (zf tS2 8 f4))), (nw, .inl (y 1, 8, .inl (upd (zf (tR 0) 2 f5) (nI 2).toNatClampNeg (tS2 2)))), (h0, .inr (16, [w1, w2, w3, w4, w5, w6, w7, w8, w9, w10, w11, w12, w13, w14, .int (nI 64), .ref ms, .ref dg, .ref wd, .ref st, .ref nw, w15, w16, w17, w18, w19, w20, w21, w22, w23, w24, w25, w26, w27, w28, w29, w30, w31, w32, w33, w34, w35, w36, w37, w38, w39, w40, w41, w42, w43, w44, w45, w46, w47, w48, w49, w50, w51, w52, w53, w54, w55, w56, w57, w58])), (ms, .inl (y 1, 30000, .inl (zf tM 64 f1)))] H := hP
  have hD : va_D A [(wd, .inl (y 1, 80, .inl f2)), (dg, .inl (y 1, 32, .inl f3)), (st, .inl (y 1, 8, .inl (zf tS2 8 f4))), (nw, .inl (y 1, 8, .inl (upd (zf (tR 0) 2 f5) (nI 2).toNatClampNeg (tS2 2)))), (h0, .inr (16, [w1, w2, w3, w4, w5, w6, w7, w8, w9, w10, w11, w12, w13, w14, .int (nI 64), .ref ms, .ref dg, .ref wd, .ref st, .ref nw, w15, w16, w17, w18, w19, w20, w21, w22, w23, w24, w25, w26, w27, w28, w29, w30, w31, w32, w33, w34, w35, w36, w37, w38, w39, w40, w41, w42, w43, w44, w45, w46, w47, w48, w49, w50, w51, w52, w53, w54, w55, w56, w57, w58])), (ms, .inl (y 1, 30000, .inl (zf tM 64 f1)))] := hD
  have u15 : upd (zf (tR 0) 2 f5) (nI 2).toNatClampNeg (tS2 2) = zf (tR 0) 3 f5 := (zf_st (n := 2) (by decide) (by decide +kernel))
  rw [u15] at hP hD
  have hP : va_P D vwCl [(wd, .inl (y 1, 80, .inl f2)), (dg, .inl (y 1, 32, .inl f3)), (st, .inl (y 1, 8, .inl (zf tS2 8 f4))), (nw, .inl (y 1, 8, .inl (zf (tR 0) 3 f5))), (h0, .inr (16, [w1, w2, w3, w4, w5, w6, w7, w8, w9, w10, w11, w12, w13, w14, .int (nI 64), .ref ms, .ref dg, .ref wd, .ref st, .ref nw, w15, w16, w17, w18, w19, w20, w21, w22, w23, w24, w25, w26, w27, w28, w29, w30, w31, w32, w33, w34, w35, w36, w37, w38, w39, w40, w41, w42, w43, w44, w45, w46, w47, w48, w49, w50, w51, w52, w53, w54, w55, w56, w57, w58])), (ms, .inl (y 1, 30000, .inl (zf tM 64 f1)))] H := hP
  have hD : va_D A [(wd, .inl (y 1, 80, .inl f2)), (dg, .inl (y 1, 32, .inl f3)), (st, .inl (y 1, 8, .inl (zf tS2 8 f4))), (nw, .inl (y 1, 8, .inl (zf (tR 0) 3 f5))), (h0, .inr (16, [w1, w2, w3, w4, w5, w6, w7, w8, w9, w10, w11, w12, w13, w14, .int (nI 64), .ref ms, .ref dg, .ref wd, .ref st, .ref nw, w15, w16, w17, w18, w19, w20, w21, w22, w23, w24, w25, w26, w27, w28, w29, w30, w31, w32, w33, w34, w35, w36, w37, w38, w39, w40, w41, w42, w43, w44, w45, w46, w47, w48, w49, w50, w51, w52, w53, w54, w55, w56, w57, w58])), (ms, .inl (y 1, 30000, .inl (zf tM 64 f1)))] := hD
  refine lv_iinc (v := 3) (lv' := [(3, .int 3), (2, .int 0), (1, .int 1), (0, .ref h0)]) hx hb dX12_secondHash_98 hl (k := 0) rfl (by decide) (by decide) rfl (fun ls hl => ?_)
  refine lv_goto (tgt := 80) hx hb dX12_secondHash_101 (by decide) ?_
  refine lv_iload_n hx hb dX12_secondHash_80 rfl (lv_at hl 0 rfl) ?_
  refine lv_bipush (v := 8) hx hb dX12_secondHash_81 (by decide) ?_
  refine lv_icmp_ge (tgt := 104) hx hb dX12_secondHash_83 (by decide) (fun c9 => absurd c9 (by decide)) (fun _ => ?_)
  refine lv_aload_n hx hb dX12_secondHash_86 rfl (lv_at hl 3 rfl) ?_
  refine va_get (D := D) (ci := 16) (v := .ref nw) (C := RX12) (T := TX12) (N := 64) hx hb hts (by decide +kernel) hown hK hP 4 rfl rfl 19 (by decide) (hts (.fieldLink RX12 52 "SignetRingModel" "now" "[I") (by decide +kernel)) (fun _ h9 => h9) rfl dX12_secondHash_87 ?_
  refine lv_iload_n hx hb dX12_secondHash_90 rfl (lv_at hl 0 rfl) ?_
  refine lv_aload_n hx hb dX12_secondHash_91 rfl (lv_at hl 3 rfl) ?_
  refine va_get (D := D) (ci := 16) (v := .ref st) (C := RX12) (T := TX12) (N := 64) hx hb hts (by decide +kernel) hown hK hP 4 rfl rfl 18 (by decide) (hts (.fieldLink RX12 49 "SignetRingModel" "state" "[I") (by decide +kernel)) (fun _ h9 => h9) rfl dX12_secondHash_92 ?_
  refine lv_iload_n hx hb dX12_secondHash_95 rfl (lv_at hl 0 rfl) ?_
  refine va_iald hx hb hK hP 2 1 rfl rfl (by unfold vp_in; decide) dX12_secondHash_96 ?_
  refine lv_topi (fun v16 ev16 => ?_)
  have ev16 : v16 = tS2 3 := ev16.trans (zf_rd (j := 3) (by decide) (by decide))
  subst ev16
  refine va_iast hx hb hK hP hD hS 3 1 rfl rfl (by unfold vp_in; decide) dX12_secondHash_97 (fun H locs hP hD hS => ?_)
  have hP : va_P D vwCl [(wd, .inl (y 1, 80, .inl f2)), (dg, .inl (y 1, 32, .inl f3)), (st, .inl (y 1, 8, .inl (zf tS2 8 f4))), (nw, .inl (y 1, 8, .inl (upd (zf (tR 0) 3 f5) (nI 3).toNatClampNeg (tS2 3)))), (h0, .inr (16, [w1, w2, w3, w4, w5, w6, w7, w8, w9, w10, w11, w12, w13, w14, .int (nI 64), .ref ms, .ref dg, .ref wd, .ref st, .ref nw, w15, w16, w17, w18, w19, w20, w21, w22, w23, w24, w25, w26, w27, w28, w29, w30, w31, w32, w33, w34, w35, w36, w37, w38, w39, w40, w41, w42, w43, w44, w45, w46, w47, w48, w49, w50, w51, w52, w53, w54, w55, w56, w57, w58])), (ms, .inl (y 1, 30000, .inl (zf tM 64 f1)))] H := hP
  have hD : va_D A [(wd, .inl (y 1, 80, .inl f2)), (dg, .inl (y 1, 32, .inl f3)), (st, .inl (y 1, 8, .inl (zf tS2 8 f4))), (nw, .inl (y 1, 8, .inl (upd (zf (tR 0) 3 f5) (nI 3).toNatClampNeg (tS2 3)))), (h0, .inr (16, [w1, w2, w3, w4, w5, w6, w7, w8, w9, w10, w11, w12, w13, w14, .int (nI 64), .ref ms, .ref dg, .ref wd, .ref st, .ref nw, w15, w16, w17, w18, w19, w20, w21, w22, w23, w24, w25, w26, w27, w28, w29, w30, w31, w32, w33, w34, w35, w36, w37, w38, w39, w40, w41, w42, w43, w44, w45, w46, w47, w48, w49, w50, w51, w52, w53, w54, w55, w56, w57, w58])), (ms, .inl (y 1, 30000, .inl (zf tM 64 f1)))] := hD
  have u17 : upd (zf (tR 0) 3 f5) (nI 3).toNatClampNeg (tS2 3) = zf (tR 0) 4 f5 := (zf_st (n := 3) (by decide) (by decide +kernel))
  rw [u17] at hP hD
  have hP : va_P D vwCl [(wd, .inl (y 1, 80, .inl f2)), (dg, .inl (y 1, 32, .inl f3)), (st, .inl (y 1, 8, .inl (zf tS2 8 f4))), (nw, .inl (y 1, 8, .inl (zf (tR 0) 4 f5))), (h0, .inr (16, [w1, w2, w3, w4, w5, w6, w7, w8, w9, w10, w11, w12, w13, w14, .int (nI 64), .ref ms, .ref dg, .ref wd, .ref st, .ref nw, w15, w16, w17, w18, w19, w20, w21, w22, w23, w24, w25, w26, w27, w28, w29, w30, w31, w32, w33, w34, w35, w36, w37, w38, w39, w40, w41, w42, w43, w44, w45, w46, w47, w48, w49, w50, w51, w52, w53, w54, w55, w56, w57, w58])), (ms, .inl (y 1, 30000, .inl (zf tM 64 f1)))] H := hP
  have hD : va_D A [(wd, .inl (y 1, 80, .inl f2)), (dg, .inl (y 1, 32, .inl f3)), (st, .inl (y 1, 8, .inl (zf tS2 8 f4))), (nw, .inl (y 1, 8, .inl (zf (tR 0) 4 f5))), (h0, .inr (16, [w1, w2, w3, w4, w5, w6, w7, w8, w9, w10, w11, w12, w13, w14, .int (nI 64), .ref ms, .ref dg, .ref wd, .ref st, .ref nw, w15, w16, w17, w18, w19, w20, w21, w22, w23, w24, w25, w26, w27, w28, w29, w30, w31, w32, w33, w34, w35, w36, w37, w38, w39, w40, w41, w42, w43, w44, w45, w46, w47, w48, w49, w50, w51, w52, w53, w54, w55, w56, w57, w58])), (ms, .inl (y 1, 30000, .inl (zf tM 64 f1)))] := hD
  refine lv_iinc (v := 4) (lv' := [(3, .int 4), (2, .int 0), (1, .int 1), (0, .ref h0)]) hx hb dX12_secondHash_98 hl (k := 0) rfl (by decide) (by decide) rfl (fun ls hl => ?_)
  refine lv_goto (tgt := 80) hx hb dX12_secondHash_101 (by decide) ?_
  refine lv_iload_n hx hb dX12_secondHash_80 rfl (lv_at hl 0 rfl) ?_
  refine lv_bipush (v := 8) hx hb dX12_secondHash_81 (by decide) ?_
  refine lv_icmp_ge (tgt := 104) hx hb dX12_secondHash_83 (by decide) (fun c9 => absurd c9 (by decide)) (fun _ => ?_)
  refine lv_aload_n hx hb dX12_secondHash_86 rfl (lv_at hl 3 rfl) ?_
  refine va_get (D := D) (ci := 16) (v := .ref nw) (C := RX12) (T := TX12) (N := 64) hx hb hts (by decide +kernel) hown hK hP 4 rfl rfl 19 (by decide) (hts (.fieldLink RX12 52 "SignetRingModel" "now" "[I") (by decide +kernel)) (fun _ h9 => h9) rfl dX12_secondHash_87 ?_
  refine lv_iload_n hx hb dX12_secondHash_90 rfl (lv_at hl 0 rfl) ?_
  refine lv_aload_n hx hb dX12_secondHash_91 rfl (lv_at hl 3 rfl) ?_
  refine va_get (D := D) (ci := 16) (v := .ref st) (C := RX12) (T := TX12) (N := 64) hx hb hts (by decide +kernel) hown hK hP 4 rfl rfl 18 (by decide) (hts (.fieldLink RX12 49 "SignetRingModel" "state" "[I") (by decide +kernel)) (fun _ h9 => h9) rfl dX12_secondHash_92 ?_
  refine lv_iload_n hx hb dX12_secondHash_95 rfl (lv_at hl 0 rfl) ?_
  refine va_iald hx hb hK hP 2 1 rfl rfl (by unfold vp_in; decide) dX12_secondHash_96 ?_
  refine lv_topi (fun v18 ev18 => ?_)
  have ev18 : v18 = tS2 4 := ev18.trans (zf_rd (j := 4) (by decide) (by decide))
  subst ev18
  refine va_iast hx hb hK hP hD hS 3 1 rfl rfl (by unfold vp_in; decide) dX12_secondHash_97 (fun H locs hP hD hS => ?_)
  have hP : va_P D vwCl [(wd, .inl (y 1, 80, .inl f2)), (dg, .inl (y 1, 32, .inl f3)), (st, .inl (y 1, 8, .inl (zf tS2 8 f4))), (nw, .inl (y 1, 8, .inl (upd (zf (tR 0) 4 f5) (nI 4).toNatClampNeg (tS2 4)))), (h0, .inr (16, [w1, w2, w3, w4, w5, w6, w7, w8, w9, w10, w11, w12, w13, w14, .int (nI 64), .ref ms, .ref dg, .ref wd, .ref st, .ref nw, w15, w16, w17, w18, w19, w20, w21, w22, w23, w24, w25, w26, w27, w28, w29, w30, w31, w32, w33, w34, w35, w36, w37, w38, w39, w40, w41, w42, w43, w44, w45, w46, w47, w48, w49, w50, w51, w52, w53, w54, w55, w56, w57, w58])), (ms, .inl (y 1, 30000, .inl (zf tM 64 f1)))] H := hP
  have hD : va_D A [(wd, .inl (y 1, 80, .inl f2)), (dg, .inl (y 1, 32, .inl f3)), (st, .inl (y 1, 8, .inl (zf tS2 8 f4))), (nw, .inl (y 1, 8, .inl (upd (zf (tR 0) 4 f5) (nI 4).toNatClampNeg (tS2 4)))), (h0, .inr (16, [w1, w2, w3, w4, w5, w6, w7, w8, w9, w10, w11, w12, w13, w14, .int (nI 64), .ref ms, .ref dg, .ref wd, .ref st, .ref nw, w15, w16, w17, w18, w19, w20, w21, w22, w23, w24, w25, w26, w27, w28, w29, w30, w31, w32, w33, w34, w35, w36, w37, w38, w39, w40, w41, w42, w43, w44, w45, w46, w47, w48, w49, w50, w51, w52, w53, w54, w55, w56, w57, w58])), (ms, .inl (y 1, 30000, .inl (zf tM 64 f1)))] := hD
  have u19 : upd (zf (tR 0) 4 f5) (nI 4).toNatClampNeg (tS2 4) = zf (tR 0) 5 f5 := (zf_st (n := 4) (by decide) (by decide +kernel))
  rw [u19] at hP hD
  have hP : va_P D vwCl [(wd, .inl (y 1, 80, .inl f2)), (dg, .inl (y 1, 32, .inl f3)), (st, .inl (y 1, 8, .inl (zf tS2 8 f4))), (nw, .inl (y 1, 8, .inl (zf (tR 0) 5 f5))), (h0, .inr (16, [w1, w2, w3, w4, w5, w6, w7, w8, w9, w10, w11, w12, w13, w14, .int (nI 64), .ref ms, .ref dg, .ref wd, .ref st, .ref nw, w15, w16, w17, w18, w19, w20, w21, w22, w23, w24, w25, w26, w27, w28, w29, w30, w31, w32, w33, w34, w35, w36, w37, w38, w39, w40, w41, w42, w43, w44, w45, w46, w47, w48, w49, w50, w51, w52, w53, w54, w55, w56, w57, w58])), (ms, .inl (y 1, 30000, .inl (zf tM 64 f1)))] H := hP
  have hD : va_D A [(wd, .inl (y 1, 80, .inl f2)), (dg, .inl (y 1, 32, .inl f3)), (st, .inl (y 1, 8, .inl (zf tS2 8 f4))), (nw, .inl (y 1, 8, .inl (zf (tR 0) 5 f5))), (h0, .inr (16, [w1, w2, w3, w4, w5, w6, w7, w8, w9, w10, w11, w12, w13, w14, .int (nI 64), .ref ms, .ref dg, .ref wd, .ref st, .ref nw, w15, w16, w17, w18, w19, w20, w21, w22, w23, w24, w25, w26, w27, w28, w29, w30, w31, w32, w33, w34, w35, w36, w37, w38, w39, w40, w41, w42, w43, w44, w45, w46, w47, w48, w49, w50, w51, w52, w53, w54, w55, w56, w57, w58])), (ms, .inl (y 1, 30000, .inl (zf tM 64 f1)))] := hD
  refine lv_iinc (v := 5) (lv' := [(3, .int 5), (2, .int 0), (1, .int 1), (0, .ref h0)]) hx hb dX12_secondHash_98 hl (k := 0) rfl (by decide) (by decide) rfl (fun ls hl => ?_)
  refine lv_goto (tgt := 80) hx hb dX12_secondHash_101 (by decide) ?_
  refine lv_iload_n hx hb dX12_secondHash_80 rfl (lv_at hl 0 rfl) ?_
  refine lv_bipush (v := 8) hx hb dX12_secondHash_81 (by decide) ?_
  refine lv_icmp_ge (tgt := 104) hx hb dX12_secondHash_83 (by decide) (fun c9 => absurd c9 (by decide)) (fun _ => ?_)
  refine lv_aload_n hx hb dX12_secondHash_86 rfl (lv_at hl 3 rfl) ?_
  refine va_get (D := D) (ci := 16) (v := .ref nw) (C := RX12) (T := TX12) (N := 64) hx hb hts (by decide +kernel) hown hK hP 4 rfl rfl 19 (by decide) (hts (.fieldLink RX12 52 "SignetRingModel" "now" "[I") (by decide +kernel)) (fun _ h9 => h9) rfl dX12_secondHash_87 ?_
  refine lv_iload_n hx hb dX12_secondHash_90 rfl (lv_at hl 0 rfl) ?_
  refine lv_aload_n hx hb dX12_secondHash_91 rfl (lv_at hl 3 rfl) ?_
  refine va_get (D := D) (ci := 16) (v := .ref st) (C := RX12) (T := TX12) (N := 64) hx hb hts (by decide +kernel) hown hK hP 4 rfl rfl 18 (by decide) (hts (.fieldLink RX12 49 "SignetRingModel" "state" "[I") (by decide +kernel)) (fun _ h9 => h9) rfl dX12_secondHash_92 ?_
  refine lv_iload_n hx hb dX12_secondHash_95 rfl (lv_at hl 0 rfl) ?_
  refine va_iald hx hb hK hP 2 1 rfl rfl (by unfold vp_in; decide) dX12_secondHash_96 ?_
  refine lv_topi (fun v20 ev20 => ?_)
  have ev20 : v20 = tS2 5 := ev20.trans (zf_rd (j := 5) (by decide) (by decide))
  subst ev20
  refine va_iast hx hb hK hP hD hS 3 1 rfl rfl (by unfold vp_in; decide) dX12_secondHash_97 (fun H locs hP hD hS => ?_)
  have hP : va_P D vwCl [(wd, .inl (y 1, 80, .inl f2)), (dg, .inl (y 1, 32, .inl f3)), (st, .inl (y 1, 8, .inl (zf tS2 8 f4))), (nw, .inl (y 1, 8, .inl (upd (zf (tR 0) 5 f5) (nI 5).toNatClampNeg (tS2 5)))), (h0, .inr (16, [w1, w2, w3, w4, w5, w6, w7, w8, w9, w10, w11, w12, w13, w14, .int (nI 64), .ref ms, .ref dg, .ref wd, .ref st, .ref nw, w15, w16, w17, w18, w19, w20, w21, w22, w23, w24, w25, w26, w27, w28, w29, w30, w31, w32, w33, w34, w35, w36, w37, w38, w39, w40, w41, w42, w43, w44, w45, w46, w47, w48, w49, w50, w51, w52, w53, w54, w55, w56, w57, w58])), (ms, .inl (y 1, 30000, .inl (zf tM 64 f1)))] H := hP
  have hD : va_D A [(wd, .inl (y 1, 80, .inl f2)), (dg, .inl (y 1, 32, .inl f3)), (st, .inl (y 1, 8, .inl (zf tS2 8 f4))), (nw, .inl (y 1, 8, .inl (upd (zf (tR 0) 5 f5) (nI 5).toNatClampNeg (tS2 5)))), (h0, .inr (16, [w1, w2, w3, w4, w5, w6, w7, w8, w9, w10, w11, w12, w13, w14, .int (nI 64), .ref ms, .ref dg, .ref wd, .ref st, .ref nw, w15, w16, w17, w18, w19, w20, w21, w22, w23, w24, w25, w26, w27, w28, w29, w30, w31, w32, w33, w34, w35, w36, w37, w38, w39, w40, w41, w42, w43, w44, w45, w46, w47, w48, w49, w50, w51, w52, w53, w54, w55, w56, w57, w58])), (ms, .inl (y 1, 30000, .inl (zf tM 64 f1)))] := hD
  have u21 : upd (zf (tR 0) 5 f5) (nI 5).toNatClampNeg (tS2 5) = zf (tR 0) 6 f5 := (zf_st (n := 5) (by decide) (by decide +kernel))
  rw [u21] at hP hD
  have hP : va_P D vwCl [(wd, .inl (y 1, 80, .inl f2)), (dg, .inl (y 1, 32, .inl f3)), (st, .inl (y 1, 8, .inl (zf tS2 8 f4))), (nw, .inl (y 1, 8, .inl (zf (tR 0) 6 f5))), (h0, .inr (16, [w1, w2, w3, w4, w5, w6, w7, w8, w9, w10, w11, w12, w13, w14, .int (nI 64), .ref ms, .ref dg, .ref wd, .ref st, .ref nw, w15, w16, w17, w18, w19, w20, w21, w22, w23, w24, w25, w26, w27, w28, w29, w30, w31, w32, w33, w34, w35, w36, w37, w38, w39, w40, w41, w42, w43, w44, w45, w46, w47, w48, w49, w50, w51, w52, w53, w54, w55, w56, w57, w58])), (ms, .inl (y 1, 30000, .inl (zf tM 64 f1)))] H := hP
  have hD : va_D A [(wd, .inl (y 1, 80, .inl f2)), (dg, .inl (y 1, 32, .inl f3)), (st, .inl (y 1, 8, .inl (zf tS2 8 f4))), (nw, .inl (y 1, 8, .inl (zf (tR 0) 6 f5))), (h0, .inr (16, [w1, w2, w3, w4, w5, w6, w7, w8, w9, w10, w11, w12, w13, w14, .int (nI 64), .ref ms, .ref dg, .ref wd, .ref st, .ref nw, w15, w16, w17, w18, w19, w20, w21, w22, w23, w24, w25, w26, w27, w28, w29, w30, w31, w32, w33, w34, w35, w36, w37, w38, w39, w40, w41, w42, w43, w44, w45, w46, w47, w48, w49, w50, w51, w52, w53, w54, w55, w56, w57, w58])), (ms, .inl (y 1, 30000, .inl (zf tM 64 f1)))] := hD
  refine lv_iinc (v := 6) (lv' := [(3, .int 6), (2, .int 0), (1, .int 1), (0, .ref h0)]) hx hb dX12_secondHash_98 hl (k := 0) rfl (by decide) (by decide) rfl (fun ls hl => ?_)
  refine lv_goto (tgt := 80) hx hb dX12_secondHash_101 (by decide) ?_
  refine lv_iload_n hx hb dX12_secondHash_80 rfl (lv_at hl 0 rfl) ?_
  refine lv_bipush (v := 8) hx hb dX12_secondHash_81 (by decide) ?_
  refine lv_icmp_ge (tgt := 104) hx hb dX12_secondHash_83 (by decide) (fun c9 => absurd c9 (by decide)) (fun _ => ?_)
  refine lv_aload_n hx hb dX12_secondHash_86 rfl (lv_at hl 3 rfl) ?_
  refine va_get (D := D) (ci := 16) (v := .ref nw) (C := RX12) (T := TX12) (N := 64) hx hb hts (by decide +kernel) hown hK hP 4 rfl rfl 19 (by decide) (hts (.fieldLink RX12 52 "SignetRingModel" "now" "[I") (by decide +kernel)) (fun _ h9 => h9) rfl dX12_secondHash_87 ?_
  refine lv_iload_n hx hb dX12_secondHash_90 rfl (lv_at hl 0 rfl) ?_
  refine lv_aload_n hx hb dX12_secondHash_91 rfl (lv_at hl 3 rfl) ?_
  refine va_get (D := D) (ci := 16) (v := .ref st) (C := RX12) (T := TX12) (N := 64) hx hb hts (by decide +kernel) hown hK hP 4 rfl rfl 18 (by decide) (hts (.fieldLink RX12 49 "SignetRingModel" "state" "[I") (by decide +kernel)) (fun _ h9 => h9) rfl dX12_secondHash_92 ?_
  refine lv_iload_n hx hb dX12_secondHash_95 rfl (lv_at hl 0 rfl) ?_
  refine va_iald hx hb hK hP 2 1 rfl rfl (by unfold vp_in; decide) dX12_secondHash_96 ?_
  refine lv_topi (fun v22 ev22 => ?_)
  have ev22 : v22 = tS2 6 := ev22.trans (zf_rd (j := 6) (by decide) (by decide))
  subst ev22
  refine va_iast hx hb hK hP hD hS 3 1 rfl rfl (by unfold vp_in; decide) dX12_secondHash_97 (fun H locs hP hD hS => ?_)
  have hP : va_P D vwCl [(wd, .inl (y 1, 80, .inl f2)), (dg, .inl (y 1, 32, .inl f3)), (st, .inl (y 1, 8, .inl (zf tS2 8 f4))), (nw, .inl (y 1, 8, .inl (upd (zf (tR 0) 6 f5) (nI 6).toNatClampNeg (tS2 6)))), (h0, .inr (16, [w1, w2, w3, w4, w5, w6, w7, w8, w9, w10, w11, w12, w13, w14, .int (nI 64), .ref ms, .ref dg, .ref wd, .ref st, .ref nw, w15, w16, w17, w18, w19, w20, w21, w22, w23, w24, w25, w26, w27, w28, w29, w30, w31, w32, w33, w34, w35, w36, w37, w38, w39, w40, w41, w42, w43, w44, w45, w46, w47, w48, w49, w50, w51, w52, w53, w54, w55, w56, w57, w58])), (ms, .inl (y 1, 30000, .inl (zf tM 64 f1)))] H := hP
  have hD : va_D A [(wd, .inl (y 1, 80, .inl f2)), (dg, .inl (y 1, 32, .inl f3)), (st, .inl (y 1, 8, .inl (zf tS2 8 f4))), (nw, .inl (y 1, 8, .inl (upd (zf (tR 0) 6 f5) (nI 6).toNatClampNeg (tS2 6)))), (h0, .inr (16, [w1, w2, w3, w4, w5, w6, w7, w8, w9, w10, w11, w12, w13, w14, .int (nI 64), .ref ms, .ref dg, .ref wd, .ref st, .ref nw, w15, w16, w17, w18, w19, w20, w21, w22, w23, w24, w25, w26, w27, w28, w29, w30, w31, w32, w33, w34, w35, w36, w37, w38, w39, w40, w41, w42, w43, w44, w45, w46, w47, w48, w49, w50, w51, w52, w53, w54, w55, w56, w57, w58])), (ms, .inl (y 1, 30000, .inl (zf tM 64 f1)))] := hD
  have u23 : upd (zf (tR 0) 6 f5) (nI 6).toNatClampNeg (tS2 6) = zf (tR 0) 7 f5 := (zf_st (n := 6) (by decide) (by decide +kernel))
  rw [u23] at hP hD
  have hP : va_P D vwCl [(wd, .inl (y 1, 80, .inl f2)), (dg, .inl (y 1, 32, .inl f3)), (st, .inl (y 1, 8, .inl (zf tS2 8 f4))), (nw, .inl (y 1, 8, .inl (zf (tR 0) 7 f5))), (h0, .inr (16, [w1, w2, w3, w4, w5, w6, w7, w8, w9, w10, w11, w12, w13, w14, .int (nI 64), .ref ms, .ref dg, .ref wd, .ref st, .ref nw, w15, w16, w17, w18, w19, w20, w21, w22, w23, w24, w25, w26, w27, w28, w29, w30, w31, w32, w33, w34, w35, w36, w37, w38, w39, w40, w41, w42, w43, w44, w45, w46, w47, w48, w49, w50, w51, w52, w53, w54, w55, w56, w57, w58])), (ms, .inl (y 1, 30000, .inl (zf tM 64 f1)))] H := hP
  have hD : va_D A [(wd, .inl (y 1, 80, .inl f2)), (dg, .inl (y 1, 32, .inl f3)), (st, .inl (y 1, 8, .inl (zf tS2 8 f4))), (nw, .inl (y 1, 8, .inl (zf (tR 0) 7 f5))), (h0, .inr (16, [w1, w2, w3, w4, w5, w6, w7, w8, w9, w10, w11, w12, w13, w14, .int (nI 64), .ref ms, .ref dg, .ref wd, .ref st, .ref nw, w15, w16, w17, w18, w19, w20, w21, w22, w23, w24, w25, w26, w27, w28, w29, w30, w31, w32, w33, w34, w35, w36, w37, w38, w39, w40, w41, w42, w43, w44, w45, w46, w47, w48, w49, w50, w51, w52, w53, w54, w55, w56, w57, w58])), (ms, .inl (y 1, 30000, .inl (zf tM 64 f1)))] := hD
  refine lv_iinc (v := 7) (lv' := [(3, .int 7), (2, .int 0), (1, .int 1), (0, .ref h0)]) hx hb dX12_secondHash_98 hl (k := 0) rfl (by decide) (by decide) rfl (fun ls hl => ?_)
  refine lv_goto (tgt := 80) hx hb dX12_secondHash_101 (by decide) ?_
  refine lv_iload_n hx hb dX12_secondHash_80 rfl (lv_at hl 0 rfl) ?_
  refine lv_bipush (v := 8) hx hb dX12_secondHash_81 (by decide) ?_
  refine lv_icmp_ge (tgt := 104) hx hb dX12_secondHash_83 (by decide) (fun c9 => absurd c9 (by decide)) (fun _ => ?_)
  refine lv_aload_n hx hb dX12_secondHash_86 rfl (lv_at hl 3 rfl) ?_
  refine va_get (D := D) (ci := 16) (v := .ref nw) (C := RX12) (T := TX12) (N := 64) hx hb hts (by decide +kernel) hown hK hP 4 rfl rfl 19 (by decide) (hts (.fieldLink RX12 52 "SignetRingModel" "now" "[I") (by decide +kernel)) (fun _ h9 => h9) rfl dX12_secondHash_87 ?_
  refine lv_iload_n hx hb dX12_secondHash_90 rfl (lv_at hl 0 rfl) ?_
  refine lv_aload_n hx hb dX12_secondHash_91 rfl (lv_at hl 3 rfl) ?_
  refine va_get (D := D) (ci := 16) (v := .ref st) (C := RX12) (T := TX12) (N := 64) hx hb hts (by decide +kernel) hown hK hP 4 rfl rfl 18 (by decide) (hts (.fieldLink RX12 49 "SignetRingModel" "state" "[I") (by decide +kernel)) (fun _ h9 => h9) rfl dX12_secondHash_92 ?_
  refine lv_iload_n hx hb dX12_secondHash_95 rfl (lv_at hl 0 rfl) ?_
  refine va_iald hx hb hK hP 2 1 rfl rfl (by unfold vp_in; decide) dX12_secondHash_96 ?_
  refine lv_topi (fun v24 ev24 => ?_)
  have ev24 : v24 = tS2 7 := ev24.trans (zf_rd (j := 7) (by decide) (by decide))
  subst ev24
  refine va_iast hx hb hK hP hD hS 3 1 rfl rfl (by unfold vp_in; decide) dX12_secondHash_97 (fun H locs hP hD hS => ?_)
  have hP : va_P D vwCl [(wd, .inl (y 1, 80, .inl f2)), (dg, .inl (y 1, 32, .inl f3)), (st, .inl (y 1, 8, .inl (zf tS2 8 f4))), (nw, .inl (y 1, 8, .inl (upd (zf (tR 0) 7 f5) (nI 7).toNatClampNeg (tS2 7)))), (h0, .inr (16, [w1, w2, w3, w4, w5, w6, w7, w8, w9, w10, w11, w12, w13, w14, .int (nI 64), .ref ms, .ref dg, .ref wd, .ref st, .ref nw, w15, w16, w17, w18, w19, w20, w21, w22, w23, w24, w25, w26, w27, w28, w29, w30, w31, w32, w33, w34, w35, w36, w37, w38, w39, w40, w41, w42, w43, w44, w45, w46, w47, w48, w49, w50, w51, w52, w53, w54, w55, w56, w57, w58])), (ms, .inl (y 1, 30000, .inl (zf tM 64 f1)))] H := hP
  have hD : va_D A [(wd, .inl (y 1, 80, .inl f2)), (dg, .inl (y 1, 32, .inl f3)), (st, .inl (y 1, 8, .inl (zf tS2 8 f4))), (nw, .inl (y 1, 8, .inl (upd (zf (tR 0) 7 f5) (nI 7).toNatClampNeg (tS2 7)))), (h0, .inr (16, [w1, w2, w3, w4, w5, w6, w7, w8, w9, w10, w11, w12, w13, w14, .int (nI 64), .ref ms, .ref dg, .ref wd, .ref st, .ref nw, w15, w16, w17, w18, w19, w20, w21, w22, w23, w24, w25, w26, w27, w28, w29, w30, w31, w32, w33, w34, w35, w36, w37, w38, w39, w40, w41, w42, w43, w44, w45, w46, w47, w48, w49, w50, w51, w52, w53, w54, w55, w56, w57, w58])), (ms, .inl (y 1, 30000, .inl (zf tM 64 f1)))] := hD
  have u25 : upd (zf (tR 0) 7 f5) (nI 7).toNatClampNeg (tS2 7) = zf (tR 0) 8 f5 := (zf_st (n := 7) (by decide) (by decide +kernel))
  rw [u25] at hP hD
  have hP : va_P D vwCl [(wd, .inl (y 1, 80, .inl f2)), (dg, .inl (y 1, 32, .inl f3)), (st, .inl (y 1, 8, .inl (zf tS2 8 f4))), (nw, .inl (y 1, 8, .inl (zf (tR 0) 8 f5))), (h0, .inr (16, [w1, w2, w3, w4, w5, w6, w7, w8, w9, w10, w11, w12, w13, w14, .int (nI 64), .ref ms, .ref dg, .ref wd, .ref st, .ref nw, w15, w16, w17, w18, w19, w20, w21, w22, w23, w24, w25, w26, w27, w28, w29, w30, w31, w32, w33, w34, w35, w36, w37, w38, w39, w40, w41, w42, w43, w44, w45, w46, w47, w48, w49, w50, w51, w52, w53, w54, w55, w56, w57, w58])), (ms, .inl (y 1, 30000, .inl (zf tM 64 f1)))] H := hP
  have hD : va_D A [(wd, .inl (y 1, 80, .inl f2)), (dg, .inl (y 1, 32, .inl f3)), (st, .inl (y 1, 8, .inl (zf tS2 8 f4))), (nw, .inl (y 1, 8, .inl (zf (tR 0) 8 f5))), (h0, .inr (16, [w1, w2, w3, w4, w5, w6, w7, w8, w9, w10, w11, w12, w13, w14, .int (nI 64), .ref ms, .ref dg, .ref wd, .ref st, .ref nw, w15, w16, w17, w18, w19, w20, w21, w22, w23, w24, w25, w26, w27, w28, w29, w30, w31, w32, w33, w34, w35, w36, w37, w38, w39, w40, w41, w42, w43, w44, w45, w46, w47, w48, w49, w50, w51, w52, w53, w54, w55, w56, w57, w58])), (ms, .inl (y 1, 30000, .inl (zf tM 64 f1)))] := hD
  refine lv_iinc (v := 8) (lv' := [(3, .int 8), (2, .int 0), (1, .int 1), (0, .ref h0)]) hx hb dX12_secondHash_98 hl (k := 0) rfl (by decide) (by decide) rfl (fun ls hl => ?_)
  refine lv_goto (tgt := 80) hx hb dX12_secondHash_101 (by decide) ?_
  refine lv_iload_n hx hb dX12_secondHash_80 rfl (lv_at hl 0 rfl) ?_
  refine lv_bipush (v := 8) hx hb dX12_secondHash_81 (by decide) ?_
  refine lv_icmp_ge (tgt := 104) hx hb dX12_secondHash_83 (by decide) (fun _ => ?_) (fun c9 => absurd (by decide) c9)
  refine lv_iconst (v := 0) hx hb dX12_secondHash_104 (by decide) ?_
  refine lv_istore_n (lv' := [(3, .int 0), (2, .int 0), (1, .int 1), (0, .ref h0)]) hx hb dX12_secondHash_105 rfl hl (by decide) rfl (fun ls hl => ?_)
  have hl : lv_has ls 12 [(3, .int (nI 0)), (2, .int 0), (1, .int 1), (0, .ref h0)] := lv_sub hl [0, 1, 2, 3] rfl
  refine zz_loop (I := fun (k1 : Nat) (ls : Array Slot) (H : Heap) (locs : List Loc) => va_P D vwCl [(wd, .inl (y 1, 80, .inl (zf tW2 k1 f2))), (dg, .inl (y 1, 32, .inl f3)), (st, .inl (y 1, 8, .inl (zf tS2 8 f4))), (nw, .inl (y 1, 8, .inl (zf (tR k1) 8 f5))), (h0, .inr (16, [w1, w2, w3, w4, w5, w6, w7, w8, w9, w10, w11, w12, w13, w14, Value.int (nI 64), Value.ref ms, Value.ref dg, Value.ref wd, Value.ref st, Value.ref nw, w15, w16, w17, w18, w19, w20, w21, w22, w23, w24, w25, w26, w27, w28, w29, w30, w31, w32, w33, w34, w35, w36, w37, w38, w39, w40, w41, w42, w43, w44, w45, w46, w47, w48, w49, w50, w51, w52, w53, w54, w55, w56, w57, w58])), (ms, .inl (y 1, 30000, .inl (zf tM 64 f1)))] H ∧ va_D A [(wd, .inl (y 1, 80, .inl (zf tW2 k1 f2))), (dg, .inl (y 1, 32, .inl f3)), (st, .inl (y 1, 8, .inl (zf tS2 8 f4))), (nw, .inl (y 1, 8, .inl (zf (tR k1) 8 f5))), (h0, .inr (16, [w1, w2, w3, w4, w5, w6, w7, w8, w9, w10, w11, w12, w13, w14, Value.int (nI 64), Value.ref ms, Value.ref dg, Value.ref wd, Value.ref st, Value.ref nw, w15, w16, w17, w18, w19, w20, w21, w22, w23, w24, w25, w26, w27, w28, w29, w30, w31, w32, w33, w34, w35, w36, w37, w38, w39, w40, w41, w42, w43, w44, w45, w46, w47, w48, w49, w50, w51, w52, w53, w54, w55, w56, w57, w58])), (ms, .inl (y 1, 30000, .inl (zf tM 64 f1)))] ∧ va_S A s.heap H locs ∧ lv_has ls 12 [(3, Value.int (nI k1)), (2, Value.int 0), (1, Value.int 1), (0, Value.ref h0)]) 0 16 (by decide) ⟨hP, hD, hS, hl⟩ (fun k1 ls H locs hk10 hk11 hI ih => ?_) (fun ls H locs hI => ?_)
  · obtain ⟨hP, hD, hS, hl⟩ := hI
    have hl : lv_has ls 12 [(3, .int (nI k1)), (2, .int 0), (1, .int 1), (0, .ref h0)] := hl
    have hP : va_P D vwCl [(wd, .inl (y 1, 80, .inl (zf tW2 k1 f2))), (dg, .inl (y 1, 32, .inl f3)), (st, .inl (y 1, 8, .inl (zf tS2 8 f4))), (nw, .inl (y 1, 8, .inl (zf (tR k1) 8 f5))), (h0, .inr (16, [w1, w2, w3, w4, w5, w6, w7, w8, w9, w10, w11, w12, w13, w14, .int (nI 64), .ref ms, .ref dg, .ref wd, .ref st, .ref nw, w15, w16, w17, w18, w19, w20, w21, w22, w23, w24, w25, w26, w27, w28, w29, w30, w31, w32, w33, w34, w35, w36, w37, w38, w39, w40, w41, w42, w43, w44, w45, w46, w47, w48, w49, w50, w51, w52, w53, w54, w55, w56, w57, w58])), (ms, .inl (y 1, 30000, .inl (zf tM 64 f1)))] H := hP
    have hD : va_D A [(wd, .inl (y 1, 80, .inl (zf tW2 k1 f2))), (dg, .inl (y 1, 32, .inl f3)), (st, .inl (y 1, 8, .inl (zf tS2 8 f4))), (nw, .inl (y 1, 8, .inl (zf (tR k1) 8 f5))), (h0, .inr (16, [w1, w2, w3, w4, w5, w6, w7, w8, w9, w10, w11, w12, w13, w14, .int (nI 64), .ref ms, .ref dg, .ref wd, .ref st, .ref nw, w15, w16, w17, w18, w19, w20, w21, w22, w23, w24, w25, w26, w27, w28, w29, w30, w31, w32, w33, w34, w35, w36, w37, w38, w39, w40, w41, w42, w43, w44, w45, w46, w47, w48, w49, w50, w51, w52, w53, w54, w55, w56, w57, w58])), (ms, .inl (y 1, 30000, .inl (zf tM 64 f1)))] := hD
    refine lv_iload_n hx hb dX12_secondHash_106 rfl (lv_at hl 0 rfl) ?_
    refine lv_bipush (v := 64) hx hb dX12_secondHash_107 (by decide) ?_
    refine lv_icmp_ge (tgt := 463) hx hb dX12_secondHash_109 (by decide) (fun c9 => absurd c9 (ax_c_M_secondHash_0 k1 hk11 hk10)) (fun _ => ?_)
    refine lv_iload_n hx hb dX12_secondHash_112 rfl (lv_at hl 0 rfl) ?_
    refine lv_bipush (v := 16) hx hb dX12_secondHash_113 (by decide) ?_
    refine lv_icmp_ge (tgt := 144) hx hb dX12_secondHash_115 (by decide) (fun c9 => absurd c9 (ax_c_M_secondHash_1 k1 hk11 hk10)) (fun _ => ?_)
    refine lv_aload_n hx hb dX12_secondHash_118 rfl (lv_at hl 3 rfl) ?_
    refine va_get (D := D) (ci := 16) (v := .ref wd) (C := RX12) (T := TX12) (N := 64) hx hb hts (by decide +kernel) hown hK hP 4 rfl rfl 17 (by decide) (hts (.fieldLink RX12 46 "SignetRingModel" "words" "[I") (by decide +kernel)) (fun _ h9 => h9) rfl dX12_secondHash_119 ?_
    refine lv_iload_n hx hb dX12_secondHash_122 rfl (lv_at hl 0 rfl) ?_
    refine lv_aload_n hx hb dX12_secondHash_123 rfl (lv_at hl 3 rfl) ?_
    refine va_get (D := D) (ci := 16) (v := .ref ms) (C := RX12) (T := TX12) (N := 64) hx hb hts (by decide +kernel) hown hK hP 4 rfl rfl 15 (by decide) (hts (.fieldLink RX12 40 "SignetRingModel" "message" "[I") (by decide +kernel)) (fun _ h9 => h9) rfl dX12_secondHash_124 ?_
    refine lv_bipush (v := 64) hx hb dX12_secondHash_127 (by decide) ?_
    refine lv_iload_n hx hb dX12_secondHash_129 rfl (lv_at hl 1 rfl) ?_
    refine lv_imul hx hb dX12_secondHash_130 ?_
    refine lv_topi (fun v26 ev26 => ?_)
    have ev26 : v26 = 0 := ev26.trans (by decide +kernel)
    subst ev26
    refine lv_iconst (v := 4) hx hb dX12_secondHash_131 (by decide) ?_
    refine lv_iload_n hx hb dX12_secondHash_132 rfl (lv_at hl 0 rfl) ?_
    refine lv_imul hx hb dX12_secondHash_133 ?_
    refine lv_topi (fun v27 ev27 => ?_)
    have ev27 : v27 = nI (4 * k1) := ev27.trans (ax_c_M_secondHash_2 k1 hk11 hk10)
    subst ev27
    refine lv_iadd hx hb dX12_secondHash_134 ?_
    refine lv_topi (fun v28 ev28 => ?_)
    have ev28 : v28 = nI (4 * k1) := ev28.trans (ax_c_M_secondHash_3 k1 hk11 hk10)
    subst ev28
    refine lv_iconst (v := 4) hx hb dX12_secondHash_135 (by decide) ?_
    have hPc := hP.sub (ws' := [(ms, .inl (y 1, 30000, .inl (zf tM 64 f1)))]) [5] rfl
    have hDc := hD.sub (ws' := [(ms, .inl (y 1, 30000, .inl (zf tM 64 f1)))]) [5] (by decide) rfl
    have hFc := va_free (wc := [(ms, .inl (y 1, 30000, .inl (zf tM 64 f1)))]) hD hS hA [5] rfl
    refine va_calll (va_runS (As := [.ref ms, .int (nI (4 * k1)), .int 4]) (rest := [.int (nI k1), .ref wd]) ⟨hx, hb, hml, hown, hts⟩ (c_M_number l D y H.size ms k1 f1 (by omega)) (va_cwS 3 hts gv_c_M_secondHash_c_M_number_115 rfl rfl rfl (by decide +kernel) ⟨(Nat.le_of_ble_eq_true rfl), (Nat.le_of_ble_eq_true rfl)⟩) (zB.preS hPc hDc hK hN hE hO hT hG hS hFc (fun _ h => nomatch h) (fun _ h => nomatch h) (fun _ h => nomatch h) (fun _ h => nomatch h)) rfl rfl hl.1 rfl (lv_room (Nat.le_of_ble_eq_true rfl)) dX12_secondHash_136 ⟨(Nat.le_of_ble_eq_true rfl), (Nat.le_of_ble_eq_true rfl)⟩) hS (fun q _ h => hFc q h) hFc (fun r29 u t H1 locs ht hvm hw hB hz1 hk1 hS => ?_)
    obtain ⟨hP1, hD1⟩ := hB
    rw [ht] at hP1
    obtain ⟨hP, hD⟩ := va_join (wr := [(wd, .inl (y 1, 80, .inl (zf tW2 k1 f2))), (dg, .inl (y 1, 32, .inl f3)), (st, .inl (y 1, 8, .inl (zf tS2 8 f4))), (nw, .inl (y 1, 8, .inl (zf (tR k1) 8 f5))), (h0, .inr (16, [w1, w2, w3, w4, w5, w6, w7, w8, w9, w10, w11, w12, w13, w14, .int (nI 64), .ref ms, .ref dg, .ref wd, .ref st, .ref nw, w15, w16, w17, w18, w19, w20, w21, w22, w23, w24, w25, w26, w27, w28, w29, w30, w31, w32, w33, w34, w35, w36, w37, w38, w39, w40, w41, w42, w43, w44, w45, w46, w47, w48, w49, w50, w51, w52, w53, w54, w55, w56, w57, w58]))]) (w1 := [(ms, .inl (y 1, 30000, .inl (zf tM 64 f1)))]) hP hD [5] [0, 1, 2, 3, 4] rfl rfl (by decide) (by decide) hk1 hFc hP1 hD1
    generalize H1 = H at hP hS ⊢
    have hP : va_P D vwCl [(wd, .inl (y 1, 80, .inl (zf tW2 k1 f2))), (dg, .inl (y 1, 32, .inl f3)), (st, .inl (y 1, 8, .inl (zf tS2 8 f4))), (nw, .inl (y 1, 8, .inl (zf (tR k1) 8 f5))), (h0, .inr (16, [w1, w2, w3, w4, w5, w6, w7, w8, w9, w10, w11, w12, w13, w14, .int (nI 64), .ref ms, .ref dg, .ref wd, .ref st, .ref nw, w15, w16, w17, w18, w19, w20, w21, w22, w23, w24, w25, w26, w27, w28, w29, w30, w31, w32, w33, w34, w35, w36, w37, w38, w39, w40, w41, w42, w43, w44, w45, w46, w47, w48, w49, w50, w51, w52, w53, w54, w55, w56, w57, w58])), (ms, .inl (y 1, 30000, .inl (zf tM 64 f1)))] H := hP
    have hD : va_D A [(wd, .inl (y 1, 80, .inl (zf tW2 k1 f2))), (dg, .inl (y 1, 32, .inl f3)), (st, .inl (y 1, 8, .inl (zf tS2 8 f4))), (nw, .inl (y 1, 8, .inl (zf (tR k1) 8 f5))), (h0, .inr (16, [w1, w2, w3, w4, w5, w6, w7, w8, w9, w10, w11, w12, w13, w14, .int (nI 64), .ref ms, .ref dg, .ref wd, .ref st, .ref nw, w15, w16, w17, w18, w19, w20, w21, w22, w23, w24, w25, w26, w27, w28, w29, w30, w31, w32, w33, w34, w35, w36, w37, w38, w39, w40, w41, w42, w43, w44, w45, w46, w47, w48, w49, w50, w51, w52, w53, w54, w55, w56, w57, w58])), (ms, .inl (y 1, 30000, .inl (zf tM 64 f1)))] := hD
    have hw : r29 = (((((((0 : Int64) + ((tM ((4 * k1) + 0)).toInt64)) * (256 : Int64)) + ((tM ((4 * k1) + 1)).toInt64)) * (256 : Int64)) + ((tM ((4 * k1) + 2)).toInt64)) * (256 : Int64)) + ((tM ((4 * k1) + 3)).toInt64) := hw
    subst hw
    refine lv_l2i hx hb dX12_secondHash_139 rfl ?_
    refine lv_topi (fun v30 ev30 => ?_)
    have ev30 : v30 = tW2 k1 := ev30.trans (ax_c_M_secondHash_4 k1 hk11 hk10)
    subst ev30
    refine va_iast hx hb hK hP hD hS 0 1 rfl rfl (vp_in_nI (by omega) (by decide)) dX12_secondHash_140 (fun H locs hP hD hS => ?_)
    have hP : va_P D vwCl [(wd, .inl (y 1, 80, .inl (upd (zf tW2 k1 f2) (nI k1).toNatClampNeg (tW2 k1)))), (dg, .inl (y 1, 32, .inl f3)), (st, .inl (y 1, 8, .inl (zf tS2 8 f4))), (nw, .inl (y 1, 8, .inl (zf (tR k1) 8 f5))), (h0, .inr (16, [w1, w2, w3, w4, w5, w6, w7, w8, w9, w10, w11, w12, w13, w14, .int (nI 64), .ref ms, .ref dg, .ref wd, .ref st, .ref nw, w15, w16, w17, w18, w19, w20, w21, w22, w23, w24, w25, w26, w27, w28, w29, w30, w31, w32, w33, w34, w35, w36, w37, w38, w39, w40, w41, w42, w43, w44, w45, w46, w47, w48, w49, w50, w51, w52, w53, w54, w55, w56, w57, w58])), (ms, .inl (y 1, 30000, .inl (zf tM 64 f1)))] H := hP
    have hD : va_D A [(wd, .inl (y 1, 80, .inl (upd (zf tW2 k1 f2) (nI k1).toNatClampNeg (tW2 k1)))), (dg, .inl (y 1, 32, .inl f3)), (st, .inl (y 1, 8, .inl (zf tS2 8 f4))), (nw, .inl (y 1, 8, .inl (zf (tR k1) 8 f5))), (h0, .inr (16, [w1, w2, w3, w4, w5, w6, w7, w8, w9, w10, w11, w12, w13, w14, .int (nI 64), .ref ms, .ref dg, .ref wd, .ref st, .ref nw, w15, w16, w17, w18, w19, w20, w21, w22, w23, w24, w25, w26, w27, w28, w29, w30, w31, w32, w33, w34, w35, w36, w37, w38, w39, w40, w41, w42, w43, w44, w45, w46, w47, w48, w49, w50, w51, w52, w53, w54, w55, w56, w57, w58])), (ms, .inl (y 1, 30000, .inl (zf tM 64 f1)))] := hD
    have u31 : upd (zf tW2 k1 f2) (nI k1).toNatClampNeg (tW2 k1) = zf tW2 (k1 + 1) f2 := (zf_st (n := k1) (by omega) rfl)
    rw [u31] at hP hD
    have hP : va_P D vwCl [(wd, .inl (y 1, 80, .inl (zf tW2 (k1 + 1) f2))), (dg, .inl (y 1, 32, .inl f3)), (st, .inl (y 1, 8, .inl (zf tS2 8 f4))), (nw, .inl (y 1, 8, .inl (zf (tR k1) 8 f5))), (h0, .inr (16, [w1, w2, w3, w4, w5, w6, w7, w8, w9, w10, w11, w12, w13, w14, .int (nI 64), .ref ms, .ref dg, .ref wd, .ref st, .ref nw, w15, w16, w17, w18, w19, w20, w21, w22, w23, w24, w25, w26, w27, w28, w29, w30, w31, w32, w33, w34, w35, w36, w37, w38, w39, w40, w41, w42, w43, w44, w45, w46, w47, w48, w49, w50, w51, w52, w53, w54, w55, w56, w57, w58])), (ms, .inl (y 1, 30000, .inl (zf tM 64 f1)))] H := hP
    have hD : va_D A [(wd, .inl (y 1, 80, .inl (zf tW2 (k1 + 1) f2))), (dg, .inl (y 1, 32, .inl f3)), (st, .inl (y 1, 8, .inl (zf tS2 8 f4))), (nw, .inl (y 1, 8, .inl (zf (tR k1) 8 f5))), (h0, .inr (16, [w1, w2, w3, w4, w5, w6, w7, w8, w9, w10, w11, w12, w13, w14, .int (nI 64), .ref ms, .ref dg, .ref wd, .ref st, .ref nw, w15, w16, w17, w18, w19, w20, w21, w22, w23, w24, w25, w26, w27, w28, w29, w30, w31, w32, w33, w34, w35, w36, w37, w38, w39, w40, w41, w42, w43, w44, w45, w46, w47, w48, w49, w50, w51, w52, w53, w54, w55, w56, w57, w58])), (ms, .inl (y 1, 30000, .inl (zf tM 64 f1)))] := hD
    refine lv_goto (tgt := 233) hx hb dX12_secondHash_141 (by decide) ?_
    refine lv_bipush (v := 64) hx hb dX12_secondHash_233 (by decide) ?_
    refine lv_iload_n hx hb dX12_secondHash_235 rfl (lv_at hl 0 rfl) ?_
    refine lv_isub hx hb dX12_secondHash_236 ?_
    refine lv_topi (fun v32 ev32 => ?_)
    have ev32 : v32 = nI (64 - k1) := ev32.trans (ax_c_M_secondHash_5 k1 hk11 hk10)
    subst ev32
    refine lv_bipush (v := 7) hx hb dX12_secondHash_237 (by decide) ?_
    refine lv_iand hx hb dX12_secondHash_239 ?_
    refine lv_topi (fun v33 ev33 => ?_)
    have ev33 : v33 = nI ((64 - k1) % 8) := ev33.trans (ax_c_M_secondHash_6 k1 hk11 hk10)
    subst ev33
    refine lv_istore (lv' := [(4, .int (nI ((64 - k1) % 8))), (3, .int (nI k1)), (2, .int 0), (1, .int 1), (0, .ref h0)]) hx hb dX12_secondHash_240 hl (by decide) rfl (fun ls hl => ?_)
    refine lv_aload_n hx hb dX12_secondHash_242 rfl (lv_at hl 4 rfl) ?_
    refine va_get (D := D) (ci := 16) (v := .ref nw) (C := RX12) (T := TX12) (N := 64) hx hb hts (by decide +kernel) hown hK hP 4 rfl rfl 19 (by decide) (hts (.fieldLink RX12 52 "SignetRingModel" "now" "[I") (by decide +kernel)) (fun _ h9 => h9) rfl dX12_secondHash_243 ?_
    refine lv_iload hx hb dX12_secondHash_246 (lv_at hl 0 rfl) ?_
    refine lv_iconst (v := 4) hx hb dX12_secondHash_248 (by decide) ?_
    refine lv_iadd hx hb dX12_secondHash_249 ?_
    refine lv_topi (fun v34 ev34 => ?_)
    have ev34 : v34 = nI (((64 - k1) % 8) + 4) := ev34.trans (ax_c_M_secondHash_7 k1 hk11 hk10)
    subst ev34
    refine lv_bipush (v := 7) hx hb dX12_secondHash_250 (by decide) ?_
    refine lv_iand hx hb dX12_secondHash_252 ?_
    refine lv_topi (fun v35 ev35 => ?_)
    have ev35 : v35 = nI ((((64 - k1) % 8) + 4) % 8) := ev35.trans (ax_c_M_secondHash_8 k1 hk11 hk10)
    subst ev35
    refine va_iald hx hb hK hP 3 1 rfl rfl (vp_in_nI (by omega) (by decide)) dX12_secondHash_253 ?_
    refine lv_topi (fun v36 ev36 => ?_)
    have ev36 : v36 = (tR k1) ((((64 - k1) % 8) + 4) % 8) := ev36.trans (zf_rd (j := ((((64 - k1) % 8) + 4) % 8)) (by omega) (by omega))
    subst ev36
    refine lv_istore (lv' := [(5, .int ((tR k1) ((((64 - k1) % 8) + 4) % 8))), (4, .int (nI ((64 - k1) % 8))), (3, .int (nI k1)), (2, .int 0), (1, .int 1), (0, .ref h0)]) hx hb dX12_secondHash_254 hl (by decide) rfl (fun ls hl => ?_)
    refine lv_aload_n hx hb dX12_secondHash_256 rfl (lv_at hl 5 rfl) ?_
    refine va_get (D := D) (ci := 16) (v := .ref nw) (C := RX12) (T := TX12) (N := 64) hx hb hts (by decide +kernel) hown hK hP 4 rfl rfl 19 (by decide) (hts (.fieldLink RX12 52 "SignetRingModel" "now" "[I") (by decide +kernel)) (fun _ h9 => h9) rfl dX12_secondHash_257 ?_
    refine lv_iload hx hb dX12_secondHash_260 (lv_at hl 1 rfl) ?_
    refine lv_iconst (v := 5) hx hb dX12_secondHash_262 (by decide) ?_
    refine lv_iadd hx hb dX12_secondHash_263 ?_
    refine lv_topi (fun v37 ev37 => ?_)
    have ev37 : v37 = nI (((64 - k1) % 8) + 5) := ev37.trans (ax_c_M_secondHash_9 k1 hk11 hk10)
    subst ev37
    refine lv_bipush (v := 7) hx hb dX12_secondHash_264 (by decide) ?_
    refine lv_iand hx hb dX12_secondHash_266 ?_
    refine lv_topi (fun v38 ev38 => ?_)
    have ev38 : v38 = nI ((((64 - k1) % 8) + 5) % 8) := ev38.trans (ax_c_M_secondHash_10 k1 hk11 hk10)
    subst ev38
    refine va_iald hx hb hK hP 3 1 rfl rfl (vp_in_nI (by omega) (by decide)) dX12_secondHash_267 ?_
    refine lv_topi (fun v39 ev39 => ?_)
    have ev39 : v39 = (tR k1) ((((64 - k1) % 8) + 5) % 8) := ev39.trans (zf_rd (j := ((((64 - k1) % 8) + 5) % 8)) (by omega) (by omega))
    subst ev39
    refine lv_istore (lv' := [(6, .int ((tR k1) ((((64 - k1) % 8) + 5) % 8))), (5, .int ((tR k1) ((((64 - k1) % 8) + 4) % 8))), (4, .int (nI ((64 - k1) % 8))), (3, .int (nI k1)), (2, .int 0), (1, .int 1), (0, .ref h0)]) hx hb dX12_secondHash_268 hl (by decide) rfl (fun ls hl => ?_)
    refine lv_aload_n hx hb dX12_secondHash_270 rfl (lv_at hl 6 rfl) ?_
    refine va_get (D := D) (ci := 16) (v := .ref nw) (C := RX12) (T := TX12) (N := 64) hx hb hts (by decide +kernel) hown hK hP 4 rfl rfl 19 (by decide) (hts (.fieldLink RX12 52 "SignetRingModel" "now" "[I") (by decide +kernel)) (fun _ h9 => h9) rfl dX12_secondHash_271 ?_
    refine lv_iload hx hb dX12_secondHash_274 (lv_at hl 2 rfl) ?_
    refine lv_bipush (v := 6) hx hb dX12_secondHash_276 (by decide) ?_
    refine lv_iadd hx hb dX12_secondHash_278 ?_
    refine lv_topi (fun v40 ev40 => ?_)
    have ev40 : v40 = nI (((64 - k1) % 8) + 6) := ev40.trans (ax_c_M_secondHash_11 k1 hk11 hk10)
    subst ev40
    refine lv_bipush (v := 7) hx hb dX12_secondHash_279 (by decide) ?_
    refine lv_iand hx hb dX12_secondHash_281 ?_
    refine lv_topi (fun v41 ev41 => ?_)
    have ev41 : v41 = nI ((((64 - k1) % 8) + 6) % 8) := ev41.trans (ax_c_M_secondHash_12 k1 hk11 hk10)
    subst ev41
    refine va_iald hx hb hK hP 3 1 rfl rfl (vp_in_nI (by omega) (by decide)) dX12_secondHash_282 ?_
    refine lv_topi (fun v42 ev42 => ?_)
    have ev42 : v42 = (tR k1) ((((64 - k1) % 8) + 6) % 8) := ev42.trans (zf_rd (j := ((((64 - k1) % 8) + 6) % 8)) (by omega) (by omega))
    subst ev42
    refine lv_istore (lv' := [(7, .int ((tR k1) ((((64 - k1) % 8) + 6) % 8))), (6, .int ((tR k1) ((((64 - k1) % 8) + 5) % 8))), (5, .int ((tR k1) ((((64 - k1) % 8) + 4) % 8))), (4, .int (nI ((64 - k1) % 8))), (3, .int (nI k1)), (2, .int 0), (1, .int 1), (0, .ref h0)]) hx hb dX12_secondHash_283 hl (by decide) rfl (fun ls hl => ?_)
    refine lv_aload_n hx hb dX12_secondHash_285 rfl (lv_at hl 7 rfl) ?_
    refine va_get (D := D) (ci := 16) (v := .ref nw) (C := RX12) (T := TX12) (N := 64) hx hb hts (by decide +kernel) hown hK hP 4 rfl rfl 19 (by decide) (hts (.fieldLink RX12 52 "SignetRingModel" "now" "[I") (by decide +kernel)) (fun _ h9 => h9) rfl dX12_secondHash_286 ?_
    refine lv_iload hx hb dX12_secondHash_289 (lv_at hl 3 rfl) ?_
    refine lv_bipush (v := 7) hx hb dX12_secondHash_291 (by decide) ?_
    refine lv_iadd hx hb dX12_secondHash_293 ?_
    refine lv_topi (fun v43 ev43 => ?_)
    have ev43 : v43 = nI (((64 - k1) % 8) + 7) := ev43.trans (ax_c_M_secondHash_13 k1 hk11 hk10)
    subst ev43
    refine lv_bipush (v := 7) hx hb dX12_secondHash_294 (by decide) ?_
    refine lv_iand hx hb dX12_secondHash_296 ?_
    refine lv_topi (fun v44 ev44 => ?_)
    have ev44 : v44 = nI ((((64 - k1) % 8) + 7) % 8) := ev44.trans (ax_c_M_secondHash_14 k1 hk11 hk10)
    subst ev44
    refine va_iald hx hb hK hP 3 1 rfl rfl (vp_in_nI (by omega) (by decide)) dX12_secondHash_297 ?_
    refine lv_topi (fun v45 ev45 => ?_)
    have ev45 : v45 = (tR k1) ((((64 - k1) % 8) + 7) % 8) := ev45.trans (zf_rd (j := ((((64 - k1) % 8) + 7) % 8)) (by omega) (by omega))
    subst ev45
    refine lv_iload hx hb dX12_secondHash_298 (lv_at hl 2 rfl) ?_
    refine lv_bipush (v := 26) hx hb dX12_secondHash_300 (by decide) ?_
    have hPc := hP.sub (ws' := []) [] rfl
    have hDc := hD.sub (ws' := []) [] (by decide) rfl
    have hFc := va_free (wc := []) hD hS hA [] rfl
    refine va_calli (va_runS (As := [.int ((tR k1) ((((64 - k1) % 8) + 4) % 8)), .int 26]) (rest := [.int ((tR k1) ((((64 - k1) % 8) + 7) % 8))]) ⟨hx, hb, hml, hown, hts⟩ (c_M_left l D y H.size ((tR k1) ((((64 - k1) % 8) + 4) % 8)) 26) (va_cwS 2 hts gv_c_M_secondHash_c_M_left_119 rfl rfl rfl (by decide +kernel) ⟨(Nat.le_of_ble_eq_true rfl), (Nat.le_of_ble_eq_true rfl)⟩) (zB.preS hPc hDc hK hN hE hO hT hG hS hFc (fun _ h => nomatch h) (fun _ h => nomatch h) (fun _ h => nomatch h) (fun _ h => nomatch h)) rfl rfl hl.1 rfl (lv_room (Nat.le_of_ble_eq_true rfl)) dX12_secondHash_302 ⟨(Nat.le_of_ble_eq_true rfl), (Nat.le_of_ble_eq_true rfl)⟩) hS (fun q _ h => hFc q h) hFc (fun r46 u t H1 locs ht hvm hw hB hz1 hk1 hS => ?_)
    obtain ⟨hP1, hD1⟩ := hB
    rw [ht] at hP1
    obtain ⟨hP, hD⟩ := va_join (wr := [(wd, .inl (y 1, 80, .inl (zf tW2 (k1 + 1) f2))), (dg, .inl (y 1, 32, .inl f3)), (st, .inl (y 1, 8, .inl (zf tS2 8 f4))), (nw, .inl (y 1, 8, .inl (zf (tR k1) 8 f5))), (h0, .inr (16, [w1, w2, w3, w4, w5, w6, w7, w8, w9, w10, w11, w12, w13, w14, .int (nI 64), .ref ms, .ref dg, .ref wd, .ref st, .ref nw, w15, w16, w17, w18, w19, w20, w21, w22, w23, w24, w25, w26, w27, w28, w29, w30, w31, w32, w33, w34, w35, w36, w37, w38, w39, w40, w41, w42, w43, w44, w45, w46, w47, w48, w49, w50, w51, w52, w53, w54, w55, w56, w57, w58])), (ms, .inl (y 1, 30000, .inl (zf tM 64 f1)))]) (w1 := []) hP hD [] [0, 1, 2, 3, 4, 5] rfl rfl (by decide) (by decide) hk1 hFc hP1 hD1
    generalize H1 = H at hP hS ⊢
    have hP : va_P D vwCl [(wd, .inl (y 1, 80, .inl (zf tW2 (k1 + 1) f2))), (dg, .inl (y 1, 32, .inl f3)), (st, .inl (y 1, 8, .inl (zf tS2 8 f4))), (nw, .inl (y 1, 8, .inl (zf (tR k1) 8 f5))), (h0, .inr (16, [w1, w2, w3, w4, w5, w6, w7, w8, w9, w10, w11, w12, w13, w14, .int (nI 64), .ref ms, .ref dg, .ref wd, .ref st, .ref nw, w15, w16, w17, w18, w19, w20, w21, w22, w23, w24, w25, w26, w27, w28, w29, w30, w31, w32, w33, w34, w35, w36, w37, w38, w39, w40, w41, w42, w43, w44, w45, w46, w47, w48, w49, w50, w51, w52, w53, w54, w55, w56, w57, w58])), (ms, .inl (y 1, 30000, .inl (zf tM 64 f1)))] H := hP
    have hD : va_D A [(wd, .inl (y 1, 80, .inl (zf tW2 (k1 + 1) f2))), (dg, .inl (y 1, 32, .inl f3)), (st, .inl (y 1, 8, .inl (zf tS2 8 f4))), (nw, .inl (y 1, 8, .inl (zf (tR k1) 8 f5))), (h0, .inr (16, [w1, w2, w3, w4, w5, w6, w7, w8, w9, w10, w11, w12, w13, w14, .int (nI 64), .ref ms, .ref dg, .ref wd, .ref st, .ref nw, w15, w16, w17, w18, w19, w20, w21, w22, w23, w24, w25, w26, w27, w28, w29, w30, w31, w32, w33, w34, w35, w36, w37, w38, w39, w40, w41, w42, w43, w44, w45, w46, w47, w48, w49, w50, w51, w52, w53, w54, w55, w56, w57, w58])), (ms, .inl (y 1, 30000, .inl (zf tM 64 f1)))] := hD
    have hw : r46 = (((tR k1) ((((64 - k1) % 8) + 4) % 8)) <<< ((26 : Int32) &&& 31)) ||| (zu ((tR k1) ((((64 - k1) % 8) + 4) % 8)) ((32 : Int32) - (26 : Int32))) := hw
    subst hw
    refine lv_iload hx hb dX12_secondHash_305 (lv_at hl 2 rfl) ?_
    refine lv_bipush (v := 21) hx hb dX12_secondHash_307 (by decide) ?_
    have hPc := hP.sub (ws' := []) [] rfl
    have hDc := hD.sub (ws' := []) [] (by decide) rfl
    have hFc := va_free (wc := []) hD hS hA [] rfl
    refine va_calli (va_runS (As := [.int ((tR k1) ((((64 - k1) % 8) + 4) % 8)), .int 21]) (rest := [.int ((((tR k1) ((((64 - k1) % 8) + 4) % 8)) <<< ((26 : Int32) &&& 31)) ||| (zu ((tR k1) ((((64 - k1) % 8) + 4) % 8)) ((32 : Int32) - (26 : Int32)))), .int ((tR k1) ((((64 - k1) % 8) + 7) % 8))]) ⟨hx, hb, hml, hown, hts⟩ (c_M_left l D y H.size ((tR k1) ((((64 - k1) % 8) + 4) % 8)) 21) (va_cwS 2 hts gv_c_M_secondHash_c_M_left_119 rfl rfl rfl (by decide +kernel) ⟨(Nat.le_of_ble_eq_true rfl), (Nat.le_of_ble_eq_true rfl)⟩) (zB.preS hPc hDc hK hN hE hO hT hG hS hFc (fun _ h => nomatch h) (fun _ h => nomatch h) (fun _ h => nomatch h) (fun _ h => nomatch h)) rfl rfl hl.1 rfl (lv_room (Nat.le_of_ble_eq_true rfl)) dX12_secondHash_309 ⟨(Nat.le_of_ble_eq_true rfl), (Nat.le_of_ble_eq_true rfl)⟩) hS (fun q _ h => hFc q h) hFc (fun r47 u t H1 locs ht hvm hw hB hz1 hk1 hS => ?_)
    obtain ⟨hP1, hD1⟩ := hB
    rw [ht] at hP1
    obtain ⟨hP, hD⟩ := va_join (wr := [(wd, .inl (y 1, 80, .inl (zf tW2 (k1 + 1) f2))), (dg, .inl (y 1, 32, .inl f3)), (st, .inl (y 1, 8, .inl (zf tS2 8 f4))), (nw, .inl (y 1, 8, .inl (zf (tR k1) 8 f5))), (h0, .inr (16, [w1, w2, w3, w4, w5, w6, w7, w8, w9, w10, w11, w12, w13, w14, .int (nI 64), .ref ms, .ref dg, .ref wd, .ref st, .ref nw, w15, w16, w17, w18, w19, w20, w21, w22, w23, w24, w25, w26, w27, w28, w29, w30, w31, w32, w33, w34, w35, w36, w37, w38, w39, w40, w41, w42, w43, w44, w45, w46, w47, w48, w49, w50, w51, w52, w53, w54, w55, w56, w57, w58])), (ms, .inl (y 1, 30000, .inl (zf tM 64 f1)))]) (w1 := []) hP hD [] [0, 1, 2, 3, 4, 5] rfl rfl (by decide) (by decide) hk1 hFc hP1 hD1
    generalize H1 = H at hP hS ⊢
    have hP : va_P D vwCl [(wd, .inl (y 1, 80, .inl (zf tW2 (k1 + 1) f2))), (dg, .inl (y 1, 32, .inl f3)), (st, .inl (y 1, 8, .inl (zf tS2 8 f4))), (nw, .inl (y 1, 8, .inl (zf (tR k1) 8 f5))), (h0, .inr (16, [w1, w2, w3, w4, w5, w6, w7, w8, w9, w10, w11, w12, w13, w14, .int (nI 64), .ref ms, .ref dg, .ref wd, .ref st, .ref nw, w15, w16, w17, w18, w19, w20, w21, w22, w23, w24, w25, w26, w27, w28, w29, w30, w31, w32, w33, w34, w35, w36, w37, w38, w39, w40, w41, w42, w43, w44, w45, w46, w47, w48, w49, w50, w51, w52, w53, w54, w55, w56, w57, w58])), (ms, .inl (y 1, 30000, .inl (zf tM 64 f1)))] H := hP
    have hD : va_D A [(wd, .inl (y 1, 80, .inl (zf tW2 (k1 + 1) f2))), (dg, .inl (y 1, 32, .inl f3)), (st, .inl (y 1, 8, .inl (zf tS2 8 f4))), (nw, .inl (y 1, 8, .inl (zf (tR k1) 8 f5))), (h0, .inr (16, [w1, w2, w3, w4, w5, w6, w7, w8, w9, w10, w11, w12, w13, w14, .int (nI 64), .ref ms, .ref dg, .ref wd, .ref st, .ref nw, w15, w16, w17, w18, w19, w20, w21, w22, w23, w24, w25, w26, w27, w28, w29, w30, w31, w32, w33, w34, w35, w36, w37, w38, w39, w40, w41, w42, w43, w44, w45, w46, w47, w48, w49, w50, w51, w52, w53, w54, w55, w56, w57, w58])), (ms, .inl (y 1, 30000, .inl (zf tM 64 f1)))] := hD
    have hw : r47 = (((tR k1) ((((64 - k1) % 8) + 4) % 8)) <<< ((21 : Int32) &&& 31)) ||| (zu ((tR k1) ((((64 - k1) % 8) + 4) % 8)) ((32 : Int32) - (21 : Int32))) := hw
    subst hw
    refine lv_ixor hx hb dX12_secondHash_312 ?_
    refine lv_iload hx hb dX12_secondHash_313 (lv_at hl 2 rfl) ?_
    refine lv_bipush (v := 7) hx hb dX12_secondHash_315 (by decide) ?_
    have hPc := hP.sub (ws' := []) [] rfl
    have hDc := hD.sub (ws' := []) [] (by decide) rfl
    have hFc := va_free (wc := []) hD hS hA [] rfl
    refine va_calli (va_runS (As := [.int ((tR k1) ((((64 - k1) % 8) + 4) % 8)), .int 7]) (rest := [.int (((((tR k1) ((((64 - k1) % 8) + 4) % 8)) <<< ((26 : Int32) &&& 31)) ||| (zu ((tR k1) ((((64 - k1) % 8) + 4) % 8)) ((32 : Int32) - (26 : Int32)))) ^^^ ((((tR k1) ((((64 - k1) % 8) + 4) % 8)) <<< ((21 : Int32) &&& 31)) ||| (zu ((tR k1) ((((64 - k1) % 8) + 4) % 8)) ((32 : Int32) - (21 : Int32))))), .int ((tR k1) ((((64 - k1) % 8) + 7) % 8))]) ⟨hx, hb, hml, hown, hts⟩ (c_M_left l D y H.size ((tR k1) ((((64 - k1) % 8) + 4) % 8)) 7) (va_cwS 2 hts gv_c_M_secondHash_c_M_left_119 rfl rfl rfl (by decide +kernel) ⟨(Nat.le_of_ble_eq_true rfl), (Nat.le_of_ble_eq_true rfl)⟩) (zB.preS hPc hDc hK hN hE hO hT hG hS hFc (fun _ h => nomatch h) (fun _ h => nomatch h) (fun _ h => nomatch h) (fun _ h => nomatch h)) rfl rfl hl.1 rfl (lv_room (Nat.le_of_ble_eq_true rfl)) dX12_secondHash_317 ⟨(Nat.le_of_ble_eq_true rfl), (Nat.le_of_ble_eq_true rfl)⟩) hS (fun q _ h => hFc q h) hFc (fun r48 u t H1 locs ht hvm hw hB hz1 hk1 hS => ?_)
    obtain ⟨hP1, hD1⟩ := hB
    rw [ht] at hP1
    obtain ⟨hP, hD⟩ := va_join (wr := [(wd, .inl (y 1, 80, .inl (zf tW2 (k1 + 1) f2))), (dg, .inl (y 1, 32, .inl f3)), (st, .inl (y 1, 8, .inl (zf tS2 8 f4))), (nw, .inl (y 1, 8, .inl (zf (tR k1) 8 f5))), (h0, .inr (16, [w1, w2, w3, w4, w5, w6, w7, w8, w9, w10, w11, w12, w13, w14, .int (nI 64), .ref ms, .ref dg, .ref wd, .ref st, .ref nw, w15, w16, w17, w18, w19, w20, w21, w22, w23, w24, w25, w26, w27, w28, w29, w30, w31, w32, w33, w34, w35, w36, w37, w38, w39, w40, w41, w42, w43, w44, w45, w46, w47, w48, w49, w50, w51, w52, w53, w54, w55, w56, w57, w58])), (ms, .inl (y 1, 30000, .inl (zf tM 64 f1)))]) (w1 := []) hP hD [] [0, 1, 2, 3, 4, 5] rfl rfl (by decide) (by decide) hk1 hFc hP1 hD1
    generalize H1 = H at hP hS ⊢
    have hP : va_P D vwCl [(wd, .inl (y 1, 80, .inl (zf tW2 (k1 + 1) f2))), (dg, .inl (y 1, 32, .inl f3)), (st, .inl (y 1, 8, .inl (zf tS2 8 f4))), (nw, .inl (y 1, 8, .inl (zf (tR k1) 8 f5))), (h0, .inr (16, [w1, w2, w3, w4, w5, w6, w7, w8, w9, w10, w11, w12, w13, w14, .int (nI 64), .ref ms, .ref dg, .ref wd, .ref st, .ref nw, w15, w16, w17, w18, w19, w20, w21, w22, w23, w24, w25, w26, w27, w28, w29, w30, w31, w32, w33, w34, w35, w36, w37, w38, w39, w40, w41, w42, w43, w44, w45, w46, w47, w48, w49, w50, w51, w52, w53, w54, w55, w56, w57, w58])), (ms, .inl (y 1, 30000, .inl (zf tM 64 f1)))] H := hP
    have hD : va_D A [(wd, .inl (y 1, 80, .inl (zf tW2 (k1 + 1) f2))), (dg, .inl (y 1, 32, .inl f3)), (st, .inl (y 1, 8, .inl (zf tS2 8 f4))), (nw, .inl (y 1, 8, .inl (zf (tR k1) 8 f5))), (h0, .inr (16, [w1, w2, w3, w4, w5, w6, w7, w8, w9, w10, w11, w12, w13, w14, .int (nI 64), .ref ms, .ref dg, .ref wd, .ref st, .ref nw, w15, w16, w17, w18, w19, w20, w21, w22, w23, w24, w25, w26, w27, w28, w29, w30, w31, w32, w33, w34, w35, w36, w37, w38, w39, w40, w41, w42, w43, w44, w45, w46, w47, w48, w49, w50, w51, w52, w53, w54, w55, w56, w57, w58])), (ms, .inl (y 1, 30000, .inl (zf tM 64 f1)))] := hD
    have hw : r48 = (((tR k1) ((((64 - k1) % 8) + 4) % 8)) <<< ((7 : Int32) &&& 31)) ||| (zu ((tR k1) ((((64 - k1) % 8) + 4) % 8)) ((32 : Int32) - (7 : Int32))) := hw
    subst hw
    refine lv_ixor hx hb dX12_secondHash_320 ?_
    refine lv_iadd hx hb dX12_secondHash_321 ?_
    refine lv_iload hx hb dX12_secondHash_322 (lv_at hl 0 rfl) ?_
    refine lv_iload hx hb dX12_secondHash_324 (lv_at hl 2 rfl) ?_
    refine lv_iload hx hb dX12_secondHash_326 (lv_at hl 1 rfl) ?_
    refine lv_iload hx hb dX12_secondHash_328 (lv_at hl 0 rfl) ?_
    refine lv_ixor hx hb dX12_secondHash_330 ?_
    refine lv_iand hx hb dX12_secondHash_331 ?_
    refine lv_ixor hx hb dX12_secondHash_332 ?_
    refine lv_iadd hx hb dX12_secondHash_333 ?_
    refine va_gets hx hb (hE ("SignetRingModel", "ROUNDS", "[I", .ref e4) (List.mem_of_getElem? (i := 0) rfl)) hS hown (hts (.fieldLink RX12 139 "SignetRingModel" "ROUNDS" "[I") (by decide +kernel)) (fun _ h9 => h9) dX12_secondHash_334 ?_
    refine lv_iload_n hx hb dX12_secondHash_337 rfl (lv_at hl 4 rfl) ?_
    refine va_ti (v := .int (tK k1)) hx hb (show va_T .int e4 64 (fun j => .int (tK j)) A s s.heap from (hG (.inl (e4, 64, tK)) (List.mem_of_getElem? (i := 0) rfl))) hS (vp_in_nI (by omega) (by decide)) (congrArg (fun j => Value.int (tK j)) (nI_clamp (n := k1) (by omega))) dX12_secondHash_338 ?_
    refine lv_iadd hx hb dX12_secondHash_339 ?_
    refine lv_aload_n hx hb dX12_secondHash_340 rfl (lv_at hl 7 rfl) ?_
    refine va_get (D := D) (ci := 16) (v := .ref wd) (C := RX12) (T := TX12) (N := 64) hx hb hts (by decide +kernel) hown hK hP 4 rfl rfl 17 (by decide) (hts (.fieldLink RX12 46 "SignetRingModel" "words" "[I") (by decide +kernel)) (fun _ h9 => h9) rfl dX12_secondHash_341 ?_
    refine lv_iload_n hx hb dX12_secondHash_344 rfl (lv_at hl 4 rfl) ?_
    refine va_iald hx hb hK hP 0 1 rfl rfl (vp_in_nI (by omega) (by decide)) dX12_secondHash_345 ?_
    refine lv_topi (fun v49 ev49 => ?_)
    have ev49 : v49 = tW2 k1 := ev49.trans (zf_rd (j := k1) (by omega) (by omega))
    subst ev49
    refine lv_iadd hx hb dX12_secondHash_346 ?_
    refine lv_topi (fun v50 ev50 => ?_)
    have ev50 : v50 = tT k1 := ev50.trans (ax_c_M_secondHash_15 k1 hk11 hk10)
    subst ev50
    refine lv_istore (lv' := [(8, .int (tT k1)), (7, .int ((tR k1) ((((64 - k1) % 8) + 6) % 8))), (6, .int ((tR k1) ((((64 - k1) % 8) + 5) % 8))), (5, .int ((tR k1) ((((64 - k1) % 8) + 4) % 8))), (4, .int (nI ((64 - k1) % 8))), (3, .int (nI k1)), (2, .int 0), (1, .int 1), (0, .ref h0)]) hx hb dX12_secondHash_347 hl (by decide) rfl (fun ls hl => ?_)
    refine lv_aload_n hx hb dX12_secondHash_349 rfl (lv_at hl 8 rfl) ?_
    refine va_get (D := D) (ci := 16) (v := .ref nw) (C := RX12) (T := TX12) (N := 64) hx hb hts (by decide +kernel) hown hK hP 4 rfl rfl 19 (by decide) (hts (.fieldLink RX12 52 "SignetRingModel" "now" "[I") (by decide +kernel)) (fun _ h9 => h9) rfl dX12_secondHash_350 ?_
    refine lv_iload hx hb dX12_secondHash_353 (lv_at hl 4 rfl) ?_
    refine va_iald hx hb hK hP 3 1 rfl rfl (vp_in_nI (by omega) (by decide)) dX12_secondHash_355 ?_
    refine lv_topi (fun v51 ev51 => ?_)
    have ev51 : v51 = (tR k1) ((64 - k1) % 8) := ev51.trans (zf_rd (j := ((64 - k1) % 8)) (by omega) (by omega))
    subst ev51
    refine lv_istore (lv' := [(9, .int ((tR k1) ((64 - k1) % 8))), (8, .int (tT k1)), (7, .int ((tR k1) ((((64 - k1) % 8) + 6) % 8))), (6, .int ((tR k1) ((((64 - k1) % 8) + 5) % 8))), (5, .int ((tR k1) ((((64 - k1) % 8) + 4) % 8))), (4, .int (nI ((64 - k1) % 8))), (3, .int (nI k1)), (2, .int 0), (1, .int 1), (0, .ref h0)]) hx hb dX12_secondHash_356 hl (by decide) rfl (fun ls hl => ?_)
    refine lv_aload_n hx hb dX12_secondHash_358 rfl (lv_at hl 9 rfl) ?_
    refine va_get (D := D) (ci := 16) (v := .ref nw) (C := RX12) (T := TX12) (N := 64) hx hb hts (by decide +kernel) hown hK hP 4 rfl rfl 19 (by decide) (hts (.fieldLink RX12 52 "SignetRingModel" "now" "[I") (by decide +kernel)) (fun _ h9 => h9) rfl dX12_secondHash_359 ?_
    refine lv_iload hx hb dX12_secondHash_362 (lv_at hl 5 rfl) ?_
    refine lv_iconst (v := 1) hx hb dX12_secondHash_364 (by decide) ?_
    refine lv_iadd hx hb dX12_secondHash_365 ?_
    refine lv_topi (fun v52 ev52 => ?_)
    have ev52 : v52 = nI (((64 - k1) % 8) + 1) := ev52.trans (ax_c_M_secondHash_16 k1 hk11 hk10)
    subst ev52
    refine lv_bipush (v := 7) hx hb dX12_secondHash_366 (by decide) ?_
    refine lv_iand hx hb dX12_secondHash_368 ?_
    refine lv_topi (fun v53 ev53 => ?_)
    have ev53 : v53 = nI ((((64 - k1) % 8) + 1) % 8) := ev53.trans (ax_c_M_secondHash_17 k1 hk11 hk10)
    subst ev53
    refine va_iald hx hb hK hP 3 1 rfl rfl (vp_in_nI (by omega) (by decide)) dX12_secondHash_369 ?_
    refine lv_topi (fun v54 ev54 => ?_)
    have ev54 : v54 = (tR k1) ((((64 - k1) % 8) + 1) % 8) := ev54.trans (zf_rd (j := ((((64 - k1) % 8) + 1) % 8)) (by omega) (by omega))
    subst ev54
    refine lv_istore (lv' := [(10, .int ((tR k1) ((((64 - k1) % 8) + 1) % 8))), (9, .int ((tR k1) ((64 - k1) % 8))), (8, .int (tT k1)), (7, .int ((tR k1) ((((64 - k1) % 8) + 6) % 8))), (6, .int ((tR k1) ((((64 - k1) % 8) + 5) % 8))), (5, .int ((tR k1) ((((64 - k1) % 8) + 4) % 8))), (4, .int (nI ((64 - k1) % 8))), (3, .int (nI k1)), (2, .int 0), (1, .int 1), (0, .ref h0)]) hx hb dX12_secondHash_370 hl (by decide) rfl (fun ls hl => ?_)
    refine lv_aload_n hx hb dX12_secondHash_372 rfl (lv_at hl 10 rfl) ?_
    refine va_get (D := D) (ci := 16) (v := .ref nw) (C := RX12) (T := TX12) (N := 64) hx hb hts (by decide +kernel) hown hK hP 4 rfl rfl 19 (by decide) (hts (.fieldLink RX12 52 "SignetRingModel" "now" "[I") (by decide +kernel)) (fun _ h9 => h9) rfl dX12_secondHash_373 ?_
    refine lv_iload hx hb dX12_secondHash_376 (lv_at hl 6 rfl) ?_
    refine lv_iconst (v := 2) hx hb dX12_secondHash_378 (by decide) ?_
    refine lv_iadd hx hb dX12_secondHash_379 ?_
    refine lv_topi (fun v55 ev55 => ?_)
    have ev55 : v55 = nI (((64 - k1) % 8) + 2) := ev55.trans (ax_c_M_secondHash_18 k1 hk11 hk10)
    subst ev55
    refine lv_bipush (v := 7) hx hb dX12_secondHash_380 (by decide) ?_
    refine lv_iand hx hb dX12_secondHash_382 ?_
    refine lv_topi (fun v56 ev56 => ?_)
    have ev56 : v56 = nI ((((64 - k1) % 8) + 2) % 8) := ev56.trans (ax_c_M_secondHash_19 k1 hk11 hk10)
    subst ev56
    refine va_iald hx hb hK hP 3 1 rfl rfl (vp_in_nI (by omega) (by decide)) dX12_secondHash_383 ?_
    refine lv_topi (fun v57 ev57 => ?_)
    have ev57 : v57 = (tR k1) ((((64 - k1) % 8) + 2) % 8) := ev57.trans (zf_rd (j := ((((64 - k1) % 8) + 2) % 8)) (by omega) (by omega))
    subst ev57
    refine lv_istore (lv' := [(11, .int ((tR k1) ((((64 - k1) % 8) + 2) % 8))), (10, .int ((tR k1) ((((64 - k1) % 8) + 1) % 8))), (9, .int ((tR k1) ((64 - k1) % 8))), (8, .int (tT k1)), (7, .int ((tR k1) ((((64 - k1) % 8) + 6) % 8))), (6, .int ((tR k1) ((((64 - k1) % 8) + 5) % 8))), (5, .int ((tR k1) ((((64 - k1) % 8) + 4) % 8))), (4, .int (nI ((64 - k1) % 8))), (3, .int (nI k1)), (2, .int 0), (1, .int 1), (0, .ref h0)]) hx hb dX12_secondHash_384 hl (by decide) rfl (fun ls hl => ?_)
    refine lv_aload_n hx hb dX12_secondHash_386 rfl (lv_at hl 11 rfl) ?_
    refine va_get (D := D) (ci := 16) (v := .ref nw) (C := RX12) (T := TX12) (N := 64) hx hb hts (by decide +kernel) hown hK hP 4 rfl rfl 19 (by decide) (hts (.fieldLink RX12 52 "SignetRingModel" "now" "[I") (by decide +kernel)) (fun _ h9 => h9) rfl dX12_secondHash_387 ?_
    refine lv_iload hx hb dX12_secondHash_390 (lv_at hl 7 rfl) ?_
    refine lv_iconst (v := 3) hx hb dX12_secondHash_392 (by decide) ?_
    refine lv_iadd hx hb dX12_secondHash_393 ?_
    refine lv_topi (fun v58 ev58 => ?_)
    have ev58 : v58 = nI (((64 - k1) % 8) + 3) := ev58.trans (ax_c_M_secondHash_20 k1 hk11 hk10)
    subst ev58
    refine lv_bipush (v := 7) hx hb dX12_secondHash_394 (by decide) ?_
    refine lv_iand hx hb dX12_secondHash_396 ?_
    refine lv_topi (fun v59 ev59 => ?_)
    have ev59 : v59 = nI ((((64 - k1) % 8) + 3) % 8) := ev59.trans (ax_c_M_secondHash_21 k1 hk11 hk10)
    subst ev59
    refine lv_dup2_11 hx hb dX12_secondHash_397 rfl rfl ?_
    refine va_iald hx hb hK hP 3 1 rfl rfl (vp_in_nI (by omega) (by decide)) dX12_secondHash_398 ?_
    refine lv_topi (fun v60 ev60 => ?_)
    have ev60 : v60 = (tR k1) ((((64 - k1) % 8) + 3) % 8) := ev60.trans (zf_rd (j := ((((64 - k1) % 8) + 3) % 8)) (by omega) (by omega))
    subst ev60
    refine lv_iload hx hb dX12_secondHash_399 (lv_at hl 3 rfl) ?_
    refine lv_iadd hx hb dX12_secondHash_401 ?_
    refine va_iast hx hb hK hP hD hS 3 1 rfl rfl (vp_in_nI (by omega) (by decide)) dX12_secondHash_402 (fun H locs hP hD hS => ?_)
    have hP : va_P D vwCl [(wd, .inl (y 1, 80, .inl (zf tW2 (k1 + 1) f2))), (dg, .inl (y 1, 32, .inl f3)), (st, .inl (y 1, 8, .inl (zf tS2 8 f4))), (nw, .inl (y 1, 8, .inl (upd (zf (tR k1) 8 f5) (nI ((((64 - k1) % 8) + 3) % 8)).toNatClampNeg (((tR k1) ((((64 - k1) % 8) + 3) % 8)) + (tT k1))))), (h0, .inr (16, [w1, w2, w3, w4, w5, w6, w7, w8, w9, w10, w11, w12, w13, w14, .int (nI 64), .ref ms, .ref dg, .ref wd, .ref st, .ref nw, w15, w16, w17, w18, w19, w20, w21, w22, w23, w24, w25, w26, w27, w28, w29, w30, w31, w32, w33, w34, w35, w36, w37, w38, w39, w40, w41, w42, w43, w44, w45, w46, w47, w48, w49, w50, w51, w52, w53, w54, w55, w56, w57, w58])), (ms, .inl (y 1, 30000, .inl (zf tM 64 f1)))] H := hP
    have hD : va_D A [(wd, .inl (y 1, 80, .inl (zf tW2 (k1 + 1) f2))), (dg, .inl (y 1, 32, .inl f3)), (st, .inl (y 1, 8, .inl (zf tS2 8 f4))), (nw, .inl (y 1, 8, .inl (upd (zf (tR k1) 8 f5) (nI ((((64 - k1) % 8) + 3) % 8)).toNatClampNeg (((tR k1) ((((64 - k1) % 8) + 3) % 8)) + (tT k1))))), (h0, .inr (16, [w1, w2, w3, w4, w5, w6, w7, w8, w9, w10, w11, w12, w13, w14, .int (nI 64), .ref ms, .ref dg, .ref wd, .ref st, .ref nw, w15, w16, w17, w18, w19, w20, w21, w22, w23, w24, w25, w26, w27, w28, w29, w30, w31, w32, w33, w34, w35, w36, w37, w38, w39, w40, w41, w42, w43, w44, w45, w46, w47, w48, w49, w50, w51, w52, w53, w54, w55, w56, w57, w58])), (ms, .inl (y 1, 30000, .inl (zf tM 64 f1)))] := hD
    refine lv_aload_n hx hb dX12_secondHash_403 rfl (lv_at hl 11 rfl) ?_
    refine va_get (D := D) (ci := 16) (v := .ref nw) (C := RX12) (T := TX12) (N := 64) hx hb hts (by decide +kernel) hown hK hP 4 rfl rfl 19 (by decide) (hts (.fieldLink RX12 52 "SignetRingModel" "now" "[I") (by decide +kernel)) (fun _ h9 => h9) rfl dX12_secondHash_404 ?_
    refine lv_iload hx hb dX12_secondHash_407 (lv_at hl 7 rfl) ?_
    refine lv_bipush (v := 7) hx hb dX12_secondHash_409 (by decide) ?_
    refine lv_iadd hx hb dX12_secondHash_411 ?_
    refine lv_topi (fun v61 ev61 => ?_)
    have ev61 : v61 = nI (((64 - k1) % 8) + 7) := ev61.trans (ax_c_M_secondHash_13 k1 hk11 hk10)
    subst ev61
    refine lv_bipush (v := 7) hx hb dX12_secondHash_412 (by decide) ?_
    refine lv_iand hx hb dX12_secondHash_414 ?_
    refine lv_topi (fun v62 ev62 => ?_)
    have ev62 : v62 = nI ((((64 - k1) % 8) + 7) % 8) := ev62.trans (ax_c_M_secondHash_14 k1 hk11 hk10)
    subst ev62
    refine lv_iload hx hb dX12_secondHash_415 (lv_at hl 3 rfl) ?_
    refine lv_iload hx hb dX12_secondHash_417 (lv_at hl 2 rfl) ?_
    refine lv_bipush (v := 30) hx hb dX12_secondHash_419 (by decide) ?_
    have hPc := hP.sub (ws' := []) [] rfl
    have hDc := hD.sub (ws' := []) [] (by decide) rfl
    have hFc := va_free (wc := []) hD hS hA [] rfl
    refine va_calli (va_runS (As := [.int ((tR k1) ((64 - k1) % 8)), .int 30]) (rest := [.int (tT k1), .int (nI ((((64 - k1) % 8) + 7) % 8)), .ref nw]) ⟨hx, hb, hml, hown, hts⟩ (c_M_left l D y H.size ((tR k1) ((64 - k1) % 8)) 30) (va_cwS 2 hts gv_c_M_secondHash_c_M_left_119 rfl rfl rfl (by decide +kernel) ⟨(Nat.le_of_ble_eq_true rfl), (Nat.le_of_ble_eq_true rfl)⟩) (zB.preS hPc hDc hK hN hE hO hT hG hS hFc (fun _ h => nomatch h) (fun _ h => nomatch h) (fun _ h => nomatch h) (fun _ h => nomatch h)) rfl rfl hl.1 rfl (lv_room (Nat.le_of_ble_eq_true rfl)) dX12_secondHash_421 ⟨(Nat.le_of_ble_eq_true rfl), (Nat.le_of_ble_eq_true rfl)⟩) hS (fun q _ h => hFc q h) hFc (fun r63 u t H1 locs ht hvm hw hB hz1 hk1 hS => ?_)
    obtain ⟨hP1, hD1⟩ := hB
    rw [ht] at hP1
    obtain ⟨hP, hD⟩ := va_join (wr := [(wd, .inl (y 1, 80, .inl (zf tW2 (k1 + 1) f2))), (dg, .inl (y 1, 32, .inl f3)), (st, .inl (y 1, 8, .inl (zf tS2 8 f4))), (nw, .inl (y 1, 8, .inl (upd (zf (tR k1) 8 f5) (nI ((((64 - k1) % 8) + 3) % 8)).toNatClampNeg (((tR k1) ((((64 - k1) % 8) + 3) % 8)) + (tT k1))))), (h0, .inr (16, [w1, w2, w3, w4, w5, w6, w7, w8, w9, w10, w11, w12, w13, w14, .int (nI 64), .ref ms, .ref dg, .ref wd, .ref st, .ref nw, w15, w16, w17, w18, w19, w20, w21, w22, w23, w24, w25, w26, w27, w28, w29, w30, w31, w32, w33, w34, w35, w36, w37, w38, w39, w40, w41, w42, w43, w44, w45, w46, w47, w48, w49, w50, w51, w52, w53, w54, w55, w56, w57, w58])), (ms, .inl (y 1, 30000, .inl (zf tM 64 f1)))]) (w1 := []) hP hD [] [0, 1, 2, 3, 4, 5] rfl rfl (by decide) (by decide) hk1 hFc hP1 hD1
    generalize H1 = H at hP hS ⊢
    have hP : va_P D vwCl [(wd, .inl (y 1, 80, .inl (zf tW2 (k1 + 1) f2))), (dg, .inl (y 1, 32, .inl f3)), (st, .inl (y 1, 8, .inl (zf tS2 8 f4))), (nw, .inl (y 1, 8, .inl (upd (zf (tR k1) 8 f5) (nI ((((64 - k1) % 8) + 3) % 8)).toNatClampNeg (((tR k1) ((((64 - k1) % 8) + 3) % 8)) + (tT k1))))), (h0, .inr (16, [w1, w2, w3, w4, w5, w6, w7, w8, w9, w10, w11, w12, w13, w14, .int (nI 64), .ref ms, .ref dg, .ref wd, .ref st, .ref nw, w15, w16, w17, w18, w19, w20, w21, w22, w23, w24, w25, w26, w27, w28, w29, w30, w31, w32, w33, w34, w35, w36, w37, w38, w39, w40, w41, w42, w43, w44, w45, w46, w47, w48, w49, w50, w51, w52, w53, w54, w55, w56, w57, w58])), (ms, .inl (y 1, 30000, .inl (zf tM 64 f1)))] H := hP
    have hD : va_D A [(wd, .inl (y 1, 80, .inl (zf tW2 (k1 + 1) f2))), (dg, .inl (y 1, 32, .inl f3)), (st, .inl (y 1, 8, .inl (zf tS2 8 f4))), (nw, .inl (y 1, 8, .inl (upd (zf (tR k1) 8 f5) (nI ((((64 - k1) % 8) + 3) % 8)).toNatClampNeg (((tR k1) ((((64 - k1) % 8) + 3) % 8)) + (tT k1))))), (h0, .inr (16, [w1, w2, w3, w4, w5, w6, w7, w8, w9, w10, w11, w12, w13, w14, .int (nI 64), .ref ms, .ref dg, .ref wd, .ref st, .ref nw, w15, w16, w17, w18, w19, w20, w21, w22, w23, w24, w25, w26, w27, w28, w29, w30, w31, w32, w33, w34, w35, w36, w37, w38, w39, w40, w41, w42, w43, w44, w45, w46, w47, w48, w49, w50, w51, w52, w53, w54, w55, w56, w57, w58])), (ms, .inl (y 1, 30000, .inl (zf tM 64 f1)))] := hD
    have hw : r63 = (((tR k1) ((64 - k1) % 8)) <<< ((30 : Int32) &&& 31)) ||| (zu ((tR k1) ((64 - k1) % 8)) ((32 : Int32) - (30 : Int32))) := hw
    subst hw
    refine lv_iload hx hb dX12_secondHash_424 (lv_at hl 2 rfl) ?_
    refine lv_bipush (v := 19) hx hb dX12_secondHash_426 (by decide) ?_
    have hPc := hP.sub (ws' := []) [] rfl
    have hDc := hD.sub (ws' := []) [] (by decide) rfl
    have hFc := va_free (wc := []) hD hS hA [] rfl
    refine va_calli (va_runS (As := [.int ((tR k1) ((64 - k1) % 8)), .int 19]) (rest := [.int ((((tR k1) ((64 - k1) % 8)) <<< ((30 : Int32) &&& 31)) ||| (zu ((tR k1) ((64 - k1) % 8)) ((32 : Int32) - (30 : Int32)))), .int (tT k1), .int (nI ((((64 - k1) % 8) + 7) % 8)), .ref nw]) ⟨hx, hb, hml, hown, hts⟩ (c_M_left l D y H.size ((tR k1) ((64 - k1) % 8)) 19) (va_cwS 2 hts gv_c_M_secondHash_c_M_left_119 rfl rfl rfl (by decide +kernel) ⟨(Nat.le_of_ble_eq_true rfl), (Nat.le_of_ble_eq_true rfl)⟩) (zB.preS hPc hDc hK hN hE hO hT hG hS hFc (fun _ h => nomatch h) (fun _ h => nomatch h) (fun _ h => nomatch h) (fun _ h => nomatch h)) rfl rfl hl.1 rfl (lv_room (Nat.le_of_ble_eq_true rfl)) dX12_secondHash_428 ⟨(Nat.le_of_ble_eq_true rfl), (Nat.le_of_ble_eq_true rfl)⟩) hS (fun q _ h => hFc q h) hFc (fun r64 u t H1 locs ht hvm hw hB hz1 hk1 hS => ?_)
    obtain ⟨hP1, hD1⟩ := hB
    rw [ht] at hP1
    obtain ⟨hP, hD⟩ := va_join (wr := [(wd, .inl (y 1, 80, .inl (zf tW2 (k1 + 1) f2))), (dg, .inl (y 1, 32, .inl f3)), (st, .inl (y 1, 8, .inl (zf tS2 8 f4))), (nw, .inl (y 1, 8, .inl (upd (zf (tR k1) 8 f5) (nI ((((64 - k1) % 8) + 3) % 8)).toNatClampNeg (((tR k1) ((((64 - k1) % 8) + 3) % 8)) + (tT k1))))), (h0, .inr (16, [w1, w2, w3, w4, w5, w6, w7, w8, w9, w10, w11, w12, w13, w14, .int (nI 64), .ref ms, .ref dg, .ref wd, .ref st, .ref nw, w15, w16, w17, w18, w19, w20, w21, w22, w23, w24, w25, w26, w27, w28, w29, w30, w31, w32, w33, w34, w35, w36, w37, w38, w39, w40, w41, w42, w43, w44, w45, w46, w47, w48, w49, w50, w51, w52, w53, w54, w55, w56, w57, w58])), (ms, .inl (y 1, 30000, .inl (zf tM 64 f1)))]) (w1 := []) hP hD [] [0, 1, 2, 3, 4, 5] rfl rfl (by decide) (by decide) hk1 hFc hP1 hD1
    generalize H1 = H at hP hS ⊢
    have hP : va_P D vwCl [(wd, .inl (y 1, 80, .inl (zf tW2 (k1 + 1) f2))), (dg, .inl (y 1, 32, .inl f3)), (st, .inl (y 1, 8, .inl (zf tS2 8 f4))), (nw, .inl (y 1, 8, .inl (upd (zf (tR k1) 8 f5) (nI ((((64 - k1) % 8) + 3) % 8)).toNatClampNeg (((tR k1) ((((64 - k1) % 8) + 3) % 8)) + (tT k1))))), (h0, .inr (16, [w1, w2, w3, w4, w5, w6, w7, w8, w9, w10, w11, w12, w13, w14, .int (nI 64), .ref ms, .ref dg, .ref wd, .ref st, .ref nw, w15, w16, w17, w18, w19, w20, w21, w22, w23, w24, w25, w26, w27, w28, w29, w30, w31, w32, w33, w34, w35, w36, w37, w38, w39, w40, w41, w42, w43, w44, w45, w46, w47, w48, w49, w50, w51, w52, w53, w54, w55, w56, w57, w58])), (ms, .inl (y 1, 30000, .inl (zf tM 64 f1)))] H := hP
    have hD : va_D A [(wd, .inl (y 1, 80, .inl (zf tW2 (k1 + 1) f2))), (dg, .inl (y 1, 32, .inl f3)), (st, .inl (y 1, 8, .inl (zf tS2 8 f4))), (nw, .inl (y 1, 8, .inl (upd (zf (tR k1) 8 f5) (nI ((((64 - k1) % 8) + 3) % 8)).toNatClampNeg (((tR k1) ((((64 - k1) % 8) + 3) % 8)) + (tT k1))))), (h0, .inr (16, [w1, w2, w3, w4, w5, w6, w7, w8, w9, w10, w11, w12, w13, w14, .int (nI 64), .ref ms, .ref dg, .ref wd, .ref st, .ref nw, w15, w16, w17, w18, w19, w20, w21, w22, w23, w24, w25, w26, w27, w28, w29, w30, w31, w32, w33, w34, w35, w36, w37, w38, w39, w40, w41, w42, w43, w44, w45, w46, w47, w48, w49, w50, w51, w52, w53, w54, w55, w56, w57, w58])), (ms, .inl (y 1, 30000, .inl (zf tM 64 f1)))] := hD
    have hw : r64 = (((tR k1) ((64 - k1) % 8)) <<< ((19 : Int32) &&& 31)) ||| (zu ((tR k1) ((64 - k1) % 8)) ((32 : Int32) - (19 : Int32))) := hw
    subst hw
    refine lv_ixor hx hb dX12_secondHash_431 ?_
    refine lv_iload hx hb dX12_secondHash_432 (lv_at hl 2 rfl) ?_
    refine lv_bipush (v := 10) hx hb dX12_secondHash_434 (by decide) ?_
    have hPc := hP.sub (ws' := []) [] rfl
    have hDc := hD.sub (ws' := []) [] (by decide) rfl
    have hFc := va_free (wc := []) hD hS hA [] rfl
    refine va_calli (va_runS (As := [.int ((tR k1) ((64 - k1) % 8)), .int 10]) (rest := [.int (((((tR k1) ((64 - k1) % 8)) <<< ((30 : Int32) &&& 31)) ||| (zu ((tR k1) ((64 - k1) % 8)) ((32 : Int32) - (30 : Int32)))) ^^^ ((((tR k1) ((64 - k1) % 8)) <<< ((19 : Int32) &&& 31)) ||| (zu ((tR k1) ((64 - k1) % 8)) ((32 : Int32) - (19 : Int32))))), .int (tT k1), .int (nI ((((64 - k1) % 8) + 7) % 8)), .ref nw]) ⟨hx, hb, hml, hown, hts⟩ (c_M_left l D y H.size ((tR k1) ((64 - k1) % 8)) 10) (va_cwS 2 hts gv_c_M_secondHash_c_M_left_119 rfl rfl rfl (by decide +kernel) ⟨(Nat.le_of_ble_eq_true rfl), (Nat.le_of_ble_eq_true rfl)⟩) (zB.preS hPc hDc hK hN hE hO hT hG hS hFc (fun _ h => nomatch h) (fun _ h => nomatch h) (fun _ h => nomatch h) (fun _ h => nomatch h)) rfl rfl hl.1 rfl (lv_room (Nat.le_of_ble_eq_true rfl)) dX12_secondHash_436 ⟨(Nat.le_of_ble_eq_true rfl), (Nat.le_of_ble_eq_true rfl)⟩) hS (fun q _ h => hFc q h) hFc (fun r65 u t H1 locs ht hvm hw hB hz1 hk1 hS => ?_)
    obtain ⟨hP1, hD1⟩ := hB
    rw [ht] at hP1
    obtain ⟨hP, hD⟩ := va_join (wr := [(wd, .inl (y 1, 80, .inl (zf tW2 (k1 + 1) f2))), (dg, .inl (y 1, 32, .inl f3)), (st, .inl (y 1, 8, .inl (zf tS2 8 f4))), (nw, .inl (y 1, 8, .inl (upd (zf (tR k1) 8 f5) (nI ((((64 - k1) % 8) + 3) % 8)).toNatClampNeg (((tR k1) ((((64 - k1) % 8) + 3) % 8)) + (tT k1))))), (h0, .inr (16, [w1, w2, w3, w4, w5, w6, w7, w8, w9, w10, w11, w12, w13, w14, .int (nI 64), .ref ms, .ref dg, .ref wd, .ref st, .ref nw, w15, w16, w17, w18, w19, w20, w21, w22, w23, w24, w25, w26, w27, w28, w29, w30, w31, w32, w33, w34, w35, w36, w37, w38, w39, w40, w41, w42, w43, w44, w45, w46, w47, w48, w49, w50, w51, w52, w53, w54, w55, w56, w57, w58])), (ms, .inl (y 1, 30000, .inl (zf tM 64 f1)))]) (w1 := []) hP hD [] [0, 1, 2, 3, 4, 5] rfl rfl (by decide) (by decide) hk1 hFc hP1 hD1
    generalize H1 = H at hP hS ⊢
    have hP : va_P D vwCl [(wd, .inl (y 1, 80, .inl (zf tW2 (k1 + 1) f2))), (dg, .inl (y 1, 32, .inl f3)), (st, .inl (y 1, 8, .inl (zf tS2 8 f4))), (nw, .inl (y 1, 8, .inl (upd (zf (tR k1) 8 f5) (nI ((((64 - k1) % 8) + 3) % 8)).toNatClampNeg (((tR k1) ((((64 - k1) % 8) + 3) % 8)) + (tT k1))))), (h0, .inr (16, [w1, w2, w3, w4, w5, w6, w7, w8, w9, w10, w11, w12, w13, w14, .int (nI 64), .ref ms, .ref dg, .ref wd, .ref st, .ref nw, w15, w16, w17, w18, w19, w20, w21, w22, w23, w24, w25, w26, w27, w28, w29, w30, w31, w32, w33, w34, w35, w36, w37, w38, w39, w40, w41, w42, w43, w44, w45, w46, w47, w48, w49, w50, w51, w52, w53, w54, w55, w56, w57, w58])), (ms, .inl (y 1, 30000, .inl (zf tM 64 f1)))] H := hP
    have hD : va_D A [(wd, .inl (y 1, 80, .inl (zf tW2 (k1 + 1) f2))), (dg, .inl (y 1, 32, .inl f3)), (st, .inl (y 1, 8, .inl (zf tS2 8 f4))), (nw, .inl (y 1, 8, .inl (upd (zf (tR k1) 8 f5) (nI ((((64 - k1) % 8) + 3) % 8)).toNatClampNeg (((tR k1) ((((64 - k1) % 8) + 3) % 8)) + (tT k1))))), (h0, .inr (16, [w1, w2, w3, w4, w5, w6, w7, w8, w9, w10, w11, w12, w13, w14, .int (nI 64), .ref ms, .ref dg, .ref wd, .ref st, .ref nw, w15, w16, w17, w18, w19, w20, w21, w22, w23, w24, w25, w26, w27, w28, w29, w30, w31, w32, w33, w34, w35, w36, w37, w38, w39, w40, w41, w42, w43, w44, w45, w46, w47, w48, w49, w50, w51, w52, w53, w54, w55, w56, w57, w58])), (ms, .inl (y 1, 30000, .inl (zf tM 64 f1)))] := hD
    have hw : r65 = (((tR k1) ((64 - k1) % 8)) <<< ((10 : Int32) &&& 31)) ||| (zu ((tR k1) ((64 - k1) % 8)) ((32 : Int32) - (10 : Int32))) := hw
    subst hw
    refine lv_ixor hx hb dX12_secondHash_439 ?_
    refine lv_iadd hx hb dX12_secondHash_440 ?_
    refine lv_iload hx hb dX12_secondHash_441 (lv_at hl 2 rfl) ?_
    refine lv_iload hx hb dX12_secondHash_443 (lv_at hl 1 rfl) ?_
    refine lv_iand hx hb dX12_secondHash_445 ?_
    refine lv_iload hx hb dX12_secondHash_446 (lv_at hl 0 rfl) ?_
    refine lv_iload hx hb dX12_secondHash_448 (lv_at hl 2 rfl) ?_
    refine lv_iload hx hb dX12_secondHash_450 (lv_at hl 1 rfl) ?_
    refine lv_ior hx hb dX12_secondHash_452 ?_
    refine lv_iand hx hb dX12_secondHash_453 ?_
    refine lv_ior hx hb dX12_secondHash_454 ?_
    refine lv_iadd hx hb dX12_secondHash_455 ?_
    refine va_iast hx hb hK hP hD hS 3 1 rfl rfl (vp_in_nI (by omega) (by decide)) dX12_secondHash_456 (fun H locs hP hD hS => ?_)
    have hP : va_P D vwCl [(wd, .inl (y 1, 80, .inl (zf tW2 (k1 + 1) f2))), (dg, .inl (y 1, 32, .inl f3)), (st, .inl (y 1, 8, .inl (zf tS2 8 f4))), (nw, .inl (y 1, 8, .inl (upd (upd (zf (tR k1) 8 f5) (nI ((((64 - k1) % 8) + 3) % 8)).toNatClampNeg (((tR k1) ((((64 - k1) % 8) + 3) % 8)) + (tT k1))) (nI ((((64 - k1) % 8) + 7) % 8)).toNatClampNeg (((tT k1) + ((((((tR k1) ((64 - k1) % 8)) <<< ((30 : Int32) &&& 31)) ||| (zu ((tR k1) ((64 - k1) % 8)) ((32 : Int32) - (30 : Int32)))) ^^^ ((((tR k1) ((64 - k1) % 8)) <<< ((19 : Int32) &&& 31)) ||| (zu ((tR k1) ((64 - k1) % 8)) ((32 : Int32) - (19 : Int32))))) ^^^ ((((tR k1) ((64 - k1) % 8)) <<< ((10 : Int32) &&& 31)) ||| (zu ((tR k1) ((64 - k1) % 8)) ((32 : Int32) - (10 : Int32)))))) + ((((tR k1) ((64 - k1) % 8)) &&& ((tR k1) ((((64 - k1) % 8) + 1) % 8))) ||| (((tR k1) ((((64 - k1) % 8) + 2) % 8)) &&& (((tR k1) ((64 - k1) % 8)) ||| ((tR k1) ((((64 - k1) % 8) + 1) % 8))))))))), (h0, .inr (16, [w1, w2, w3, w4, w5, w6, w7, w8, w9, w10, w11, w12, w13, w14, .int (nI 64), .ref ms, .ref dg, .ref wd, .ref st, .ref nw, w15, w16, w17, w18, w19, w20, w21, w22, w23, w24, w25, w26, w27, w28, w29, w30, w31, w32, w33, w34, w35, w36, w37, w38, w39, w40, w41, w42, w43, w44, w45, w46, w47, w48, w49, w50, w51, w52, w53, w54, w55, w56, w57, w58])), (ms, .inl (y 1, 30000, .inl (zf tM 64 f1)))] H := hP
    have hD : va_D A [(wd, .inl (y 1, 80, .inl (zf tW2 (k1 + 1) f2))), (dg, .inl (y 1, 32, .inl f3)), (st, .inl (y 1, 8, .inl (zf tS2 8 f4))), (nw, .inl (y 1, 8, .inl (upd (upd (zf (tR k1) 8 f5) (nI ((((64 - k1) % 8) + 3) % 8)).toNatClampNeg (((tR k1) ((((64 - k1) % 8) + 3) % 8)) + (tT k1))) (nI ((((64 - k1) % 8) + 7) % 8)).toNatClampNeg (((tT k1) + ((((((tR k1) ((64 - k1) % 8)) <<< ((30 : Int32) &&& 31)) ||| (zu ((tR k1) ((64 - k1) % 8)) ((32 : Int32) - (30 : Int32)))) ^^^ ((((tR k1) ((64 - k1) % 8)) <<< ((19 : Int32) &&& 31)) ||| (zu ((tR k1) ((64 - k1) % 8)) ((32 : Int32) - (19 : Int32))))) ^^^ ((((tR k1) ((64 - k1) % 8)) <<< ((10 : Int32) &&& 31)) ||| (zu ((tR k1) ((64 - k1) % 8)) ((32 : Int32) - (10 : Int32)))))) + ((((tR k1) ((64 - k1) % 8)) &&& ((tR k1) ((((64 - k1) % 8) + 1) % 8))) ||| (((tR k1) ((((64 - k1) % 8) + 2) % 8)) &&& (((tR k1) ((64 - k1) % 8)) ||| ((tR k1) ((((64 - k1) % 8) + 1) % 8))))))))), (h0, .inr (16, [w1, w2, w3, w4, w5, w6, w7, w8, w9, w10, w11, w12, w13, w14, .int (nI 64), .ref ms, .ref dg, .ref wd, .ref st, .ref nw, w15, w16, w17, w18, w19, w20, w21, w22, w23, w24, w25, w26, w27, w28, w29, w30, w31, w32, w33, w34, w35, w36, w37, w38, w39, w40, w41, w42, w43, w44, w45, w46, w47, w48, w49, w50, w51, w52, w53, w54, w55, w56, w57, w58])), (ms, .inl (y 1, 30000, .inl (zf tM 64 f1)))] := hD
    have u66 : upd (upd (zf (tR k1) 8 f5) (nI ((((64 - k1) % 8) + 3) % 8)).toNatClampNeg (((tR k1) ((((64 - k1) % 8) + 3) % 8)) + (tT k1))) (nI ((((64 - k1) % 8) + 7) % 8)).toNatClampNeg (((tT k1) + ((((((tR k1) ((64 - k1) % 8)) <<< ((30 : Int32) &&& 31)) ||| (zu ((tR k1) ((64 - k1) % 8)) ((32 : Int32) - (30 : Int32)))) ^^^ ((((tR k1) ((64 - k1) % 8)) <<< ((19 : Int32) &&& 31)) ||| (zu ((tR k1) ((64 - k1) % 8)) ((32 : Int32) - (19 : Int32))))) ^^^ ((((tR k1) ((64 - k1) % 8)) <<< ((10 : Int32) &&& 31)) ||| (zu ((tR k1) ((64 - k1) % 8)) ((32 : Int32) - (10 : Int32)))))) + ((((tR k1) ((64 - k1) % 8)) &&& ((tR k1) ((((64 - k1) % 8) + 1) % 8))) ||| (((tR k1) ((((64 - k1) % 8) + 2) % 8)) &&& (((tR k1) ((64 - k1) % 8)) ||| ((tR k1) ((((64 - k1) % 8) + 1) % 8)))))) = zf (tR (k1 + 1)) 8 f5 := zf_up2 (i1 := ((((64 - k1) % 8) + 3) % 8)) (i2 := ((((64 - k1) % 8) + 7) % 8)) (by omega) (by omega) (by decide) (ax_c_M_secondHash_22 k1 hk11 hk10)
    rw [u66] at hP hD
    have hP : va_P D vwCl [(wd, .inl (y 1, 80, .inl (zf tW2 (k1 + 1) f2))), (dg, .inl (y 1, 32, .inl f3)), (st, .inl (y 1, 8, .inl (zf tS2 8 f4))), (nw, .inl (y 1, 8, .inl (zf (tR (k1 + 1)) 8 f5))), (h0, .inr (16, [w1, w2, w3, w4, w5, w6, w7, w8, w9, w10, w11, w12, w13, w14, .int (nI 64), .ref ms, .ref dg, .ref wd, .ref st, .ref nw, w15, w16, w17, w18, w19, w20, w21, w22, w23, w24, w25, w26, w27, w28, w29, w30, w31, w32, w33, w34, w35, w36, w37, w38, w39, w40, w41, w42, w43, w44, w45, w46, w47, w48, w49, w50, w51, w52, w53, w54, w55, w56, w57, w58])), (ms, .inl (y 1, 30000, .inl (zf tM 64 f1)))] H := hP
    have hD : va_D A [(wd, .inl (y 1, 80, .inl (zf tW2 (k1 + 1) f2))), (dg, .inl (y 1, 32, .inl f3)), (st, .inl (y 1, 8, .inl (zf tS2 8 f4))), (nw, .inl (y 1, 8, .inl (zf (tR (k1 + 1)) 8 f5))), (h0, .inr (16, [w1, w2, w3, w4, w5, w6, w7, w8, w9, w10, w11, w12, w13, w14, .int (nI 64), .ref ms, .ref dg, .ref wd, .ref st, .ref nw, w15, w16, w17, w18, w19, w20, w21, w22, w23, w24, w25, w26, w27, w28, w29, w30, w31, w32, w33, w34, w35, w36, w37, w38, w39, w40, w41, w42, w43, w44, w45, w46, w47, w48, w49, w50, w51, w52, w53, w54, w55, w56, w57, w58])), (ms, .inl (y 1, 30000, .inl (zf tM 64 f1)))] := hD
    refine lv_iinc (v := nI (k1 + 1)) (lv' := [(3, .int (nI (k1 + 1))), (11, .int ((tR k1) ((((64 - k1) % 8) + 2) % 8))), (10, .int ((tR k1) ((((64 - k1) % 8) + 1) % 8))), (9, .int ((tR k1) ((64 - k1) % 8))), (8, .int (tT k1)), (7, .int ((tR k1) ((((64 - k1) % 8) + 6) % 8))), (6, .int ((tR k1) ((((64 - k1) % 8) + 5) % 8))), (5, .int ((tR k1) ((((64 - k1) % 8) + 4) % 8))), (4, .int (nI ((64 - k1) % 8))), (2, .int 0), (1, .int 1), (0, .ref h0)]) hx hb dX12_secondHash_457 hl (k := 8) rfl (ax_c_M_secondHash_23 k1 hk11 hk10) (by decide) rfl (fun ls hl => ?_)
    refine lv_goto (tgt := 106) hx hb dX12_secondHash_460 (by decide) ?_
    exact ih ls H locs ⟨hP, hD, hS, lv_sub hl [0, 9, 10, 11] rfl⟩
  · obtain ⟨hP, hD, hS, hl⟩ := hI
    have hl : lv_has ls 12 [(3, .int (nI 16)), (2, .int 0), (1, .int 1), (0, .ref h0)] := hl
    have hP : va_P D vwCl [(wd, .inl (y 1, 80, .inl (zf tW2 16 f2))), (dg, .inl (y 1, 32, .inl f3)), (st, .inl (y 1, 8, .inl (zf tS2 8 f4))), (nw, .inl (y 1, 8, .inl (zf (tR 16) 8 f5))), (h0, .inr (16, [w1, w2, w3, w4, w5, w6, w7, w8, w9, w10, w11, w12, w13, w14, .int (nI 64), .ref ms, .ref dg, .ref wd, .ref st, .ref nw, w15, w16, w17, w18, w19, w20, w21, w22, w23, w24, w25, w26, w27, w28, w29, w30, w31, w32, w33, w34, w35, w36, w37, w38, w39, w40, w41, w42, w43, w44, w45, w46, w47, w48, w49, w50, w51, w52, w53, w54, w55, w56, w57, w58])), (ms, .inl (y 1, 30000, .inl (zf tM 64 f1)))] H := hP
    have hD : va_D A [(wd, .inl (y 1, 80, .inl (zf tW2 16 f2))), (dg, .inl (y 1, 32, .inl f3)), (st, .inl (y 1, 8, .inl (zf tS2 8 f4))), (nw, .inl (y 1, 8, .inl (zf (tR 16) 8 f5))), (h0, .inr (16, [w1, w2, w3, w4, w5, w6, w7, w8, w9, w10, w11, w12, w13, w14, .int (nI 64), .ref ms, .ref dg, .ref wd, .ref st, .ref nw, w15, w16, w17, w18, w19, w20, w21, w22, w23, w24, w25, w26, w27, w28, w29, w30, w31, w32, w33, w34, w35, w36, w37, w38, w39, w40, w41, w42, w43, w44, w45, w46, w47, w48, w49, w50, w51, w52, w53, w54, w55, w56, w57, w58])), (ms, .inl (y 1, 30000, .inl (zf tM 64 f1)))] := hD
    have hl : lv_has ls 12 [(3, .int (nI 16)), (2, .int 0), (1, .int 1), (0, .ref h0)] := lv_sub hl [0, 1, 2, 3] rfl
    refine zz_loop (I := fun (k2 : Nat) (ls : Array Slot) (H : Heap) (locs : List Loc) => va_P D vwCl [(wd, .inl (y 1, 80, .inl (zf tW2 k2 f2))), (dg, .inl (y 1, 32, .inl f3)), (st, .inl (y 1, 8, .inl (zf tS2 8 f4))), (nw, .inl (y 1, 8, .inl (zf (tR k2) 8 f5))), (h0, .inr (16, [w1, w2, w3, w4, w5, w6, w7, w8, w9, w10, w11, w12, w13, w14, Value.int (nI 64), Value.ref ms, Value.ref dg, Value.ref wd, Value.ref st, Value.ref nw, w15, w16, w17, w18, w19, w20, w21, w22, w23, w24, w25, w26, w27, w28, w29, w30, w31, w32, w33, w34, w35, w36, w37, w38, w39, w40, w41, w42, w43, w44, w45, w46, w47, w48, w49, w50, w51, w52, w53, w54, w55, w56, w57, w58])), (ms, .inl (y 1, 30000, .inl (zf tM 64 f1)))] H ∧ va_D A [(wd, .inl (y 1, 80, .inl (zf tW2 k2 f2))), (dg, .inl (y 1, 32, .inl f3)), (st, .inl (y 1, 8, .inl (zf tS2 8 f4))), (nw, .inl (y 1, 8, .inl (zf (tR k2) 8 f5))), (h0, .inr (16, [w1, w2, w3, w4, w5, w6, w7, w8, w9, w10, w11, w12, w13, w14, Value.int (nI 64), Value.ref ms, Value.ref dg, Value.ref wd, Value.ref st, Value.ref nw, w15, w16, w17, w18, w19, w20, w21, w22, w23, w24, w25, w26, w27, w28, w29, w30, w31, w32, w33, w34, w35, w36, w37, w38, w39, w40, w41, w42, w43, w44, w45, w46, w47, w48, w49, w50, w51, w52, w53, w54, w55, w56, w57, w58])), (ms, .inl (y 1, 30000, .inl (zf tM 64 f1)))] ∧ va_S A s.heap H locs ∧ lv_has ls 12 [(3, Value.int (nI k2)), (2, Value.int 0), (1, Value.int 1), (0, Value.ref h0)]) 16 64 (by decide) ⟨hP, hD, hS, hl⟩ (fun k2 ls H locs hk20 hk21 hI ih => ?_) (fun ls H locs hI => ?_)
    · obtain ⟨hP, hD, hS, hl⟩ := hI
      have hl : lv_has ls 12 [(3, .int (nI k2)), (2, .int 0), (1, .int 1), (0, .ref h0)] := hl
      have hP : va_P D vwCl [(wd, .inl (y 1, 80, .inl (zf tW2 k2 f2))), (dg, .inl (y 1, 32, .inl f3)), (st, .inl (y 1, 8, .inl (zf tS2 8 f4))), (nw, .inl (y 1, 8, .inl (zf (tR k2) 8 f5))), (h0, .inr (16, [w1, w2, w3, w4, w5, w6, w7, w8, w9, w10, w11, w12, w13, w14, .int (nI 64), .ref ms, .ref dg, .ref wd, .ref st, .ref nw, w15, w16, w17, w18, w19, w20, w21, w22, w23, w24, w25, w26, w27, w28, w29, w30, w31, w32, w33, w34, w35, w36, w37, w38, w39, w40, w41, w42, w43, w44, w45, w46, w47, w48, w49, w50, w51, w52, w53, w54, w55, w56, w57, w58])), (ms, .inl (y 1, 30000, .inl (zf tM 64 f1)))] H := hP
      have hD : va_D A [(wd, .inl (y 1, 80, .inl (zf tW2 k2 f2))), (dg, .inl (y 1, 32, .inl f3)), (st, .inl (y 1, 8, .inl (zf tS2 8 f4))), (nw, .inl (y 1, 8, .inl (zf (tR k2) 8 f5))), (h0, .inr (16, [w1, w2, w3, w4, w5, w6, w7, w8, w9, w10, w11, w12, w13, w14, .int (nI 64), .ref ms, .ref dg, .ref wd, .ref st, .ref nw, w15, w16, w17, w18, w19, w20, w21, w22, w23, w24, w25, w26, w27, w28, w29, w30, w31, w32, w33, w34, w35, w36, w37, w38, w39, w40, w41, w42, w43, w44, w45, w46, w47, w48, w49, w50, w51, w52, w53, w54, w55, w56, w57, w58])), (ms, .inl (y 1, 30000, .inl (zf tM 64 f1)))] := hD
      refine lv_iload_n hx hb dX12_secondHash_106 rfl (lv_at hl 0 rfl) ?_
      refine lv_bipush (v := 64) hx hb dX12_secondHash_107 (by decide) ?_
      refine lv_icmp_ge (tgt := 463) hx hb dX12_secondHash_109 (by decide) (fun c9 => absurd c9 (ax_c_M_secondHash_24 k2 hk21 hk20)) (fun _ => ?_)
      refine lv_iload_n hx hb dX12_secondHash_112 rfl (lv_at hl 0 rfl) ?_
      refine lv_bipush (v := 16) hx hb dX12_secondHash_113 (by decide) ?_
      refine lv_icmp_ge (tgt := 144) hx hb dX12_secondHash_115 (by decide) (fun _ => ?_) (fun c9 => absurd (ax_c_M_secondHash_25 k2 hk21 hk20) c9)
      refine lv_aload_n hx hb dX12_secondHash_144 rfl (lv_at hl 3 rfl) ?_
      refine va_get (D := D) (ci := 16) (v := .ref wd) (C := RX12) (T := TX12) (N := 64) hx hb hts (by decide +kernel) hown hK hP 4 rfl rfl 17 (by decide) (hts (.fieldLink RX12 46 "SignetRingModel" "words" "[I") (by decide +kernel)) (fun _ h9 => h9) rfl dX12_secondHash_145 ?_
      refine lv_iload_n hx hb dX12_secondHash_148 rfl (lv_at hl 0 rfl) ?_
      refine lv_bipush (v := 15) hx hb dX12_secondHash_149 (by decide) ?_
      refine lv_isub hx hb dX12_secondHash_151 ?_
      refine lv_topi (fun v67 ev67 => ?_)
      have ev67 : v67 = nI (k2 - 15) := ev67.trans (ax_c_M_secondHash_26 k2 hk21 hk20)
      subst ev67
      refine va_iald hx hb hK hP 0 1 rfl rfl (vp_in_nI (by omega) (by decide)) dX12_secondHash_152 ?_
      refine lv_topi (fun v68 ev68 => ?_)
      have ev68 : v68 = tW2 (k2 - 15) := ev68.trans (zf_rd (j := (k2 - 15)) (by omega) (by omega))
      subst ev68
      refine lv_istore (lv' := [(4, .int (tW2 (k2 - 15))), (3, .int (nI k2)), (2, .int 0), (1, .int 1), (0, .ref h0)]) hx hb dX12_secondHash_153 hl (by decide) rfl (fun ls hl => ?_)
      refine lv_aload_n hx hb dX12_secondHash_155 rfl (lv_at hl 4 rfl) ?_
      refine va_get (D := D) (ci := 16) (v := .ref wd) (C := RX12) (T := TX12) (N := 64) hx hb hts (by decide +kernel) hown hK hP 4 rfl rfl 17 (by decide) (hts (.fieldLink RX12 46 "SignetRingModel" "words" "[I") (by decide +kernel)) (fun _ h9 => h9) rfl dX12_secondHash_156 ?_
      refine lv_iload_n hx hb dX12_secondHash_159 rfl (lv_at hl 1 rfl) ?_
      refine lv_iconst (v := 2) hx hb dX12_secondHash_160 (by decide) ?_
      refine lv_isub hx hb dX12_secondHash_161 ?_
      refine lv_topi (fun v69 ev69 => ?_)
      have ev69 : v69 = nI (k2 - 2) := ev69.trans (ax_c_M_secondHash_27 k2 hk21 hk20)
      subst ev69
      refine va_iald hx hb hK hP 0 1 rfl rfl (vp_in_nI (by omega) (by decide)) dX12_secondHash_162 ?_
      refine lv_topi (fun v70 ev70 => ?_)
      have ev70 : v70 = tW2 (k2 - 2) := ev70.trans (zf_rd (j := (k2 - 2)) (by omega) (by omega))
      subst ev70
      refine lv_istore (lv' := [(5, .int (tW2 (k2 - 2))), (4, .int (tW2 (k2 - 15))), (3, .int (nI k2)), (2, .int 0), (1, .int 1), (0, .ref h0)]) hx hb dX12_secondHash_163 hl (by decide) rfl (fun ls hl => ?_)
      refine lv_aload_n hx hb dX12_secondHash_165 rfl (lv_at hl 5 rfl) ?_
      refine va_get (D := D) (ci := 16) (v := .ref wd) (C := RX12) (T := TX12) (N := 64) hx hb hts (by decide +kernel) hown hK hP 4 rfl rfl 17 (by decide) (hts (.fieldLink RX12 46 "SignetRingModel" "words" "[I") (by decide +kernel)) (fun _ h9 => h9) rfl dX12_secondHash_166 ?_
      refine lv_iload_n hx hb dX12_secondHash_169 rfl (lv_at hl 2 rfl) ?_
      refine lv_aload_n hx hb dX12_secondHash_170 rfl (lv_at hl 5 rfl) ?_
      refine va_get (D := D) (ci := 16) (v := .ref wd) (C := RX12) (T := TX12) (N := 64) hx hb hts (by decide +kernel) hown hK hP 4 rfl rfl 17 (by decide) (hts (.fieldLink RX12 46 "SignetRingModel" "words" "[I") (by decide +kernel)) (fun _ h9 => h9) rfl dX12_secondHash_171 ?_
      refine lv_iload_n hx hb dX12_secondHash_174 rfl (lv_at hl 2 rfl) ?_
      refine lv_bipush (v := 16) hx hb dX12_secondHash_175 (by decide) ?_
      refine lv_isub hx hb dX12_secondHash_177 ?_
      refine lv_topi (fun v71 ev71 => ?_)
      have ev71 : v71 = nI (k2 - 16) := ev71.trans (ax_c_M_secondHash_28 k2 hk21 hk20)
      subst ev71
      refine va_iald hx hb hK hP 0 1 rfl rfl (vp_in_nI (by omega) (by decide)) dX12_secondHash_178 ?_
      refine lv_topi (fun v72 ev72 => ?_)
      have ev72 : v72 = tW2 (k2 - 16) := ev72.trans (zf_rd (j := (k2 - 16)) (by omega) (by omega))
      subst ev72
      refine lv_aload_n hx hb dX12_secondHash_179 rfl (lv_at hl 5 rfl) ?_
      refine va_get (D := D) (ci := 16) (v := .ref wd) (C := RX12) (T := TX12) (N := 64) hx hb hts (by decide +kernel) hown hK hP 4 rfl rfl 17 (by decide) (hts (.fieldLink RX12 46 "SignetRingModel" "words" "[I") (by decide +kernel)) (fun _ h9 => h9) rfl dX12_secondHash_180 ?_
      refine lv_iload_n hx hb dX12_secondHash_183 rfl (lv_at hl 2 rfl) ?_
      refine lv_bipush (v := 7) hx hb dX12_secondHash_184 (by decide) ?_
      refine lv_isub hx hb dX12_secondHash_186 ?_
      refine lv_topi (fun v73 ev73 => ?_)
      have ev73 : v73 = nI (k2 - 7) := ev73.trans (ax_c_M_secondHash_29 k2 hk21 hk20)
      subst ev73
      refine va_iald hx hb hK hP 0 1 rfl rfl (vp_in_nI (by omega) (by decide)) dX12_secondHash_187 ?_
      refine lv_topi (fun v74 ev74 => ?_)
      have ev74 : v74 = tW2 (k2 - 7) := ev74.trans (zf_rd (j := (k2 - 7)) (by omega) (by omega))
      subst ev74
      refine lv_iadd hx hb dX12_secondHash_188 ?_
      refine lv_iload hx hb dX12_secondHash_189 (lv_at hl 1 rfl) ?_
      refine lv_bipush (v := 25) hx hb dX12_secondHash_191 (by decide) ?_
      have hPc := hP.sub (ws' := []) [] rfl
      have hDc := hD.sub (ws' := []) [] (by decide) rfl
      have hFc := va_free (wc := []) hD hS hA [] rfl
      refine va_calli (va_runS (As := [.int (tW2 (k2 - 15)), .int 25]) (rest := [.int ((tW2 (k2 - 16)) + (tW2 (k2 - 7))), .int (nI k2), .ref wd]) ⟨hx, hb, hml, hown, hts⟩ (c_M_left l D y H.size (tW2 (k2 - 15)) 25) (va_cwS 2 hts gv_c_M_secondHash_c_M_left_119 rfl rfl rfl (by decide +kernel) ⟨(Nat.le_of_ble_eq_true rfl), (Nat.le_of_ble_eq_true rfl)⟩) (zB.preS hPc hDc hK hN hE hO hT hG hS hFc (fun _ h => nomatch h) (fun _ h => nomatch h) (fun _ h => nomatch h) (fun _ h => nomatch h)) rfl rfl hl.1 rfl (lv_room (Nat.le_of_ble_eq_true rfl)) dX12_secondHash_193 ⟨(Nat.le_of_ble_eq_true rfl), (Nat.le_of_ble_eq_true rfl)⟩) hS (fun q _ h => hFc q h) hFc (fun r75 u t H1 locs ht hvm hw hB hz1 hk1 hS => ?_)
      obtain ⟨hP1, hD1⟩ := hB
      rw [ht] at hP1
      obtain ⟨hP, hD⟩ := va_join (wr := [(wd, .inl (y 1, 80, .inl (zf tW2 k2 f2))), (dg, .inl (y 1, 32, .inl f3)), (st, .inl (y 1, 8, .inl (zf tS2 8 f4))), (nw, .inl (y 1, 8, .inl (zf (tR k2) 8 f5))), (h0, .inr (16, [w1, w2, w3, w4, w5, w6, w7, w8, w9, w10, w11, w12, w13, w14, .int (nI 64), .ref ms, .ref dg, .ref wd, .ref st, .ref nw, w15, w16, w17, w18, w19, w20, w21, w22, w23, w24, w25, w26, w27, w28, w29, w30, w31, w32, w33, w34, w35, w36, w37, w38, w39, w40, w41, w42, w43, w44, w45, w46, w47, w48, w49, w50, w51, w52, w53, w54, w55, w56, w57, w58])), (ms, .inl (y 1, 30000, .inl (zf tM 64 f1)))]) (w1 := []) hP hD [] [0, 1, 2, 3, 4, 5] rfl rfl (by decide) (by decide) hk1 hFc hP1 hD1
      generalize H1 = H at hP hS ⊢
      have hP : va_P D vwCl [(wd, .inl (y 1, 80, .inl (zf tW2 k2 f2))), (dg, .inl (y 1, 32, .inl f3)), (st, .inl (y 1, 8, .inl (zf tS2 8 f4))), (nw, .inl (y 1, 8, .inl (zf (tR k2) 8 f5))), (h0, .inr (16, [w1, w2, w3, w4, w5, w6, w7, w8, w9, w10, w11, w12, w13, w14, .int (nI 64), .ref ms, .ref dg, .ref wd, .ref st, .ref nw, w15, w16, w17, w18, w19, w20, w21, w22, w23, w24, w25, w26, w27, w28, w29, w30, w31, w32, w33, w34, w35, w36, w37, w38, w39, w40, w41, w42, w43, w44, w45, w46, w47, w48, w49, w50, w51, w52, w53, w54, w55, w56, w57, w58])), (ms, .inl (y 1, 30000, .inl (zf tM 64 f1)))] H := hP
      have hD : va_D A [(wd, .inl (y 1, 80, .inl (zf tW2 k2 f2))), (dg, .inl (y 1, 32, .inl f3)), (st, .inl (y 1, 8, .inl (zf tS2 8 f4))), (nw, .inl (y 1, 8, .inl (zf (tR k2) 8 f5))), (h0, .inr (16, [w1, w2, w3, w4, w5, w6, w7, w8, w9, w10, w11, w12, w13, w14, .int (nI 64), .ref ms, .ref dg, .ref wd, .ref st, .ref nw, w15, w16, w17, w18, w19, w20, w21, w22, w23, w24, w25, w26, w27, w28, w29, w30, w31, w32, w33, w34, w35, w36, w37, w38, w39, w40, w41, w42, w43, w44, w45, w46, w47, w48, w49, w50, w51, w52, w53, w54, w55, w56, w57, w58])), (ms, .inl (y 1, 30000, .inl (zf tM 64 f1)))] := hD
      have hw : r75 = ((tW2 (k2 - 15)) <<< ((25 : Int32) &&& 31)) ||| (zu (tW2 (k2 - 15)) ((32 : Int32) - (25 : Int32))) := hw
      subst hw
      refine lv_iload hx hb dX12_secondHash_196 (lv_at hl 1 rfl) ?_
      refine lv_bipush (v := 14) hx hb dX12_secondHash_198 (by decide) ?_
      have hPc := hP.sub (ws' := []) [] rfl
      have hDc := hD.sub (ws' := []) [] (by decide) rfl
      have hFc := va_free (wc := []) hD hS hA [] rfl
      refine va_calli (va_runS (As := [.int (tW2 (k2 - 15)), .int 14]) (rest := [.int (((tW2 (k2 - 15)) <<< ((25 : Int32) &&& 31)) ||| (zu (tW2 (k2 - 15)) ((32 : Int32) - (25 : Int32)))), .int ((tW2 (k2 - 16)) + (tW2 (k2 - 7))), .int (nI k2), .ref wd]) ⟨hx, hb, hml, hown, hts⟩ (c_M_left l D y H.size (tW2 (k2 - 15)) 14) (va_cwS 2 hts gv_c_M_secondHash_c_M_left_119 rfl rfl rfl (by decide +kernel) ⟨(Nat.le_of_ble_eq_true rfl), (Nat.le_of_ble_eq_true rfl)⟩) (zB.preS hPc hDc hK hN hE hO hT hG hS hFc (fun _ h => nomatch h) (fun _ h => nomatch h) (fun _ h => nomatch h) (fun _ h => nomatch h)) rfl rfl hl.1 rfl (lv_room (Nat.le_of_ble_eq_true rfl)) dX12_secondHash_200 ⟨(Nat.le_of_ble_eq_true rfl), (Nat.le_of_ble_eq_true rfl)⟩) hS (fun q _ h => hFc q h) hFc (fun r76 u t H1 locs ht hvm hw hB hz1 hk1 hS => ?_)
      obtain ⟨hP1, hD1⟩ := hB
      rw [ht] at hP1
      obtain ⟨hP, hD⟩ := va_join (wr := [(wd, .inl (y 1, 80, .inl (zf tW2 k2 f2))), (dg, .inl (y 1, 32, .inl f3)), (st, .inl (y 1, 8, .inl (zf tS2 8 f4))), (nw, .inl (y 1, 8, .inl (zf (tR k2) 8 f5))), (h0, .inr (16, [w1, w2, w3, w4, w5, w6, w7, w8, w9, w10, w11, w12, w13, w14, .int (nI 64), .ref ms, .ref dg, .ref wd, .ref st, .ref nw, w15, w16, w17, w18, w19, w20, w21, w22, w23, w24, w25, w26, w27, w28, w29, w30, w31, w32, w33, w34, w35, w36, w37, w38, w39, w40, w41, w42, w43, w44, w45, w46, w47, w48, w49, w50, w51, w52, w53, w54, w55, w56, w57, w58])), (ms, .inl (y 1, 30000, .inl (zf tM 64 f1)))]) (w1 := []) hP hD [] [0, 1, 2, 3, 4, 5] rfl rfl (by decide) (by decide) hk1 hFc hP1 hD1
      generalize H1 = H at hP hS ⊢
      have hP : va_P D vwCl [(wd, .inl (y 1, 80, .inl (zf tW2 k2 f2))), (dg, .inl (y 1, 32, .inl f3)), (st, .inl (y 1, 8, .inl (zf tS2 8 f4))), (nw, .inl (y 1, 8, .inl (zf (tR k2) 8 f5))), (h0, .inr (16, [w1, w2, w3, w4, w5, w6, w7, w8, w9, w10, w11, w12, w13, w14, .int (nI 64), .ref ms, .ref dg, .ref wd, .ref st, .ref nw, w15, w16, w17, w18, w19, w20, w21, w22, w23, w24, w25, w26, w27, w28, w29, w30, w31, w32, w33, w34, w35, w36, w37, w38, w39, w40, w41, w42, w43, w44, w45, w46, w47, w48, w49, w50, w51, w52, w53, w54, w55, w56, w57, w58])), (ms, .inl (y 1, 30000, .inl (zf tM 64 f1)))] H := hP
      have hD : va_D A [(wd, .inl (y 1, 80, .inl (zf tW2 k2 f2))), (dg, .inl (y 1, 32, .inl f3)), (st, .inl (y 1, 8, .inl (zf tS2 8 f4))), (nw, .inl (y 1, 8, .inl (zf (tR k2) 8 f5))), (h0, .inr (16, [w1, w2, w3, w4, w5, w6, w7, w8, w9, w10, w11, w12, w13, w14, .int (nI 64), .ref ms, .ref dg, .ref wd, .ref st, .ref nw, w15, w16, w17, w18, w19, w20, w21, w22, w23, w24, w25, w26, w27, w28, w29, w30, w31, w32, w33, w34, w35, w36, w37, w38, w39, w40, w41, w42, w43, w44, w45, w46, w47, w48, w49, w50, w51, w52, w53, w54, w55, w56, w57, w58])), (ms, .inl (y 1, 30000, .inl (zf tM 64 f1)))] := hD
      have hw : r76 = ((tW2 (k2 - 15)) <<< ((14 : Int32) &&& 31)) ||| (zu (tW2 (k2 - 15)) ((32 : Int32) - (14 : Int32))) := hw
      subst hw
      refine lv_ixor hx hb dX12_secondHash_203 ?_
      refine lv_iload hx hb dX12_secondHash_204 (lv_at hl 1 rfl) ?_
      refine lv_iconst (v := 3) hx hb dX12_secondHash_206 (by decide) ?_
      refine lv_iushr (v := zu (tW2 (k2 - 15)) (3 : Int32)) hx hb dX12_secondHash_207 rfl ?_
      refine lv_ixor hx hb dX12_secondHash_208 ?_
      refine lv_iadd hx hb dX12_secondHash_209 ?_
      refine lv_iload hx hb dX12_secondHash_210 (lv_at hl 0 rfl) ?_
      refine lv_bipush (v := 15) hx hb dX12_secondHash_212 (by decide) ?_
      have hPc := hP.sub (ws' := []) [] rfl
      have hDc := hD.sub (ws' := []) [] (by decide) rfl
      have hFc := va_free (wc := []) hD hS hA [] rfl
      refine va_calli (va_runS (As := [.int (tW2 (k2 - 2)), .int 15]) (rest := [.int (((tW2 (k2 - 16)) + (tW2 (k2 - 7))) + (((((tW2 (k2 - 15)) <<< ((25 : Int32) &&& 31)) ||| (zu (tW2 (k2 - 15)) ((32 : Int32) - (25 : Int32)))) ^^^ (((tW2 (k2 - 15)) <<< ((14 : Int32) &&& 31)) ||| (zu (tW2 (k2 - 15)) ((32 : Int32) - (14 : Int32))))) ^^^ (zu (tW2 (k2 - 15)) (3 : Int32)))), .int (nI k2), .ref wd]) ⟨hx, hb, hml, hown, hts⟩ (c_M_left l D y H.size (tW2 (k2 - 2)) 15) (va_cwS 2 hts gv_c_M_secondHash_c_M_left_119 rfl rfl rfl (by decide +kernel) ⟨(Nat.le_of_ble_eq_true rfl), (Nat.le_of_ble_eq_true rfl)⟩) (zB.preS hPc hDc hK hN hE hO hT hG hS hFc (fun _ h => nomatch h) (fun _ h => nomatch h) (fun _ h => nomatch h) (fun _ h => nomatch h)) rfl rfl hl.1 rfl (lv_room (Nat.le_of_ble_eq_true rfl)) dX12_secondHash_214 ⟨(Nat.le_of_ble_eq_true rfl), (Nat.le_of_ble_eq_true rfl)⟩) hS (fun q _ h => hFc q h) hFc (fun r77 u t H1 locs ht hvm hw hB hz1 hk1 hS => ?_)
      obtain ⟨hP1, hD1⟩ := hB
      rw [ht] at hP1
      obtain ⟨hP, hD⟩ := va_join (wr := [(wd, .inl (y 1, 80, .inl (zf tW2 k2 f2))), (dg, .inl (y 1, 32, .inl f3)), (st, .inl (y 1, 8, .inl (zf tS2 8 f4))), (nw, .inl (y 1, 8, .inl (zf (tR k2) 8 f5))), (h0, .inr (16, [w1, w2, w3, w4, w5, w6, w7, w8, w9, w10, w11, w12, w13, w14, .int (nI 64), .ref ms, .ref dg, .ref wd, .ref st, .ref nw, w15, w16, w17, w18, w19, w20, w21, w22, w23, w24, w25, w26, w27, w28, w29, w30, w31, w32, w33, w34, w35, w36, w37, w38, w39, w40, w41, w42, w43, w44, w45, w46, w47, w48, w49, w50, w51, w52, w53, w54, w55, w56, w57, w58])), (ms, .inl (y 1, 30000, .inl (zf tM 64 f1)))]) (w1 := []) hP hD [] [0, 1, 2, 3, 4, 5] rfl rfl (by decide) (by decide) hk1 hFc hP1 hD1
      generalize H1 = H at hP hS ⊢
      have hP : va_P D vwCl [(wd, .inl (y 1, 80, .inl (zf tW2 k2 f2))), (dg, .inl (y 1, 32, .inl f3)), (st, .inl (y 1, 8, .inl (zf tS2 8 f4))), (nw, .inl (y 1, 8, .inl (zf (tR k2) 8 f5))), (h0, .inr (16, [w1, w2, w3, w4, w5, w6, w7, w8, w9, w10, w11, w12, w13, w14, .int (nI 64), .ref ms, .ref dg, .ref wd, .ref st, .ref nw, w15, w16, w17, w18, w19, w20, w21, w22, w23, w24, w25, w26, w27, w28, w29, w30, w31, w32, w33, w34, w35, w36, w37, w38, w39, w40, w41, w42, w43, w44, w45, w46, w47, w48, w49, w50, w51, w52, w53, w54, w55, w56, w57, w58])), (ms, .inl (y 1, 30000, .inl (zf tM 64 f1)))] H := hP
      have hD : va_D A [(wd, .inl (y 1, 80, .inl (zf tW2 k2 f2))), (dg, .inl (y 1, 32, .inl f3)), (st, .inl (y 1, 8, .inl (zf tS2 8 f4))), (nw, .inl (y 1, 8, .inl (zf (tR k2) 8 f5))), (h0, .inr (16, [w1, w2, w3, w4, w5, w6, w7, w8, w9, w10, w11, w12, w13, w14, .int (nI 64), .ref ms, .ref dg, .ref wd, .ref st, .ref nw, w15, w16, w17, w18, w19, w20, w21, w22, w23, w24, w25, w26, w27, w28, w29, w30, w31, w32, w33, w34, w35, w36, w37, w38, w39, w40, w41, w42, w43, w44, w45, w46, w47, w48, w49, w50, w51, w52, w53, w54, w55, w56, w57, w58])), (ms, .inl (y 1, 30000, .inl (zf tM 64 f1)))] := hD
      have hw : r77 = ((tW2 (k2 - 2)) <<< ((15 : Int32) &&& 31)) ||| (zu (tW2 (k2 - 2)) ((32 : Int32) - (15 : Int32))) := hw
      subst hw
      refine lv_iload hx hb dX12_secondHash_217 (lv_at hl 0 rfl) ?_
      refine lv_bipush (v := 13) hx hb dX12_secondHash_219 (by decide) ?_
      have hPc := hP.sub (ws' := []) [] rfl
      have hDc := hD.sub (ws' := []) [] (by decide) rfl
      have hFc := va_free (wc := []) hD hS hA [] rfl
      refine va_calli (va_runS (As := [.int (tW2 (k2 - 2)), .int 13]) (rest := [.int (((tW2 (k2 - 2)) <<< ((15 : Int32) &&& 31)) ||| (zu (tW2 (k2 - 2)) ((32 : Int32) - (15 : Int32)))), .int (((tW2 (k2 - 16)) + (tW2 (k2 - 7))) + (((((tW2 (k2 - 15)) <<< ((25 : Int32) &&& 31)) ||| (zu (tW2 (k2 - 15)) ((32 : Int32) - (25 : Int32)))) ^^^ (((tW2 (k2 - 15)) <<< ((14 : Int32) &&& 31)) ||| (zu (tW2 (k2 - 15)) ((32 : Int32) - (14 : Int32))))) ^^^ (zu (tW2 (k2 - 15)) (3 : Int32)))), .int (nI k2), .ref wd]) ⟨hx, hb, hml, hown, hts⟩ (c_M_left l D y H.size (tW2 (k2 - 2)) 13) (va_cwS 2 hts gv_c_M_secondHash_c_M_left_119 rfl rfl rfl (by decide +kernel) ⟨(Nat.le_of_ble_eq_true rfl), (Nat.le_of_ble_eq_true rfl)⟩) (zB.preS hPc hDc hK hN hE hO hT hG hS hFc (fun _ h => nomatch h) (fun _ h => nomatch h) (fun _ h => nomatch h) (fun _ h => nomatch h)) rfl rfl hl.1 rfl (lv_room (Nat.le_of_ble_eq_true rfl)) dX12_secondHash_221 ⟨(Nat.le_of_ble_eq_true rfl), (Nat.le_of_ble_eq_true rfl)⟩) hS (fun q _ h => hFc q h) hFc (fun r78 u t H1 locs ht hvm hw hB hz1 hk1 hS => ?_)
      obtain ⟨hP1, hD1⟩ := hB
      rw [ht] at hP1
      obtain ⟨hP, hD⟩ := va_join (wr := [(wd, .inl (y 1, 80, .inl (zf tW2 k2 f2))), (dg, .inl (y 1, 32, .inl f3)), (st, .inl (y 1, 8, .inl (zf tS2 8 f4))), (nw, .inl (y 1, 8, .inl (zf (tR k2) 8 f5))), (h0, .inr (16, [w1, w2, w3, w4, w5, w6, w7, w8, w9, w10, w11, w12, w13, w14, .int (nI 64), .ref ms, .ref dg, .ref wd, .ref st, .ref nw, w15, w16, w17, w18, w19, w20, w21, w22, w23, w24, w25, w26, w27, w28, w29, w30, w31, w32, w33, w34, w35, w36, w37, w38, w39, w40, w41, w42, w43, w44, w45, w46, w47, w48, w49, w50, w51, w52, w53, w54, w55, w56, w57, w58])), (ms, .inl (y 1, 30000, .inl (zf tM 64 f1)))]) (w1 := []) hP hD [] [0, 1, 2, 3, 4, 5] rfl rfl (by decide) (by decide) hk1 hFc hP1 hD1
      generalize H1 = H at hP hS ⊢
      have hP : va_P D vwCl [(wd, .inl (y 1, 80, .inl (zf tW2 k2 f2))), (dg, .inl (y 1, 32, .inl f3)), (st, .inl (y 1, 8, .inl (zf tS2 8 f4))), (nw, .inl (y 1, 8, .inl (zf (tR k2) 8 f5))), (h0, .inr (16, [w1, w2, w3, w4, w5, w6, w7, w8, w9, w10, w11, w12, w13, w14, .int (nI 64), .ref ms, .ref dg, .ref wd, .ref st, .ref nw, w15, w16, w17, w18, w19, w20, w21, w22, w23, w24, w25, w26, w27, w28, w29, w30, w31, w32, w33, w34, w35, w36, w37, w38, w39, w40, w41, w42, w43, w44, w45, w46, w47, w48, w49, w50, w51, w52, w53, w54, w55, w56, w57, w58])), (ms, .inl (y 1, 30000, .inl (zf tM 64 f1)))] H := hP
      have hD : va_D A [(wd, .inl (y 1, 80, .inl (zf tW2 k2 f2))), (dg, .inl (y 1, 32, .inl f3)), (st, .inl (y 1, 8, .inl (zf tS2 8 f4))), (nw, .inl (y 1, 8, .inl (zf (tR k2) 8 f5))), (h0, .inr (16, [w1, w2, w3, w4, w5, w6, w7, w8, w9, w10, w11, w12, w13, w14, .int (nI 64), .ref ms, .ref dg, .ref wd, .ref st, .ref nw, w15, w16, w17, w18, w19, w20, w21, w22, w23, w24, w25, w26, w27, w28, w29, w30, w31, w32, w33, w34, w35, w36, w37, w38, w39, w40, w41, w42, w43, w44, w45, w46, w47, w48, w49, w50, w51, w52, w53, w54, w55, w56, w57, w58])), (ms, .inl (y 1, 30000, .inl (zf tM 64 f1)))] := hD
      have hw : r78 = ((tW2 (k2 - 2)) <<< ((13 : Int32) &&& 31)) ||| (zu (tW2 (k2 - 2)) ((32 : Int32) - (13 : Int32))) := hw
      subst hw
      refine lv_ixor hx hb dX12_secondHash_224 ?_
      refine lv_iload hx hb dX12_secondHash_225 (lv_at hl 0 rfl) ?_
      refine lv_bipush (v := 10) hx hb dX12_secondHash_227 (by decide) ?_
      refine lv_iushr (v := zu (tW2 (k2 - 2)) (10 : Int32)) hx hb dX12_secondHash_229 rfl ?_
      refine lv_ixor hx hb dX12_secondHash_230 ?_
      refine lv_iadd hx hb dX12_secondHash_231 ?_
      refine va_iast hx hb hK hP hD hS 0 1 rfl rfl (vp_in_nI (by omega) (by decide)) dX12_secondHash_232 (fun H locs hP hD hS => ?_)
      have hP : va_P D vwCl [(wd, .inl (y 1, 80, .inl (upd (zf tW2 k2 f2) (nI k2).toNatClampNeg ((((tW2 (k2 - 16)) + (tW2 (k2 - 7))) + (((((tW2 (k2 - 15)) <<< ((25 : Int32) &&& 31)) ||| (zu (tW2 (k2 - 15)) ((32 : Int32) - (25 : Int32)))) ^^^ (((tW2 (k2 - 15)) <<< ((14 : Int32) &&& 31)) ||| (zu (tW2 (k2 - 15)) ((32 : Int32) - (14 : Int32))))) ^^^ (zu (tW2 (k2 - 15)) (3 : Int32)))) + (((((tW2 (k2 - 2)) <<< ((15 : Int32) &&& 31)) ||| (zu (tW2 (k2 - 2)) ((32 : Int32) - (15 : Int32)))) ^^^ (((tW2 (k2 - 2)) <<< ((13 : Int32) &&& 31)) ||| (zu (tW2 (k2 - 2)) ((32 : Int32) - (13 : Int32))))) ^^^ (zu (tW2 (k2 - 2)) (10 : Int32))))))), (dg, .inl (y 1, 32, .inl f3)), (st, .inl (y 1, 8, .inl (zf tS2 8 f4))), (nw, .inl (y 1, 8, .inl (zf (tR k2) 8 f5))), (h0, .inr (16, [w1, w2, w3, w4, w5, w6, w7, w8, w9, w10, w11, w12, w13, w14, .int (nI 64), .ref ms, .ref dg, .ref wd, .ref st, .ref nw, w15, w16, w17, w18, w19, w20, w21, w22, w23, w24, w25, w26, w27, w28, w29, w30, w31, w32, w33, w34, w35, w36, w37, w38, w39, w40, w41, w42, w43, w44, w45, w46, w47, w48, w49, w50, w51, w52, w53, w54, w55, w56, w57, w58])), (ms, .inl (y 1, 30000, .inl (zf tM 64 f1)))] H := hP
      have hD : va_D A [(wd, .inl (y 1, 80, .inl (upd (zf tW2 k2 f2) (nI k2).toNatClampNeg ((((tW2 (k2 - 16)) + (tW2 (k2 - 7))) + (((((tW2 (k2 - 15)) <<< ((25 : Int32) &&& 31)) ||| (zu (tW2 (k2 - 15)) ((32 : Int32) - (25 : Int32)))) ^^^ (((tW2 (k2 - 15)) <<< ((14 : Int32) &&& 31)) ||| (zu (tW2 (k2 - 15)) ((32 : Int32) - (14 : Int32))))) ^^^ (zu (tW2 (k2 - 15)) (3 : Int32)))) + (((((tW2 (k2 - 2)) <<< ((15 : Int32) &&& 31)) ||| (zu (tW2 (k2 - 2)) ((32 : Int32) - (15 : Int32)))) ^^^ (((tW2 (k2 - 2)) <<< ((13 : Int32) &&& 31)) ||| (zu (tW2 (k2 - 2)) ((32 : Int32) - (13 : Int32))))) ^^^ (zu (tW2 (k2 - 2)) (10 : Int32))))))), (dg, .inl (y 1, 32, .inl f3)), (st, .inl (y 1, 8, .inl (zf tS2 8 f4))), (nw, .inl (y 1, 8, .inl (zf (tR k2) 8 f5))), (h0, .inr (16, [w1, w2, w3, w4, w5, w6, w7, w8, w9, w10, w11, w12, w13, w14, .int (nI 64), .ref ms, .ref dg, .ref wd, .ref st, .ref nw, w15, w16, w17, w18, w19, w20, w21, w22, w23, w24, w25, w26, w27, w28, w29, w30, w31, w32, w33, w34, w35, w36, w37, w38, w39, w40, w41, w42, w43, w44, w45, w46, w47, w48, w49, w50, w51, w52, w53, w54, w55, w56, w57, w58])), (ms, .inl (y 1, 30000, .inl (zf tM 64 f1)))] := hD
      have u79 : upd (zf tW2 k2 f2) (nI k2).toNatClampNeg ((((tW2 (k2 - 16)) + (tW2 (k2 - 7))) + (((((tW2 (k2 - 15)) <<< ((25 : Int32) &&& 31)) ||| (zu (tW2 (k2 - 15)) ((32 : Int32) - (25 : Int32)))) ^^^ (((tW2 (k2 - 15)) <<< ((14 : Int32) &&& 31)) ||| (zu (tW2 (k2 - 15)) ((32 : Int32) - (14 : Int32))))) ^^^ (zu (tW2 (k2 - 15)) (3 : Int32)))) + (((((tW2 (k2 - 2)) <<< ((15 : Int32) &&& 31)) ||| (zu (tW2 (k2 - 2)) ((32 : Int32) - (15 : Int32)))) ^^^ (((tW2 (k2 - 2)) <<< ((13 : Int32) &&& 31)) ||| (zu (tW2 (k2 - 2)) ((32 : Int32) - (13 : Int32))))) ^^^ (zu (tW2 (k2 - 2)) (10 : Int32)))) = zf tW2 (k2 + 1) f2 := (zf_st (n := k2) (by omega) (ax_c_M_secondHash_30 k2 hk21 hk20))
      rw [u79] at hP hD
      have hP : va_P D vwCl [(wd, .inl (y 1, 80, .inl (zf tW2 (k2 + 1) f2))), (dg, .inl (y 1, 32, .inl f3)), (st, .inl (y 1, 8, .inl (zf tS2 8 f4))), (nw, .inl (y 1, 8, .inl (zf (tR k2) 8 f5))), (h0, .inr (16, [w1, w2, w3, w4, w5, w6, w7, w8, w9, w10, w11, w12, w13, w14, .int (nI 64), .ref ms, .ref dg, .ref wd, .ref st, .ref nw, w15, w16, w17, w18, w19, w20, w21, w22, w23, w24, w25, w26, w27, w28, w29, w30, w31, w32, w33, w34, w35, w36, w37, w38, w39, w40, w41, w42, w43, w44, w45, w46, w47, w48, w49, w50, w51, w52, w53, w54, w55, w56, w57, w58])), (ms, .inl (y 1, 30000, .inl (zf tM 64 f1)))] H := hP
      have hD : va_D A [(wd, .inl (y 1, 80, .inl (zf tW2 (k2 + 1) f2))), (dg, .inl (y 1, 32, .inl f3)), (st, .inl (y 1, 8, .inl (zf tS2 8 f4))), (nw, .inl (y 1, 8, .inl (zf (tR k2) 8 f5))), (h0, .inr (16, [w1, w2, w3, w4, w5, w6, w7, w8, w9, w10, w11, w12, w13, w14, .int (nI 64), .ref ms, .ref dg, .ref wd, .ref st, .ref nw, w15, w16, w17, w18, w19, w20, w21, w22, w23, w24, w25, w26, w27, w28, w29, w30, w31, w32, w33, w34, w35, w36, w37, w38, w39, w40, w41, w42, w43, w44, w45, w46, w47, w48, w49, w50, w51, w52, w53, w54, w55, w56, w57, w58])), (ms, .inl (y 1, 30000, .inl (zf tM 64 f1)))] := hD
      refine lv_bipush (v := 64) hx hb dX12_secondHash_233 (by decide) ?_
      refine lv_iload_n hx hb dX12_secondHash_235 rfl (lv_at hl 2 rfl) ?_
      refine lv_isub hx hb dX12_secondHash_236 ?_
      refine lv_topi (fun v80 ev80 => ?_)
      have ev80 : v80 = nI (64 - k2) := ev80.trans (ax_c_M_secondHash_31 k2 hk21 hk20)
      subst ev80
      refine lv_bipush (v := 7) hx hb dX12_secondHash_237 (by decide) ?_
      refine lv_iand hx hb dX12_secondHash_239 ?_
      refine lv_topi (fun v81 ev81 => ?_)
      have ev81 : v81 = nI ((64 - k2) % 8) := ev81.trans (ax_c_M_secondHash_32 k2 hk21 hk20)
      subst ev81
      refine lv_istore (lv' := [(4, .int (nI ((64 - k2) % 8))), (5, .int (tW2 (k2 - 2))), (3, .int (nI k2)), (2, .int 0), (1, .int 1), (0, .ref h0)]) hx hb dX12_secondHash_240 hl (by decide) rfl (fun ls hl => ?_)
      refine lv_aload_n hx hb dX12_secondHash_242 rfl (lv_at hl 5 rfl) ?_
      refine va_get (D := D) (ci := 16) (v := .ref nw) (C := RX12) (T := TX12) (N := 64) hx hb hts (by decide +kernel) hown hK hP 4 rfl rfl 19 (by decide) (hts (.fieldLink RX12 52 "SignetRingModel" "now" "[I") (by decide +kernel)) (fun _ h9 => h9) rfl dX12_secondHash_243 ?_
      refine lv_iload hx hb dX12_secondHash_246 (lv_at hl 0 rfl) ?_
      refine lv_iconst (v := 4) hx hb dX12_secondHash_248 (by decide) ?_
      refine lv_iadd hx hb dX12_secondHash_249 ?_
      refine lv_topi (fun v82 ev82 => ?_)
      have ev82 : v82 = nI (((64 - k2) % 8) + 4) := ev82.trans (ax_c_M_secondHash_33 k2 hk21 hk20)
      subst ev82
      refine lv_bipush (v := 7) hx hb dX12_secondHash_250 (by decide) ?_
      refine lv_iand hx hb dX12_secondHash_252 ?_
      refine lv_topi (fun v83 ev83 => ?_)
      have ev83 : v83 = nI ((((64 - k2) % 8) + 4) % 8) := ev83.trans (ax_c_M_secondHash_34 k2 hk21 hk20)
      subst ev83
      refine va_iald hx hb hK hP 3 1 rfl rfl (vp_in_nI (by omega) (by decide)) dX12_secondHash_253 ?_
      refine lv_topi (fun v84 ev84 => ?_)
      have ev84 : v84 = (tR k2) ((((64 - k2) % 8) + 4) % 8) := ev84.trans (zf_rd (j := ((((64 - k2) % 8) + 4) % 8)) (by omega) (by omega))
      subst ev84
      refine lv_istore (lv' := [(5, .int ((tR k2) ((((64 - k2) % 8) + 4) % 8))), (4, .int (nI ((64 - k2) % 8))), (3, .int (nI k2)), (2, .int 0), (1, .int 1), (0, .ref h0)]) hx hb dX12_secondHash_254 hl (by decide) rfl (fun ls hl => ?_)
      refine lv_aload_n hx hb dX12_secondHash_256 rfl (lv_at hl 5 rfl) ?_
      refine va_get (D := D) (ci := 16) (v := .ref nw) (C := RX12) (T := TX12) (N := 64) hx hb hts (by decide +kernel) hown hK hP 4 rfl rfl 19 (by decide) (hts (.fieldLink RX12 52 "SignetRingModel" "now" "[I") (by decide +kernel)) (fun _ h9 => h9) rfl dX12_secondHash_257 ?_
      refine lv_iload hx hb dX12_secondHash_260 (lv_at hl 1 rfl) ?_
      refine lv_iconst (v := 5) hx hb dX12_secondHash_262 (by decide) ?_
      refine lv_iadd hx hb dX12_secondHash_263 ?_
      refine lv_topi (fun v85 ev85 => ?_)
      have ev85 : v85 = nI (((64 - k2) % 8) + 5) := ev85.trans (ax_c_M_secondHash_35 k2 hk21 hk20)
      subst ev85
      refine lv_bipush (v := 7) hx hb dX12_secondHash_264 (by decide) ?_
      refine lv_iand hx hb dX12_secondHash_266 ?_
      refine lv_topi (fun v86 ev86 => ?_)
      have ev86 : v86 = nI ((((64 - k2) % 8) + 5) % 8) := ev86.trans (ax_c_M_secondHash_36 k2 hk21 hk20)
      subst ev86
      refine va_iald hx hb hK hP 3 1 rfl rfl (vp_in_nI (by omega) (by decide)) dX12_secondHash_267 ?_
      refine lv_topi (fun v87 ev87 => ?_)
      have ev87 : v87 = (tR k2) ((((64 - k2) % 8) + 5) % 8) := ev87.trans (zf_rd (j := ((((64 - k2) % 8) + 5) % 8)) (by omega) (by omega))
      subst ev87
      refine lv_istore (lv' := [(6, .int ((tR k2) ((((64 - k2) % 8) + 5) % 8))), (5, .int ((tR k2) ((((64 - k2) % 8) + 4) % 8))), (4, .int (nI ((64 - k2) % 8))), (3, .int (nI k2)), (2, .int 0), (1, .int 1), (0, .ref h0)]) hx hb dX12_secondHash_268 hl (by decide) rfl (fun ls hl => ?_)
      refine lv_aload_n hx hb dX12_secondHash_270 rfl (lv_at hl 6 rfl) ?_
      refine va_get (D := D) (ci := 16) (v := .ref nw) (C := RX12) (T := TX12) (N := 64) hx hb hts (by decide +kernel) hown hK hP 4 rfl rfl 19 (by decide) (hts (.fieldLink RX12 52 "SignetRingModel" "now" "[I") (by decide +kernel)) (fun _ h9 => h9) rfl dX12_secondHash_271 ?_
      refine lv_iload hx hb dX12_secondHash_274 (lv_at hl 2 rfl) ?_
      refine lv_bipush (v := 6) hx hb dX12_secondHash_276 (by decide) ?_
      refine lv_iadd hx hb dX12_secondHash_278 ?_
      refine lv_topi (fun v88 ev88 => ?_)
      have ev88 : v88 = nI (((64 - k2) % 8) + 6) := ev88.trans (ax_c_M_secondHash_37 k2 hk21 hk20)
      subst ev88
      refine lv_bipush (v := 7) hx hb dX12_secondHash_279 (by decide) ?_
      refine lv_iand hx hb dX12_secondHash_281 ?_
      refine lv_topi (fun v89 ev89 => ?_)
      have ev89 : v89 = nI ((((64 - k2) % 8) + 6) % 8) := ev89.trans (ax_c_M_secondHash_38 k2 hk21 hk20)
      subst ev89
      refine va_iald hx hb hK hP 3 1 rfl rfl (vp_in_nI (by omega) (by decide)) dX12_secondHash_282 ?_
      refine lv_topi (fun v90 ev90 => ?_)
      have ev90 : v90 = (tR k2) ((((64 - k2) % 8) + 6) % 8) := ev90.trans (zf_rd (j := ((((64 - k2) % 8) + 6) % 8)) (by omega) (by omega))
      subst ev90
      refine lv_istore (lv' := [(7, .int ((tR k2) ((((64 - k2) % 8) + 6) % 8))), (6, .int ((tR k2) ((((64 - k2) % 8) + 5) % 8))), (5, .int ((tR k2) ((((64 - k2) % 8) + 4) % 8))), (4, .int (nI ((64 - k2) % 8))), (3, .int (nI k2)), (2, .int 0), (1, .int 1), (0, .ref h0)]) hx hb dX12_secondHash_283 hl (by decide) rfl (fun ls hl => ?_)
      refine lv_aload_n hx hb dX12_secondHash_285 rfl (lv_at hl 7 rfl) ?_
      refine va_get (D := D) (ci := 16) (v := .ref nw) (C := RX12) (T := TX12) (N := 64) hx hb hts (by decide +kernel) hown hK hP 4 rfl rfl 19 (by decide) (hts (.fieldLink RX12 52 "SignetRingModel" "now" "[I") (by decide +kernel)) (fun _ h9 => h9) rfl dX12_secondHash_286 ?_
      refine lv_iload hx hb dX12_secondHash_289 (lv_at hl 3 rfl) ?_
      refine lv_bipush (v := 7) hx hb dX12_secondHash_291 (by decide) ?_
      refine lv_iadd hx hb dX12_secondHash_293 ?_
      refine lv_topi (fun v91 ev91 => ?_)
      have ev91 : v91 = nI (((64 - k2) % 8) + 7) := ev91.trans (ax_c_M_secondHash_39 k2 hk21 hk20)
      subst ev91
      refine lv_bipush (v := 7) hx hb dX12_secondHash_294 (by decide) ?_
      refine lv_iand hx hb dX12_secondHash_296 ?_
      refine lv_topi (fun v92 ev92 => ?_)
      have ev92 : v92 = nI ((((64 - k2) % 8) + 7) % 8) := ev92.trans (ax_c_M_secondHash_40 k2 hk21 hk20)
      subst ev92
      refine va_iald hx hb hK hP 3 1 rfl rfl (vp_in_nI (by omega) (by decide)) dX12_secondHash_297 ?_
      refine lv_topi (fun v93 ev93 => ?_)
      have ev93 : v93 = (tR k2) ((((64 - k2) % 8) + 7) % 8) := ev93.trans (zf_rd (j := ((((64 - k2) % 8) + 7) % 8)) (by omega) (by omega))
      subst ev93
      refine lv_iload hx hb dX12_secondHash_298 (lv_at hl 2 rfl) ?_
      refine lv_bipush (v := 26) hx hb dX12_secondHash_300 (by decide) ?_
      have hPc := hP.sub (ws' := []) [] rfl
      have hDc := hD.sub (ws' := []) [] (by decide) rfl
      have hFc := va_free (wc := []) hD hS hA [] rfl
      refine va_calli (va_runS (As := [.int ((tR k2) ((((64 - k2) % 8) + 4) % 8)), .int 26]) (rest := [.int ((tR k2) ((((64 - k2) % 8) + 7) % 8))]) ⟨hx, hb, hml, hown, hts⟩ (c_M_left l D y H.size ((tR k2) ((((64 - k2) % 8) + 4) % 8)) 26) (va_cwS 2 hts gv_c_M_secondHash_c_M_left_119 rfl rfl rfl (by decide +kernel) ⟨(Nat.le_of_ble_eq_true rfl), (Nat.le_of_ble_eq_true rfl)⟩) (zB.preS hPc hDc hK hN hE hO hT hG hS hFc (fun _ h => nomatch h) (fun _ h => nomatch h) (fun _ h => nomatch h) (fun _ h => nomatch h)) rfl rfl hl.1 rfl (lv_room (Nat.le_of_ble_eq_true rfl)) dX12_secondHash_302 ⟨(Nat.le_of_ble_eq_true rfl), (Nat.le_of_ble_eq_true rfl)⟩) hS (fun q _ h => hFc q h) hFc (fun r94 u t H1 locs ht hvm hw hB hz1 hk1 hS => ?_)
      obtain ⟨hP1, hD1⟩ := hB
      rw [ht] at hP1
      obtain ⟨hP, hD⟩ := va_join (wr := [(wd, .inl (y 1, 80, .inl (zf tW2 (k2 + 1) f2))), (dg, .inl (y 1, 32, .inl f3)), (st, .inl (y 1, 8, .inl (zf tS2 8 f4))), (nw, .inl (y 1, 8, .inl (zf (tR k2) 8 f5))), (h0, .inr (16, [w1, w2, w3, w4, w5, w6, w7, w8, w9, w10, w11, w12, w13, w14, .int (nI 64), .ref ms, .ref dg, .ref wd, .ref st, .ref nw, w15, w16, w17, w18, w19, w20, w21, w22, w23, w24, w25, w26, w27, w28, w29, w30, w31, w32, w33, w34, w35, w36, w37, w38, w39, w40, w41, w42, w43, w44, w45, w46, w47, w48, w49, w50, w51, w52, w53, w54, w55, w56, w57, w58])), (ms, .inl (y 1, 30000, .inl (zf tM 64 f1)))]) (w1 := []) hP hD [] [0, 1, 2, 3, 4, 5] rfl rfl (by decide) (by decide) hk1 hFc hP1 hD1
      generalize H1 = H at hP hS ⊢
      have hP : va_P D vwCl [(wd, .inl (y 1, 80, .inl (zf tW2 (k2 + 1) f2))), (dg, .inl (y 1, 32, .inl f3)), (st, .inl (y 1, 8, .inl (zf tS2 8 f4))), (nw, .inl (y 1, 8, .inl (zf (tR k2) 8 f5))), (h0, .inr (16, [w1, w2, w3, w4, w5, w6, w7, w8, w9, w10, w11, w12, w13, w14, .int (nI 64), .ref ms, .ref dg, .ref wd, .ref st, .ref nw, w15, w16, w17, w18, w19, w20, w21, w22, w23, w24, w25, w26, w27, w28, w29, w30, w31, w32, w33, w34, w35, w36, w37, w38, w39, w40, w41, w42, w43, w44, w45, w46, w47, w48, w49, w50, w51, w52, w53, w54, w55, w56, w57, w58])), (ms, .inl (y 1, 30000, .inl (zf tM 64 f1)))] H := hP
      have hD : va_D A [(wd, .inl (y 1, 80, .inl (zf tW2 (k2 + 1) f2))), (dg, .inl (y 1, 32, .inl f3)), (st, .inl (y 1, 8, .inl (zf tS2 8 f4))), (nw, .inl (y 1, 8, .inl (zf (tR k2) 8 f5))), (h0, .inr (16, [w1, w2, w3, w4, w5, w6, w7, w8, w9, w10, w11, w12, w13, w14, .int (nI 64), .ref ms, .ref dg, .ref wd, .ref st, .ref nw, w15, w16, w17, w18, w19, w20, w21, w22, w23, w24, w25, w26, w27, w28, w29, w30, w31, w32, w33, w34, w35, w36, w37, w38, w39, w40, w41, w42, w43, w44, w45, w46, w47, w48, w49, w50, w51, w52, w53, w54, w55, w56, w57, w58])), (ms, .inl (y 1, 30000, .inl (zf tM 64 f1)))] := hD
      have hw : r94 = (((tR k2) ((((64 - k2) % 8) + 4) % 8)) <<< ((26 : Int32) &&& 31)) ||| (zu ((tR k2) ((((64 - k2) % 8) + 4) % 8)) ((32 : Int32) - (26 : Int32))) := hw
      subst hw
      refine lv_iload hx hb dX12_secondHash_305 (lv_at hl 2 rfl) ?_
      refine lv_bipush (v := 21) hx hb dX12_secondHash_307 (by decide) ?_
      have hPc := hP.sub (ws' := []) [] rfl
      have hDc := hD.sub (ws' := []) [] (by decide) rfl
      have hFc := va_free (wc := []) hD hS hA [] rfl
      refine va_calli (va_runS (As := [.int ((tR k2) ((((64 - k2) % 8) + 4) % 8)), .int 21]) (rest := [.int ((((tR k2) ((((64 - k2) % 8) + 4) % 8)) <<< ((26 : Int32) &&& 31)) ||| (zu ((tR k2) ((((64 - k2) % 8) + 4) % 8)) ((32 : Int32) - (26 : Int32)))), .int ((tR k2) ((((64 - k2) % 8) + 7) % 8))]) ⟨hx, hb, hml, hown, hts⟩ (c_M_left l D y H.size ((tR k2) ((((64 - k2) % 8) + 4) % 8)) 21) (va_cwS 2 hts gv_c_M_secondHash_c_M_left_119 rfl rfl rfl (by decide +kernel) ⟨(Nat.le_of_ble_eq_true rfl), (Nat.le_of_ble_eq_true rfl)⟩) (zB.preS hPc hDc hK hN hE hO hT hG hS hFc (fun _ h => nomatch h) (fun _ h => nomatch h) (fun _ h => nomatch h) (fun _ h => nomatch h)) rfl rfl hl.1 rfl (lv_room (Nat.le_of_ble_eq_true rfl)) dX12_secondHash_309 ⟨(Nat.le_of_ble_eq_true rfl), (Nat.le_of_ble_eq_true rfl)⟩) hS (fun q _ h => hFc q h) hFc (fun r95 u t H1 locs ht hvm hw hB hz1 hk1 hS => ?_)
      obtain ⟨hP1, hD1⟩ := hB
      rw [ht] at hP1
      obtain ⟨hP, hD⟩ := va_join (wr := [(wd, .inl (y 1, 80, .inl (zf tW2 (k2 + 1) f2))), (dg, .inl (y 1, 32, .inl f3)), (st, .inl (y 1, 8, .inl (zf tS2 8 f4))), (nw, .inl (y 1, 8, .inl (zf (tR k2) 8 f5))), (h0, .inr (16, [w1, w2, w3, w4, w5, w6, w7, w8, w9, w10, w11, w12, w13, w14, .int (nI 64), .ref ms, .ref dg, .ref wd, .ref st, .ref nw, w15, w16, w17, w18, w19, w20, w21, w22, w23, w24, w25, w26, w27, w28, w29, w30, w31, w32, w33, w34, w35, w36, w37, w38, w39, w40, w41, w42, w43, w44, w45, w46, w47, w48, w49, w50, w51, w52, w53, w54, w55, w56, w57, w58])), (ms, .inl (y 1, 30000, .inl (zf tM 64 f1)))]) (w1 := []) hP hD [] [0, 1, 2, 3, 4, 5] rfl rfl (by decide) (by decide) hk1 hFc hP1 hD1
      generalize H1 = H at hP hS ⊢
      have hP : va_P D vwCl [(wd, .inl (y 1, 80, .inl (zf tW2 (k2 + 1) f2))), (dg, .inl (y 1, 32, .inl f3)), (st, .inl (y 1, 8, .inl (zf tS2 8 f4))), (nw, .inl (y 1, 8, .inl (zf (tR k2) 8 f5))), (h0, .inr (16, [w1, w2, w3, w4, w5, w6, w7, w8, w9, w10, w11, w12, w13, w14, .int (nI 64), .ref ms, .ref dg, .ref wd, .ref st, .ref nw, w15, w16, w17, w18, w19, w20, w21, w22, w23, w24, w25, w26, w27, w28, w29, w30, w31, w32, w33, w34, w35, w36, w37, w38, w39, w40, w41, w42, w43, w44, w45, w46, w47, w48, w49, w50, w51, w52, w53, w54, w55, w56, w57, w58])), (ms, .inl (y 1, 30000, .inl (zf tM 64 f1)))] H := hP
      have hD : va_D A [(wd, .inl (y 1, 80, .inl (zf tW2 (k2 + 1) f2))), (dg, .inl (y 1, 32, .inl f3)), (st, .inl (y 1, 8, .inl (zf tS2 8 f4))), (nw, .inl (y 1, 8, .inl (zf (tR k2) 8 f5))), (h0, .inr (16, [w1, w2, w3, w4, w5, w6, w7, w8, w9, w10, w11, w12, w13, w14, .int (nI 64), .ref ms, .ref dg, .ref wd, .ref st, .ref nw, w15, w16, w17, w18, w19, w20, w21, w22, w23, w24, w25, w26, w27, w28, w29, w30, w31, w32, w33, w34, w35, w36, w37, w38, w39, w40, w41, w42, w43, w44, w45, w46, w47, w48, w49, w50, w51, w52, w53, w54, w55, w56, w57, w58])), (ms, .inl (y 1, 30000, .inl (zf tM 64 f1)))] := hD
      have hw : r95 = (((tR k2) ((((64 - k2) % 8) + 4) % 8)) <<< ((21 : Int32) &&& 31)) ||| (zu ((tR k2) ((((64 - k2) % 8) + 4) % 8)) ((32 : Int32) - (21 : Int32))) := hw
      subst hw
      refine lv_ixor hx hb dX12_secondHash_312 ?_
      refine lv_iload hx hb dX12_secondHash_313 (lv_at hl 2 rfl) ?_
      refine lv_bipush (v := 7) hx hb dX12_secondHash_315 (by decide) ?_
      have hPc := hP.sub (ws' := []) [] rfl
      have hDc := hD.sub (ws' := []) [] (by decide) rfl
      have hFc := va_free (wc := []) hD hS hA [] rfl
      refine va_calli (va_runS (As := [.int ((tR k2) ((((64 - k2) % 8) + 4) % 8)), .int 7]) (rest := [.int (((((tR k2) ((((64 - k2) % 8) + 4) % 8)) <<< ((26 : Int32) &&& 31)) ||| (zu ((tR k2) ((((64 - k2) % 8) + 4) % 8)) ((32 : Int32) - (26 : Int32)))) ^^^ ((((tR k2) ((((64 - k2) % 8) + 4) % 8)) <<< ((21 : Int32) &&& 31)) ||| (zu ((tR k2) ((((64 - k2) % 8) + 4) % 8)) ((32 : Int32) - (21 : Int32))))), .int ((tR k2) ((((64 - k2) % 8) + 7) % 8))]) ⟨hx, hb, hml, hown, hts⟩ (c_M_left l D y H.size ((tR k2) ((((64 - k2) % 8) + 4) % 8)) 7) (va_cwS 2 hts gv_c_M_secondHash_c_M_left_119 rfl rfl rfl (by decide +kernel) ⟨(Nat.le_of_ble_eq_true rfl), (Nat.le_of_ble_eq_true rfl)⟩) (zB.preS hPc hDc hK hN hE hO hT hG hS hFc (fun _ h => nomatch h) (fun _ h => nomatch h) (fun _ h => nomatch h) (fun _ h => nomatch h)) rfl rfl hl.1 rfl (lv_room (Nat.le_of_ble_eq_true rfl)) dX12_secondHash_317 ⟨(Nat.le_of_ble_eq_true rfl), (Nat.le_of_ble_eq_true rfl)⟩) hS (fun q _ h => hFc q h) hFc (fun r96 u t H1 locs ht hvm hw hB hz1 hk1 hS => ?_)
      obtain ⟨hP1, hD1⟩ := hB
      rw [ht] at hP1
      obtain ⟨hP, hD⟩ := va_join (wr := [(wd, .inl (y 1, 80, .inl (zf tW2 (k2 + 1) f2))), (dg, .inl (y 1, 32, .inl f3)), (st, .inl (y 1, 8, .inl (zf tS2 8 f4))), (nw, .inl (y 1, 8, .inl (zf (tR k2) 8 f5))), (h0, .inr (16, [w1, w2, w3, w4, w5, w6, w7, w8, w9, w10, w11, w12, w13, w14, .int (nI 64), .ref ms, .ref dg, .ref wd, .ref st, .ref nw, w15, w16, w17, w18, w19, w20, w21, w22, w23, w24, w25, w26, w27, w28, w29, w30, w31, w32, w33, w34, w35, w36, w37, w38, w39, w40, w41, w42, w43, w44, w45, w46, w47, w48, w49, w50, w51, w52, w53, w54, w55, w56, w57, w58])), (ms, .inl (y 1, 30000, .inl (zf tM 64 f1)))]) (w1 := []) hP hD [] [0, 1, 2, 3, 4, 5] rfl rfl (by decide) (by decide) hk1 hFc hP1 hD1
      generalize H1 = H at hP hS ⊢
      have hP : va_P D vwCl [(wd, .inl (y 1, 80, .inl (zf tW2 (k2 + 1) f2))), (dg, .inl (y 1, 32, .inl f3)), (st, .inl (y 1, 8, .inl (zf tS2 8 f4))), (nw, .inl (y 1, 8, .inl (zf (tR k2) 8 f5))), (h0, .inr (16, [w1, w2, w3, w4, w5, w6, w7, w8, w9, w10, w11, w12, w13, w14, .int (nI 64), .ref ms, .ref dg, .ref wd, .ref st, .ref nw, w15, w16, w17, w18, w19, w20, w21, w22, w23, w24, w25, w26, w27, w28, w29, w30, w31, w32, w33, w34, w35, w36, w37, w38, w39, w40, w41, w42, w43, w44, w45, w46, w47, w48, w49, w50, w51, w52, w53, w54, w55, w56, w57, w58])), (ms, .inl (y 1, 30000, .inl (zf tM 64 f1)))] H := hP
      have hD : va_D A [(wd, .inl (y 1, 80, .inl (zf tW2 (k2 + 1) f2))), (dg, .inl (y 1, 32, .inl f3)), (st, .inl (y 1, 8, .inl (zf tS2 8 f4))), (nw, .inl (y 1, 8, .inl (zf (tR k2) 8 f5))), (h0, .inr (16, [w1, w2, w3, w4, w5, w6, w7, w8, w9, w10, w11, w12, w13, w14, .int (nI 64), .ref ms, .ref dg, .ref wd, .ref st, .ref nw, w15, w16, w17, w18, w19, w20, w21, w22, w23, w24, w25, w26, w27, w28, w29, w30, w31, w32, w33, w34, w35, w36, w37, w38, w39, w40, w41, w42, w43, w44, w45, w46, w47, w48, w49, w50, w51, w52, w53, w54, w55, w56, w57, w58])), (ms, .inl (y 1, 30000, .inl (zf tM 64 f1)))] := hD
      have hw : r96 = (((tR k2) ((((64 - k2) % 8) + 4) % 8)) <<< ((7 : Int32) &&& 31)) ||| (zu ((tR k2) ((((64 - k2) % 8) + 4) % 8)) ((32 : Int32) - (7 : Int32))) := hw
      subst hw
      refine lv_ixor hx hb dX12_secondHash_320 ?_
      refine lv_iadd hx hb dX12_secondHash_321 ?_
      refine lv_iload hx hb dX12_secondHash_322 (lv_at hl 0 rfl) ?_
      refine lv_iload hx hb dX12_secondHash_324 (lv_at hl 2 rfl) ?_
      refine lv_iload hx hb dX12_secondHash_326 (lv_at hl 1 rfl) ?_
      refine lv_iload hx hb dX12_secondHash_328 (lv_at hl 0 rfl) ?_
      refine lv_ixor hx hb dX12_secondHash_330 ?_
      refine lv_iand hx hb dX12_secondHash_331 ?_
      refine lv_ixor hx hb dX12_secondHash_332 ?_
      refine lv_iadd hx hb dX12_secondHash_333 ?_
      refine va_gets hx hb (hE ("SignetRingModel", "ROUNDS", "[I", .ref e4) (List.mem_of_getElem? (i := 0) rfl)) hS hown (hts (.fieldLink RX12 139 "SignetRingModel" "ROUNDS" "[I") (by decide +kernel)) (fun _ h9 => h9) dX12_secondHash_334 ?_
      refine lv_iload_n hx hb dX12_secondHash_337 rfl (lv_at hl 4 rfl) ?_
      refine va_ti (v := .int (tK k2)) hx hb (show va_T .int e4 64 (fun j => .int (tK j)) A s s.heap from (hG (.inl (e4, 64, tK)) (List.mem_of_getElem? (i := 0) rfl))) hS (vp_in_nI (by omega) (by decide)) (congrArg (fun j => Value.int (tK j)) (nI_clamp (n := k2) (by omega))) dX12_secondHash_338 ?_
      refine lv_iadd hx hb dX12_secondHash_339 ?_
      refine lv_aload_n hx hb dX12_secondHash_340 rfl (lv_at hl 7 rfl) ?_
      refine va_get (D := D) (ci := 16) (v := .ref wd) (C := RX12) (T := TX12) (N := 64) hx hb hts (by decide +kernel) hown hK hP 4 rfl rfl 17 (by decide) (hts (.fieldLink RX12 46 "SignetRingModel" "words" "[I") (by decide +kernel)) (fun _ h9 => h9) rfl dX12_secondHash_341 ?_
      refine lv_iload_n hx hb dX12_secondHash_344 rfl (lv_at hl 4 rfl) ?_
      refine va_iald hx hb hK hP 0 1 rfl rfl (vp_in_nI (by omega) (by decide)) dX12_secondHash_345 ?_
      refine lv_topi (fun v97 ev97 => ?_)
      have ev97 : v97 = tW2 k2 := ev97.trans (zf_rd (j := k2) (by omega) (by omega))
      subst ev97
      refine lv_iadd hx hb dX12_secondHash_346 ?_
      refine lv_topi (fun v98 ev98 => ?_)
      have ev98 : v98 = tT k2 := ev98.trans (ax_c_M_secondHash_41 k2 hk21 hk20)
      subst ev98
      refine lv_istore (lv' := [(8, .int (tT k2)), (7, .int ((tR k2) ((((64 - k2) % 8) + 6) % 8))), (6, .int ((tR k2) ((((64 - k2) % 8) + 5) % 8))), (5, .int ((tR k2) ((((64 - k2) % 8) + 4) % 8))), (4, .int (nI ((64 - k2) % 8))), (3, .int (nI k2)), (2, .int 0), (1, .int 1), (0, .ref h0)]) hx hb dX12_secondHash_347 hl (by decide) rfl (fun ls hl => ?_)
      refine lv_aload_n hx hb dX12_secondHash_349 rfl (lv_at hl 8 rfl) ?_
      refine va_get (D := D) (ci := 16) (v := .ref nw) (C := RX12) (T := TX12) (N := 64) hx hb hts (by decide +kernel) hown hK hP 4 rfl rfl 19 (by decide) (hts (.fieldLink RX12 52 "SignetRingModel" "now" "[I") (by decide +kernel)) (fun _ h9 => h9) rfl dX12_secondHash_350 ?_
      refine lv_iload hx hb dX12_secondHash_353 (lv_at hl 4 rfl) ?_
      refine va_iald hx hb hK hP 3 1 rfl rfl (vp_in_nI (by omega) (by decide)) dX12_secondHash_355 ?_
      refine lv_topi (fun v99 ev99 => ?_)
      have ev99 : v99 = (tR k2) ((64 - k2) % 8) := ev99.trans (zf_rd (j := ((64 - k2) % 8)) (by omega) (by omega))
      subst ev99
      refine lv_istore (lv' := [(9, .int ((tR k2) ((64 - k2) % 8))), (8, .int (tT k2)), (7, .int ((tR k2) ((((64 - k2) % 8) + 6) % 8))), (6, .int ((tR k2) ((((64 - k2) % 8) + 5) % 8))), (5, .int ((tR k2) ((((64 - k2) % 8) + 4) % 8))), (4, .int (nI ((64 - k2) % 8))), (3, .int (nI k2)), (2, .int 0), (1, .int 1), (0, .ref h0)]) hx hb dX12_secondHash_356 hl (by decide) rfl (fun ls hl => ?_)
      refine lv_aload_n hx hb dX12_secondHash_358 rfl (lv_at hl 9 rfl) ?_
      refine va_get (D := D) (ci := 16) (v := .ref nw) (C := RX12) (T := TX12) (N := 64) hx hb hts (by decide +kernel) hown hK hP 4 rfl rfl 19 (by decide) (hts (.fieldLink RX12 52 "SignetRingModel" "now" "[I") (by decide +kernel)) (fun _ h9 => h9) rfl dX12_secondHash_359 ?_
      refine lv_iload hx hb dX12_secondHash_362 (lv_at hl 5 rfl) ?_
      refine lv_iconst (v := 1) hx hb dX12_secondHash_364 (by decide) ?_
      refine lv_iadd hx hb dX12_secondHash_365 ?_
      refine lv_topi (fun v100 ev100 => ?_)
      have ev100 : v100 = nI (((64 - k2) % 8) + 1) := ev100.trans (ax_c_M_secondHash_42 k2 hk21 hk20)
      subst ev100
      refine lv_bipush (v := 7) hx hb dX12_secondHash_366 (by decide) ?_
      refine lv_iand hx hb dX12_secondHash_368 ?_
      refine lv_topi (fun v101 ev101 => ?_)
      have ev101 : v101 = nI ((((64 - k2) % 8) + 1) % 8) := ev101.trans (ax_c_M_secondHash_43 k2 hk21 hk20)
      subst ev101
      refine va_iald hx hb hK hP 3 1 rfl rfl (vp_in_nI (by omega) (by decide)) dX12_secondHash_369 ?_
      refine lv_topi (fun v102 ev102 => ?_)
      have ev102 : v102 = (tR k2) ((((64 - k2) % 8) + 1) % 8) := ev102.trans (zf_rd (j := ((((64 - k2) % 8) + 1) % 8)) (by omega) (by omega))
      subst ev102
      refine lv_istore (lv' := [(10, .int ((tR k2) ((((64 - k2) % 8) + 1) % 8))), (9, .int ((tR k2) ((64 - k2) % 8))), (8, .int (tT k2)), (7, .int ((tR k2) ((((64 - k2) % 8) + 6) % 8))), (6, .int ((tR k2) ((((64 - k2) % 8) + 5) % 8))), (5, .int ((tR k2) ((((64 - k2) % 8) + 4) % 8))), (4, .int (nI ((64 - k2) % 8))), (3, .int (nI k2)), (2, .int 0), (1, .int 1), (0, .ref h0)]) hx hb dX12_secondHash_370 hl (by decide) rfl (fun ls hl => ?_)
      refine lv_aload_n hx hb dX12_secondHash_372 rfl (lv_at hl 10 rfl) ?_
      refine va_get (D := D) (ci := 16) (v := .ref nw) (C := RX12) (T := TX12) (N := 64) hx hb hts (by decide +kernel) hown hK hP 4 rfl rfl 19 (by decide) (hts (.fieldLink RX12 52 "SignetRingModel" "now" "[I") (by decide +kernel)) (fun _ h9 => h9) rfl dX12_secondHash_373 ?_
      refine lv_iload hx hb dX12_secondHash_376 (lv_at hl 6 rfl) ?_
      refine lv_iconst (v := 2) hx hb dX12_secondHash_378 (by decide) ?_
      refine lv_iadd hx hb dX12_secondHash_379 ?_
      refine lv_topi (fun v103 ev103 => ?_)
      have ev103 : v103 = nI (((64 - k2) % 8) + 2) := ev103.trans (ax_c_M_secondHash_44 k2 hk21 hk20)
      subst ev103
      refine lv_bipush (v := 7) hx hb dX12_secondHash_380 (by decide) ?_
      refine lv_iand hx hb dX12_secondHash_382 ?_
      refine lv_topi (fun v104 ev104 => ?_)
      have ev104 : v104 = nI ((((64 - k2) % 8) + 2) % 8) := ev104.trans (ax_c_M_secondHash_45 k2 hk21 hk20)
      subst ev104
      refine va_iald hx hb hK hP 3 1 rfl rfl (vp_in_nI (by omega) (by decide)) dX12_secondHash_383 ?_
      refine lv_topi (fun v105 ev105 => ?_)
      have ev105 : v105 = (tR k2) ((((64 - k2) % 8) + 2) % 8) := ev105.trans (zf_rd (j := ((((64 - k2) % 8) + 2) % 8)) (by omega) (by omega))
      subst ev105
      refine lv_istore (lv' := [(11, .int ((tR k2) ((((64 - k2) % 8) + 2) % 8))), (10, .int ((tR k2) ((((64 - k2) % 8) + 1) % 8))), (9, .int ((tR k2) ((64 - k2) % 8))), (8, .int (tT k2)), (7, .int ((tR k2) ((((64 - k2) % 8) + 6) % 8))), (6, .int ((tR k2) ((((64 - k2) % 8) + 5) % 8))), (5, .int ((tR k2) ((((64 - k2) % 8) + 4) % 8))), (4, .int (nI ((64 - k2) % 8))), (3, .int (nI k2)), (2, .int 0), (1, .int 1), (0, .ref h0)]) hx hb dX12_secondHash_384 hl (by decide) rfl (fun ls hl => ?_)
      refine lv_aload_n hx hb dX12_secondHash_386 rfl (lv_at hl 11 rfl) ?_
      refine va_get (D := D) (ci := 16) (v := .ref nw) (C := RX12) (T := TX12) (N := 64) hx hb hts (by decide +kernel) hown hK hP 4 rfl rfl 19 (by decide) (hts (.fieldLink RX12 52 "SignetRingModel" "now" "[I") (by decide +kernel)) (fun _ h9 => h9) rfl dX12_secondHash_387 ?_
      refine lv_iload hx hb dX12_secondHash_390 (lv_at hl 7 rfl) ?_
      refine lv_iconst (v := 3) hx hb dX12_secondHash_392 (by decide) ?_
      refine lv_iadd hx hb dX12_secondHash_393 ?_
      refine lv_topi (fun v106 ev106 => ?_)
      have ev106 : v106 = nI (((64 - k2) % 8) + 3) := ev106.trans (ax_c_M_secondHash_46 k2 hk21 hk20)
      subst ev106
      refine lv_bipush (v := 7) hx hb dX12_secondHash_394 (by decide) ?_
      refine lv_iand hx hb dX12_secondHash_396 ?_
      refine lv_topi (fun v107 ev107 => ?_)
      have ev107 : v107 = nI ((((64 - k2) % 8) + 3) % 8) := ev107.trans (ax_c_M_secondHash_47 k2 hk21 hk20)
      subst ev107
      refine lv_dup2_11 hx hb dX12_secondHash_397 rfl rfl ?_
      refine va_iald hx hb hK hP 3 1 rfl rfl (vp_in_nI (by omega) (by decide)) dX12_secondHash_398 ?_
      refine lv_topi (fun v108 ev108 => ?_)
      have ev108 : v108 = (tR k2) ((((64 - k2) % 8) + 3) % 8) := ev108.trans (zf_rd (j := ((((64 - k2) % 8) + 3) % 8)) (by omega) (by omega))
      subst ev108
      refine lv_iload hx hb dX12_secondHash_399 (lv_at hl 3 rfl) ?_
      refine lv_iadd hx hb dX12_secondHash_401 ?_
      refine va_iast hx hb hK hP hD hS 3 1 rfl rfl (vp_in_nI (by omega) (by decide)) dX12_secondHash_402 (fun H locs hP hD hS => ?_)
      have hP : va_P D vwCl [(wd, .inl (y 1, 80, .inl (zf tW2 (k2 + 1) f2))), (dg, .inl (y 1, 32, .inl f3)), (st, .inl (y 1, 8, .inl (zf tS2 8 f4))), (nw, .inl (y 1, 8, .inl (upd (zf (tR k2) 8 f5) (nI ((((64 - k2) % 8) + 3) % 8)).toNatClampNeg (((tR k2) ((((64 - k2) % 8) + 3) % 8)) + (tT k2))))), (h0, .inr (16, [w1, w2, w3, w4, w5, w6, w7, w8, w9, w10, w11, w12, w13, w14, .int (nI 64), .ref ms, .ref dg, .ref wd, .ref st, .ref nw, w15, w16, w17, w18, w19, w20, w21, w22, w23, w24, w25, w26, w27, w28, w29, w30, w31, w32, w33, w34, w35, w36, w37, w38, w39, w40, w41, w42, w43, w44, w45, w46, w47, w48, w49, w50, w51, w52, w53, w54, w55, w56, w57, w58])), (ms, .inl (y 1, 30000, .inl (zf tM 64 f1)))] H := hP
      have hD : va_D A [(wd, .inl (y 1, 80, .inl (zf tW2 (k2 + 1) f2))), (dg, .inl (y 1, 32, .inl f3)), (st, .inl (y 1, 8, .inl (zf tS2 8 f4))), (nw, .inl (y 1, 8, .inl (upd (zf (tR k2) 8 f5) (nI ((((64 - k2) % 8) + 3) % 8)).toNatClampNeg (((tR k2) ((((64 - k2) % 8) + 3) % 8)) + (tT k2))))), (h0, .inr (16, [w1, w2, w3, w4, w5, w6, w7, w8, w9, w10, w11, w12, w13, w14, .int (nI 64), .ref ms, .ref dg, .ref wd, .ref st, .ref nw, w15, w16, w17, w18, w19, w20, w21, w22, w23, w24, w25, w26, w27, w28, w29, w30, w31, w32, w33, w34, w35, w36, w37, w38, w39, w40, w41, w42, w43, w44, w45, w46, w47, w48, w49, w50, w51, w52, w53, w54, w55, w56, w57, w58])), (ms, .inl (y 1, 30000, .inl (zf tM 64 f1)))] := hD
      refine lv_aload_n hx hb dX12_secondHash_403 rfl (lv_at hl 11 rfl) ?_
      refine va_get (D := D) (ci := 16) (v := .ref nw) (C := RX12) (T := TX12) (N := 64) hx hb hts (by decide +kernel) hown hK hP 4 rfl rfl 19 (by decide) (hts (.fieldLink RX12 52 "SignetRingModel" "now" "[I") (by decide +kernel)) (fun _ h9 => h9) rfl dX12_secondHash_404 ?_
      refine lv_iload hx hb dX12_secondHash_407 (lv_at hl 7 rfl) ?_
      refine lv_bipush (v := 7) hx hb dX12_secondHash_409 (by decide) ?_
      refine lv_iadd hx hb dX12_secondHash_411 ?_
      refine lv_topi (fun v109 ev109 => ?_)
      have ev109 : v109 = nI (((64 - k2) % 8) + 7) := ev109.trans (ax_c_M_secondHash_39 k2 hk21 hk20)
      subst ev109
      refine lv_bipush (v := 7) hx hb dX12_secondHash_412 (by decide) ?_
      refine lv_iand hx hb dX12_secondHash_414 ?_
      refine lv_topi (fun v110 ev110 => ?_)
      have ev110 : v110 = nI ((((64 - k2) % 8) + 7) % 8) := ev110.trans (ax_c_M_secondHash_40 k2 hk21 hk20)
      subst ev110
      refine lv_iload hx hb dX12_secondHash_415 (lv_at hl 3 rfl) ?_
      refine lv_iload hx hb dX12_secondHash_417 (lv_at hl 2 rfl) ?_
      refine lv_bipush (v := 30) hx hb dX12_secondHash_419 (by decide) ?_
      have hPc := hP.sub (ws' := []) [] rfl
      have hDc := hD.sub (ws' := []) [] (by decide) rfl
      have hFc := va_free (wc := []) hD hS hA [] rfl
      refine va_calli (va_runS (As := [.int ((tR k2) ((64 - k2) % 8)), .int 30]) (rest := [.int (tT k2), .int (nI ((((64 - k2) % 8) + 7) % 8)), .ref nw]) ⟨hx, hb, hml, hown, hts⟩ (c_M_left l D y H.size ((tR k2) ((64 - k2) % 8)) 30) (va_cwS 2 hts gv_c_M_secondHash_c_M_left_119 rfl rfl rfl (by decide +kernel) ⟨(Nat.le_of_ble_eq_true rfl), (Nat.le_of_ble_eq_true rfl)⟩) (zB.preS hPc hDc hK hN hE hO hT hG hS hFc (fun _ h => nomatch h) (fun _ h => nomatch h) (fun _ h => nomatch h) (fun _ h => nomatch h)) rfl rfl hl.1 rfl (lv_room (Nat.le_of_ble_eq_true rfl)) dX12_secondHash_421 ⟨(Nat.le_of_ble_eq_true rfl), (Nat.le_of_ble_eq_true rfl)⟩) hS (fun q _ h => hFc q h) hFc (fun r111 u t H1 locs ht hvm hw hB hz1 hk1 hS => ?_)
      obtain ⟨hP1, hD1⟩ := hB
      rw [ht] at hP1
      obtain ⟨hP, hD⟩ := va_join (wr := [(wd, .inl (y 1, 80, .inl (zf tW2 (k2 + 1) f2))), (dg, .inl (y 1, 32, .inl f3)), (st, .inl (y 1, 8, .inl (zf tS2 8 f4))), (nw, .inl (y 1, 8, .inl (upd (zf (tR k2) 8 f5) (nI ((((64 - k2) % 8) + 3) % 8)).toNatClampNeg (((tR k2) ((((64 - k2) % 8) + 3) % 8)) + (tT k2))))), (h0, .inr (16, [w1, w2, w3, w4, w5, w6, w7, w8, w9, w10, w11, w12, w13, w14, .int (nI 64), .ref ms, .ref dg, .ref wd, .ref st, .ref nw, w15, w16, w17, w18, w19, w20, w21, w22, w23, w24, w25, w26, w27, w28, w29, w30, w31, w32, w33, w34, w35, w36, w37, w38, w39, w40, w41, w42, w43, w44, w45, w46, w47, w48, w49, w50, w51, w52, w53, w54, w55, w56, w57, w58])), (ms, .inl (y 1, 30000, .inl (zf tM 64 f1)))]) (w1 := []) hP hD [] [0, 1, 2, 3, 4, 5] rfl rfl (by decide) (by decide) hk1 hFc hP1 hD1
      generalize H1 = H at hP hS ⊢
      have hP : va_P D vwCl [(wd, .inl (y 1, 80, .inl (zf tW2 (k2 + 1) f2))), (dg, .inl (y 1, 32, .inl f3)), (st, .inl (y 1, 8, .inl (zf tS2 8 f4))), (nw, .inl (y 1, 8, .inl (upd (zf (tR k2) 8 f5) (nI ((((64 - k2) % 8) + 3) % 8)).toNatClampNeg (((tR k2) ((((64 - k2) % 8) + 3) % 8)) + (tT k2))))), (h0, .inr (16, [w1, w2, w3, w4, w5, w6, w7, w8, w9, w10, w11, w12, w13, w14, .int (nI 64), .ref ms, .ref dg, .ref wd, .ref st, .ref nw, w15, w16, w17, w18, w19, w20, w21, w22, w23, w24, w25, w26, w27, w28, w29, w30, w31, w32, w33, w34, w35, w36, w37, w38, w39, w40, w41, w42, w43, w44, w45, w46, w47, w48, w49, w50, w51, w52, w53, w54, w55, w56, w57, w58])), (ms, .inl (y 1, 30000, .inl (zf tM 64 f1)))] H := hP
      have hD : va_D A [(wd, .inl (y 1, 80, .inl (zf tW2 (k2 + 1) f2))), (dg, .inl (y 1, 32, .inl f3)), (st, .inl (y 1, 8, .inl (zf tS2 8 f4))), (nw, .inl (y 1, 8, .inl (upd (zf (tR k2) 8 f5) (nI ((((64 - k2) % 8) + 3) % 8)).toNatClampNeg (((tR k2) ((((64 - k2) % 8) + 3) % 8)) + (tT k2))))), (h0, .inr (16, [w1, w2, w3, w4, w5, w6, w7, w8, w9, w10, w11, w12, w13, w14, .int (nI 64), .ref ms, .ref dg, .ref wd, .ref st, .ref nw, w15, w16, w17, w18, w19, w20, w21, w22, w23, w24, w25, w26, w27, w28, w29, w30, w31, w32, w33, w34, w35, w36, w37, w38, w39, w40, w41, w42, w43, w44, w45, w46, w47, w48, w49, w50, w51, w52, w53, w54, w55, w56, w57, w58])), (ms, .inl (y 1, 30000, .inl (zf tM 64 f1)))] := hD
      have hw : r111 = (((tR k2) ((64 - k2) % 8)) <<< ((30 : Int32) &&& 31)) ||| (zu ((tR k2) ((64 - k2) % 8)) ((32 : Int32) - (30 : Int32))) := hw
      subst hw
      refine lv_iload hx hb dX12_secondHash_424 (lv_at hl 2 rfl) ?_
      refine lv_bipush (v := 19) hx hb dX12_secondHash_426 (by decide) ?_
      have hPc := hP.sub (ws' := []) [] rfl
      have hDc := hD.sub (ws' := []) [] (by decide) rfl
      have hFc := va_free (wc := []) hD hS hA [] rfl
      refine va_calli (va_runS (As := [.int ((tR k2) ((64 - k2) % 8)), .int 19]) (rest := [.int ((((tR k2) ((64 - k2) % 8)) <<< ((30 : Int32) &&& 31)) ||| (zu ((tR k2) ((64 - k2) % 8)) ((32 : Int32) - (30 : Int32)))), .int (tT k2), .int (nI ((((64 - k2) % 8) + 7) % 8)), .ref nw]) ⟨hx, hb, hml, hown, hts⟩ (c_M_left l D y H.size ((tR k2) ((64 - k2) % 8)) 19) (va_cwS 2 hts gv_c_M_secondHash_c_M_left_119 rfl rfl rfl (by decide +kernel) ⟨(Nat.le_of_ble_eq_true rfl), (Nat.le_of_ble_eq_true rfl)⟩) (zB.preS hPc hDc hK hN hE hO hT hG hS hFc (fun _ h => nomatch h) (fun _ h => nomatch h) (fun _ h => nomatch h) (fun _ h => nomatch h)) rfl rfl hl.1 rfl (lv_room (Nat.le_of_ble_eq_true rfl)) dX12_secondHash_428 ⟨(Nat.le_of_ble_eq_true rfl), (Nat.le_of_ble_eq_true rfl)⟩) hS (fun q _ h => hFc q h) hFc (fun r112 u t H1 locs ht hvm hw hB hz1 hk1 hS => ?_)
      obtain ⟨hP1, hD1⟩ := hB
      rw [ht] at hP1
      obtain ⟨hP, hD⟩ := va_join (wr := [(wd, .inl (y 1, 80, .inl (zf tW2 (k2 + 1) f2))), (dg, .inl (y 1, 32, .inl f3)), (st, .inl (y 1, 8, .inl (zf tS2 8 f4))), (nw, .inl (y 1, 8, .inl (upd (zf (tR k2) 8 f5) (nI ((((64 - k2) % 8) + 3) % 8)).toNatClampNeg (((tR k2) ((((64 - k2) % 8) + 3) % 8)) + (tT k2))))), (h0, .inr (16, [w1, w2, w3, w4, w5, w6, w7, w8, w9, w10, w11, w12, w13, w14, .int (nI 64), .ref ms, .ref dg, .ref wd, .ref st, .ref nw, w15, w16, w17, w18, w19, w20, w21, w22, w23, w24, w25, w26, w27, w28, w29, w30, w31, w32, w33, w34, w35, w36, w37, w38, w39, w40, w41, w42, w43, w44, w45, w46, w47, w48, w49, w50, w51, w52, w53, w54, w55, w56, w57, w58])), (ms, .inl (y 1, 30000, .inl (zf tM 64 f1)))]) (w1 := []) hP hD [] [0, 1, 2, 3, 4, 5] rfl rfl (by decide) (by decide) hk1 hFc hP1 hD1
      generalize H1 = H at hP hS ⊢
      have hP : va_P D vwCl [(wd, .inl (y 1, 80, .inl (zf tW2 (k2 + 1) f2))), (dg, .inl (y 1, 32, .inl f3)), (st, .inl (y 1, 8, .inl (zf tS2 8 f4))), (nw, .inl (y 1, 8, .inl (upd (zf (tR k2) 8 f5) (nI ((((64 - k2) % 8) + 3) % 8)).toNatClampNeg (((tR k2) ((((64 - k2) % 8) + 3) % 8)) + (tT k2))))), (h0, .inr (16, [w1, w2, w3, w4, w5, w6, w7, w8, w9, w10, w11, w12, w13, w14, .int (nI 64), .ref ms, .ref dg, .ref wd, .ref st, .ref nw, w15, w16, w17, w18, w19, w20, w21, w22, w23, w24, w25, w26, w27, w28, w29, w30, w31, w32, w33, w34, w35, w36, w37, w38, w39, w40, w41, w42, w43, w44, w45, w46, w47, w48, w49, w50, w51, w52, w53, w54, w55, w56, w57, w58])), (ms, .inl (y 1, 30000, .inl (zf tM 64 f1)))] H := hP
      have hD : va_D A [(wd, .inl (y 1, 80, .inl (zf tW2 (k2 + 1) f2))), (dg, .inl (y 1, 32, .inl f3)), (st, .inl (y 1, 8, .inl (zf tS2 8 f4))), (nw, .inl (y 1, 8, .inl (upd (zf (tR k2) 8 f5) (nI ((((64 - k2) % 8) + 3) % 8)).toNatClampNeg (((tR k2) ((((64 - k2) % 8) + 3) % 8)) + (tT k2))))), (h0, .inr (16, [w1, w2, w3, w4, w5, w6, w7, w8, w9, w10, w11, w12, w13, w14, .int (nI 64), .ref ms, .ref dg, .ref wd, .ref st, .ref nw, w15, w16, w17, w18, w19, w20, w21, w22, w23, w24, w25, w26, w27, w28, w29, w30, w31, w32, w33, w34, w35, w36, w37, w38, w39, w40, w41, w42, w43, w44, w45, w46, w47, w48, w49, w50, w51, w52, w53, w54, w55, w56, w57, w58])), (ms, .inl (y 1, 30000, .inl (zf tM 64 f1)))] := hD
      have hw : r112 = (((tR k2) ((64 - k2) % 8)) <<< ((19 : Int32) &&& 31)) ||| (zu ((tR k2) ((64 - k2) % 8)) ((32 : Int32) - (19 : Int32))) := hw
      subst hw
      refine lv_ixor hx hb dX12_secondHash_431 ?_
      refine lv_iload hx hb dX12_secondHash_432 (lv_at hl 2 rfl) ?_
      refine lv_bipush (v := 10) hx hb dX12_secondHash_434 (by decide) ?_
      have hPc := hP.sub (ws' := []) [] rfl
      have hDc := hD.sub (ws' := []) [] (by decide) rfl
      have hFc := va_free (wc := []) hD hS hA [] rfl
      refine va_calli (va_runS (As := [.int ((tR k2) ((64 - k2) % 8)), .int 10]) (rest := [.int (((((tR k2) ((64 - k2) % 8)) <<< ((30 : Int32) &&& 31)) ||| (zu ((tR k2) ((64 - k2) % 8)) ((32 : Int32) - (30 : Int32)))) ^^^ ((((tR k2) ((64 - k2) % 8)) <<< ((19 : Int32) &&& 31)) ||| (zu ((tR k2) ((64 - k2) % 8)) ((32 : Int32) - (19 : Int32))))), .int (tT k2), .int (nI ((((64 - k2) % 8) + 7) % 8)), .ref nw]) ⟨hx, hb, hml, hown, hts⟩ (c_M_left l D y H.size ((tR k2) ((64 - k2) % 8)) 10) (va_cwS 2 hts gv_c_M_secondHash_c_M_left_119 rfl rfl rfl (by decide +kernel) ⟨(Nat.le_of_ble_eq_true rfl), (Nat.le_of_ble_eq_true rfl)⟩) (zB.preS hPc hDc hK hN hE hO hT hG hS hFc (fun _ h => nomatch h) (fun _ h => nomatch h) (fun _ h => nomatch h) (fun _ h => nomatch h)) rfl rfl hl.1 rfl (lv_room (Nat.le_of_ble_eq_true rfl)) dX12_secondHash_436 ⟨(Nat.le_of_ble_eq_true rfl), (Nat.le_of_ble_eq_true rfl)⟩) hS (fun q _ h => hFc q h) hFc (fun r113 u t H1 locs ht hvm hw hB hz1 hk1 hS => ?_)
      obtain ⟨hP1, hD1⟩ := hB
      rw [ht] at hP1
      obtain ⟨hP, hD⟩ := va_join (wr := [(wd, .inl (y 1, 80, .inl (zf tW2 (k2 + 1) f2))), (dg, .inl (y 1, 32, .inl f3)), (st, .inl (y 1, 8, .inl (zf tS2 8 f4))), (nw, .inl (y 1, 8, .inl (upd (zf (tR k2) 8 f5) (nI ((((64 - k2) % 8) + 3) % 8)).toNatClampNeg (((tR k2) ((((64 - k2) % 8) + 3) % 8)) + (tT k2))))), (h0, .inr (16, [w1, w2, w3, w4, w5, w6, w7, w8, w9, w10, w11, w12, w13, w14, .int (nI 64), .ref ms, .ref dg, .ref wd, .ref st, .ref nw, w15, w16, w17, w18, w19, w20, w21, w22, w23, w24, w25, w26, w27, w28, w29, w30, w31, w32, w33, w34, w35, w36, w37, w38, w39, w40, w41, w42, w43, w44, w45, w46, w47, w48, w49, w50, w51, w52, w53, w54, w55, w56, w57, w58])), (ms, .inl (y 1, 30000, .inl (zf tM 64 f1)))]) (w1 := []) hP hD [] [0, 1, 2, 3, 4, 5] rfl rfl (by decide) (by decide) hk1 hFc hP1 hD1
      generalize H1 = H at hP hS ⊢
      have hP : va_P D vwCl [(wd, .inl (y 1, 80, .inl (zf tW2 (k2 + 1) f2))), (dg, .inl (y 1, 32, .inl f3)), (st, .inl (y 1, 8, .inl (zf tS2 8 f4))), (nw, .inl (y 1, 8, .inl (upd (zf (tR k2) 8 f5) (nI ((((64 - k2) % 8) + 3) % 8)).toNatClampNeg (((tR k2) ((((64 - k2) % 8) + 3) % 8)) + (tT k2))))), (h0, .inr (16, [w1, w2, w3, w4, w5, w6, w7, w8, w9, w10, w11, w12, w13, w14, .int (nI 64), .ref ms, .ref dg, .ref wd, .ref st, .ref nw, w15, w16, w17, w18, w19, w20, w21, w22, w23, w24, w25, w26, w27, w28, w29, w30, w31, w32, w33, w34, w35, w36, w37, w38, w39, w40, w41, w42, w43, w44, w45, w46, w47, w48, w49, w50, w51, w52, w53, w54, w55, w56, w57, w58])), (ms, .inl (y 1, 30000, .inl (zf tM 64 f1)))] H := hP
      have hD : va_D A [(wd, .inl (y 1, 80, .inl (zf tW2 (k2 + 1) f2))), (dg, .inl (y 1, 32, .inl f3)), (st, .inl (y 1, 8, .inl (zf tS2 8 f4))), (nw, .inl (y 1, 8, .inl (upd (zf (tR k2) 8 f5) (nI ((((64 - k2) % 8) + 3) % 8)).toNatClampNeg (((tR k2) ((((64 - k2) % 8) + 3) % 8)) + (tT k2))))), (h0, .inr (16, [w1, w2, w3, w4, w5, w6, w7, w8, w9, w10, w11, w12, w13, w14, .int (nI 64), .ref ms, .ref dg, .ref wd, .ref st, .ref nw, w15, w16, w17, w18, w19, w20, w21, w22, w23, w24, w25, w26, w27, w28, w29, w30, w31, w32, w33, w34, w35, w36, w37, w38, w39, w40, w41, w42, w43, w44, w45, w46, w47, w48, w49, w50, w51, w52, w53, w54, w55, w56, w57, w58])), (ms, .inl (y 1, 30000, .inl (zf tM 64 f1)))] := hD
      have hw : r113 = (((tR k2) ((64 - k2) % 8)) <<< ((10 : Int32) &&& 31)) ||| (zu ((tR k2) ((64 - k2) % 8)) ((32 : Int32) - (10 : Int32))) := hw
      subst hw
      refine lv_ixor hx hb dX12_secondHash_439 ?_
      refine lv_iadd hx hb dX12_secondHash_440 ?_
      refine lv_iload hx hb dX12_secondHash_441 (lv_at hl 2 rfl) ?_
      refine lv_iload hx hb dX12_secondHash_443 (lv_at hl 1 rfl) ?_
      refine lv_iand hx hb dX12_secondHash_445 ?_
      refine lv_iload hx hb dX12_secondHash_446 (lv_at hl 0 rfl) ?_
      refine lv_iload hx hb dX12_secondHash_448 (lv_at hl 2 rfl) ?_
      refine lv_iload hx hb dX12_secondHash_450 (lv_at hl 1 rfl) ?_
      refine lv_ior hx hb dX12_secondHash_452 ?_
      refine lv_iand hx hb dX12_secondHash_453 ?_
      refine lv_ior hx hb dX12_secondHash_454 ?_
      refine lv_iadd hx hb dX12_secondHash_455 ?_
      refine va_iast hx hb hK hP hD hS 3 1 rfl rfl (vp_in_nI (by omega) (by decide)) dX12_secondHash_456 (fun H locs hP hD hS => ?_)
      have hP : va_P D vwCl [(wd, .inl (y 1, 80, .inl (zf tW2 (k2 + 1) f2))), (dg, .inl (y 1, 32, .inl f3)), (st, .inl (y 1, 8, .inl (zf tS2 8 f4))), (nw, .inl (y 1, 8, .inl (upd (upd (zf (tR k2) 8 f5) (nI ((((64 - k2) % 8) + 3) % 8)).toNatClampNeg (((tR k2) ((((64 - k2) % 8) + 3) % 8)) + (tT k2))) (nI ((((64 - k2) % 8) + 7) % 8)).toNatClampNeg (((tT k2) + ((((((tR k2) ((64 - k2) % 8)) <<< ((30 : Int32) &&& 31)) ||| (zu ((tR k2) ((64 - k2) % 8)) ((32 : Int32) - (30 : Int32)))) ^^^ ((((tR k2) ((64 - k2) % 8)) <<< ((19 : Int32) &&& 31)) ||| (zu ((tR k2) ((64 - k2) % 8)) ((32 : Int32) - (19 : Int32))))) ^^^ ((((tR k2) ((64 - k2) % 8)) <<< ((10 : Int32) &&& 31)) ||| (zu ((tR k2) ((64 - k2) % 8)) ((32 : Int32) - (10 : Int32)))))) + ((((tR k2) ((64 - k2) % 8)) &&& ((tR k2) ((((64 - k2) % 8) + 1) % 8))) ||| (((tR k2) ((((64 - k2) % 8) + 2) % 8)) &&& (((tR k2) ((64 - k2) % 8)) ||| ((tR k2) ((((64 - k2) % 8) + 1) % 8))))))))), (h0, .inr (16, [w1, w2, w3, w4, w5, w6, w7, w8, w9, w10, w11, w12, w13, w14, .int (nI 64), .ref ms, .ref dg, .ref wd, .ref st, .ref nw, w15, w16, w17, w18, w19, w20, w21, w22, w23, w24, w25, w26, w27, w28, w29, w30, w31, w32, w33, w34, w35, w36, w37, w38, w39, w40, w41, w42, w43, w44, w45, w46, w47, w48, w49, w50, w51, w52, w53, w54, w55, w56, w57, w58])), (ms, .inl (y 1, 30000, .inl (zf tM 64 f1)))] H := hP
      have hD : va_D A [(wd, .inl (y 1, 80, .inl (zf tW2 (k2 + 1) f2))), (dg, .inl (y 1, 32, .inl f3)), (st, .inl (y 1, 8, .inl (zf tS2 8 f4))), (nw, .inl (y 1, 8, .inl (upd (upd (zf (tR k2) 8 f5) (nI ((((64 - k2) % 8) + 3) % 8)).toNatClampNeg (((tR k2) ((((64 - k2) % 8) + 3) % 8)) + (tT k2))) (nI ((((64 - k2) % 8) + 7) % 8)).toNatClampNeg (((tT k2) + ((((((tR k2) ((64 - k2) % 8)) <<< ((30 : Int32) &&& 31)) ||| (zu ((tR k2) ((64 - k2) % 8)) ((32 : Int32) - (30 : Int32)))) ^^^ ((((tR k2) ((64 - k2) % 8)) <<< ((19 : Int32) &&& 31)) ||| (zu ((tR k2) ((64 - k2) % 8)) ((32 : Int32) - (19 : Int32))))) ^^^ ((((tR k2) ((64 - k2) % 8)) <<< ((10 : Int32) &&& 31)) ||| (zu ((tR k2) ((64 - k2) % 8)) ((32 : Int32) - (10 : Int32)))))) + ((((tR k2) ((64 - k2) % 8)) &&& ((tR k2) ((((64 - k2) % 8) + 1) % 8))) ||| (((tR k2) ((((64 - k2) % 8) + 2) % 8)) &&& (((tR k2) ((64 - k2) % 8)) ||| ((tR k2) ((((64 - k2) % 8) + 1) % 8))))))))), (h0, .inr (16, [w1, w2, w3, w4, w5, w6, w7, w8, w9, w10, w11, w12, w13, w14, .int (nI 64), .ref ms, .ref dg, .ref wd, .ref st, .ref nw, w15, w16, w17, w18, w19, w20, w21, w22, w23, w24, w25, w26, w27, w28, w29, w30, w31, w32, w33, w34, w35, w36, w37, w38, w39, w40, w41, w42, w43, w44, w45, w46, w47, w48, w49, w50, w51, w52, w53, w54, w55, w56, w57, w58])), (ms, .inl (y 1, 30000, .inl (zf tM 64 f1)))] := hD
      have u114 : upd (upd (zf (tR k2) 8 f5) (nI ((((64 - k2) % 8) + 3) % 8)).toNatClampNeg (((tR k2) ((((64 - k2) % 8) + 3) % 8)) + (tT k2))) (nI ((((64 - k2) % 8) + 7) % 8)).toNatClampNeg (((tT k2) + ((((((tR k2) ((64 - k2) % 8)) <<< ((30 : Int32) &&& 31)) ||| (zu ((tR k2) ((64 - k2) % 8)) ((32 : Int32) - (30 : Int32)))) ^^^ ((((tR k2) ((64 - k2) % 8)) <<< ((19 : Int32) &&& 31)) ||| (zu ((tR k2) ((64 - k2) % 8)) ((32 : Int32) - (19 : Int32))))) ^^^ ((((tR k2) ((64 - k2) % 8)) <<< ((10 : Int32) &&& 31)) ||| (zu ((tR k2) ((64 - k2) % 8)) ((32 : Int32) - (10 : Int32)))))) + ((((tR k2) ((64 - k2) % 8)) &&& ((tR k2) ((((64 - k2) % 8) + 1) % 8))) ||| (((tR k2) ((((64 - k2) % 8) + 2) % 8)) &&& (((tR k2) ((64 - k2) % 8)) ||| ((tR k2) ((((64 - k2) % 8) + 1) % 8)))))) = zf (tR (k2 + 1)) 8 f5 := zf_up2 (i1 := ((((64 - k2) % 8) + 3) % 8)) (i2 := ((((64 - k2) % 8) + 7) % 8)) (by omega) (by omega) (by decide) (ax_c_M_secondHash_48 k2 hk21 hk20)
      rw [u114] at hP hD
      have hP : va_P D vwCl [(wd, .inl (y 1, 80, .inl (zf tW2 (k2 + 1) f2))), (dg, .inl (y 1, 32, .inl f3)), (st, .inl (y 1, 8, .inl (zf tS2 8 f4))), (nw, .inl (y 1, 8, .inl (zf (tR (k2 + 1)) 8 f5))), (h0, .inr (16, [w1, w2, w3, w4, w5, w6, w7, w8, w9, w10, w11, w12, w13, w14, .int (nI 64), .ref ms, .ref dg, .ref wd, .ref st, .ref nw, w15, w16, w17, w18, w19, w20, w21, w22, w23, w24, w25, w26, w27, w28, w29, w30, w31, w32, w33, w34, w35, w36, w37, w38, w39, w40, w41, w42, w43, w44, w45, w46, w47, w48, w49, w50, w51, w52, w53, w54, w55, w56, w57, w58])), (ms, .inl (y 1, 30000, .inl (zf tM 64 f1)))] H := hP
      have hD : va_D A [(wd, .inl (y 1, 80, .inl (zf tW2 (k2 + 1) f2))), (dg, .inl (y 1, 32, .inl f3)), (st, .inl (y 1, 8, .inl (zf tS2 8 f4))), (nw, .inl (y 1, 8, .inl (zf (tR (k2 + 1)) 8 f5))), (h0, .inr (16, [w1, w2, w3, w4, w5, w6, w7, w8, w9, w10, w11, w12, w13, w14, .int (nI 64), .ref ms, .ref dg, .ref wd, .ref st, .ref nw, w15, w16, w17, w18, w19, w20, w21, w22, w23, w24, w25, w26, w27, w28, w29, w30, w31, w32, w33, w34, w35, w36, w37, w38, w39, w40, w41, w42, w43, w44, w45, w46, w47, w48, w49, w50, w51, w52, w53, w54, w55, w56, w57, w58])), (ms, .inl (y 1, 30000, .inl (zf tM 64 f1)))] := hD
      refine lv_iinc (v := nI (k2 + 1)) (lv' := [(3, .int (nI (k2 + 1))), (11, .int ((tR k2) ((((64 - k2) % 8) + 2) % 8))), (10, .int ((tR k2) ((((64 - k2) % 8) + 1) % 8))), (9, .int ((tR k2) ((64 - k2) % 8))), (8, .int (tT k2)), (7, .int ((tR k2) ((((64 - k2) % 8) + 6) % 8))), (6, .int ((tR k2) ((((64 - k2) % 8) + 5) % 8))), (5, .int ((tR k2) ((((64 - k2) % 8) + 4) % 8))), (4, .int (nI ((64 - k2) % 8))), (2, .int 0), (1, .int 1), (0, .ref h0)]) hx hb dX12_secondHash_457 hl (k := 8) rfl (ax_c_M_secondHash_49 k2 hk21 hk20) (by decide) rfl (fun ls hl => ?_)
      refine lv_goto (tgt := 106) hx hb dX12_secondHash_460 (by decide) ?_
      exact ih ls H locs ⟨hP, hD, hS, lv_sub hl [0, 9, 10, 11] rfl⟩
    · obtain ⟨hP, hD, hS, hl⟩ := hI
      have hl : lv_has ls 12 [(3, .int (nI 64)), (2, .int 0), (1, .int 1), (0, .ref h0)] := hl
      have hP : va_P D vwCl [(wd, .inl (y 1, 80, .inl (zf tW2 64 f2))), (dg, .inl (y 1, 32, .inl f3)), (st, .inl (y 1, 8, .inl (zf tS2 8 f4))), (nw, .inl (y 1, 8, .inl (zf (tR 64) 8 f5))), (h0, .inr (16, [w1, w2, w3, w4, w5, w6, w7, w8, w9, w10, w11, w12, w13, w14, .int (nI 64), .ref ms, .ref dg, .ref wd, .ref st, .ref nw, w15, w16, w17, w18, w19, w20, w21, w22, w23, w24, w25, w26, w27, w28, w29, w30, w31, w32, w33, w34, w35, w36, w37, w38, w39, w40, w41, w42, w43, w44, w45, w46, w47, w48, w49, w50, w51, w52, w53, w54, w55, w56, w57, w58])), (ms, .inl (y 1, 30000, .inl (zf tM 64 f1)))] H := hP
      have hD : va_D A [(wd, .inl (y 1, 80, .inl (zf tW2 64 f2))), (dg, .inl (y 1, 32, .inl f3)), (st, .inl (y 1, 8, .inl (zf tS2 8 f4))), (nw, .inl (y 1, 8, .inl (zf (tR 64) 8 f5))), (h0, .inr (16, [w1, w2, w3, w4, w5, w6, w7, w8, w9, w10, w11, w12, w13, w14, .int (nI 64), .ref ms, .ref dg, .ref wd, .ref st, .ref nw, w15, w16, w17, w18, w19, w20, w21, w22, w23, w24, w25, w26, w27, w28, w29, w30, w31, w32, w33, w34, w35, w36, w37, w38, w39, w40, w41, w42, w43, w44, w45, w46, w47, w48, w49, w50, w51, w52, w53, w54, w55, w56, w57, w58])), (ms, .inl (y 1, 30000, .inl (zf tM 64 f1)))] := hD
      refine lv_iload_n hx hb dX12_secondHash_106 rfl (lv_at hl 0 rfl) ?_
      refine lv_bipush (v := 64) hx hb dX12_secondHash_107 (by decide) ?_
      refine lv_icmp_ge (tgt := 463) hx hb dX12_secondHash_109 (by decide) (fun _ => ?_) (fun c9 => absurd (by decide) c9)
      refine lv_iconst (v := 0) hx hb dX12_secondHash_463 (by decide) ?_
      refine lv_istore_n (lv' := [(3, .int 0), (2, .int 0), (1, .int 1), (0, .ref h0)]) hx hb dX12_secondHash_464 rfl hl (by decide) rfl (fun ls hl => ?_)
      refine lv_iload_n hx hb dX12_secondHash_465 rfl (lv_at hl 0 rfl) ?_
      refine lv_bipush (v := 8) hx hb dX12_secondHash_466 (by decide) ?_
      refine lv_icmp_ge (tgt := 492) hx hb dX12_secondHash_468 (by decide) (fun c9 => absurd c9 (by decide)) (fun _ => ?_)
      refine lv_aload_n hx hb dX12_secondHash_471 rfl (lv_at hl 3 rfl) ?_
      refine va_get (D := D) (ci := 16) (v := .ref st) (C := RX12) (T := TX12) (N := 64) hx hb hts (by decide +kernel) hown hK hP 4 rfl rfl 18 (by decide) (hts (.fieldLink RX12 49 "SignetRingModel" "state" "[I") (by decide +kernel)) (fun _ h9 => h9) rfl dX12_secondHash_472 ?_
      refine lv_iload_n hx hb dX12_secondHash_475 rfl (lv_at hl 0 rfl) ?_
      refine lv_dup2_11 hx hb dX12_secondHash_476 rfl rfl ?_
      refine va_iald hx hb hK hP 2 1 rfl rfl (by unfold vp_in; decide) dX12_secondHash_477 ?_
      refine lv_topi (fun v115 ev115 => ?_)
      have ev115 : v115 = tS2 0 := ev115.trans (zf_rd (j := 0) (by decide) (by decide))
      subst ev115
      refine lv_aload_n hx hb dX12_secondHash_478 rfl (lv_at hl 3 rfl) ?_
      refine va_get (D := D) (ci := 16) (v := .ref nw) (C := RX12) (T := TX12) (N := 64) hx hb hts (by decide +kernel) hown hK hP 4 rfl rfl 19 (by decide) (hts (.fieldLink RX12 52 "SignetRingModel" "now" "[I") (by decide +kernel)) (fun _ h9 => h9) rfl dX12_secondHash_479 ?_
      refine lv_iload_n hx hb dX12_secondHash_482 rfl (lv_at hl 0 rfl) ?_
      refine va_iald hx hb hK hP 3 1 rfl rfl (by unfold vp_in; decide) dX12_secondHash_483 ?_
      refine lv_topi (fun v116 ev116 => ?_)
      have ev116 : v116 = (tR 64) 0 := ev116.trans (zf_rd (j := 0) (by decide) (by decide))
      subst ev116
      refine lv_iadd hx hb dX12_secondHash_484 ?_
      refine va_iast hx hb hK hP hD hS 2 1 rfl rfl (by unfold vp_in; decide) dX12_secondHash_485 (fun H locs hP hD hS => ?_)
      have hP : va_P D vwCl [(wd, .inl (y 1, 80, .inl (zf tW2 64 f2))), (dg, .inl (y 1, 32, .inl f3)), (st, .inl (y 1, 8, .inl (upd (zf tD2 0 (zf tS2 8 f4)) (nI 0).toNatClampNeg ((tS2 0) + ((tR 64) 0))))), (nw, .inl (y 1, 8, .inl (zf (tR 64) 8 f5))), (h0, .inr (16, [w1, w2, w3, w4, w5, w6, w7, w8, w9, w10, w11, w12, w13, w14, .int (nI 64), .ref ms, .ref dg, .ref wd, .ref st, .ref nw, w15, w16, w17, w18, w19, w20, w21, w22, w23, w24, w25, w26, w27, w28, w29, w30, w31, w32, w33, w34, w35, w36, w37, w38, w39, w40, w41, w42, w43, w44, w45, w46, w47, w48, w49, w50, w51, w52, w53, w54, w55, w56, w57, w58])), (ms, .inl (y 1, 30000, .inl (zf tM 64 f1)))] H := hP
      have hD : va_D A [(wd, .inl (y 1, 80, .inl (zf tW2 64 f2))), (dg, .inl (y 1, 32, .inl f3)), (st, .inl (y 1, 8, .inl (upd (zf tD2 0 (zf tS2 8 f4)) (nI 0).toNatClampNeg ((tS2 0) + ((tR 64) 0))))), (nw, .inl (y 1, 8, .inl (zf (tR 64) 8 f5))), (h0, .inr (16, [w1, w2, w3, w4, w5, w6, w7, w8, w9, w10, w11, w12, w13, w14, .int (nI 64), .ref ms, .ref dg, .ref wd, .ref st, .ref nw, w15, w16, w17, w18, w19, w20, w21, w22, w23, w24, w25, w26, w27, w28, w29, w30, w31, w32, w33, w34, w35, w36, w37, w38, w39, w40, w41, w42, w43, w44, w45, w46, w47, w48, w49, w50, w51, w52, w53, w54, w55, w56, w57, w58])), (ms, .inl (y 1, 30000, .inl (zf tM 64 f1)))] := hD
      have u117 : upd (zf tD2 0 (zf tS2 8 f4)) (nI 0).toNatClampNeg ((tS2 0) + ((tR 64) 0)) = zf tD2 1 (zf tS2 8 f4) := (zf_st (n := 0) (by decide) (by decide +kernel))
      rw [u117] at hP hD
      have hP : va_P D vwCl [(wd, .inl (y 1, 80, .inl (zf tW2 64 f2))), (dg, .inl (y 1, 32, .inl f3)), (st, .inl (y 1, 8, .inl (zf tD2 1 (zf tS2 8 f4)))), (nw, .inl (y 1, 8, .inl (zf (tR 64) 8 f5))), (h0, .inr (16, [w1, w2, w3, w4, w5, w6, w7, w8, w9, w10, w11, w12, w13, w14, .int (nI 64), .ref ms, .ref dg, .ref wd, .ref st, .ref nw, w15, w16, w17, w18, w19, w20, w21, w22, w23, w24, w25, w26, w27, w28, w29, w30, w31, w32, w33, w34, w35, w36, w37, w38, w39, w40, w41, w42, w43, w44, w45, w46, w47, w48, w49, w50, w51, w52, w53, w54, w55, w56, w57, w58])), (ms, .inl (y 1, 30000, .inl (zf tM 64 f1)))] H := hP
      have hD : va_D A [(wd, .inl (y 1, 80, .inl (zf tW2 64 f2))), (dg, .inl (y 1, 32, .inl f3)), (st, .inl (y 1, 8, .inl (zf tD2 1 (zf tS2 8 f4)))), (nw, .inl (y 1, 8, .inl (zf (tR 64) 8 f5))), (h0, .inr (16, [w1, w2, w3, w4, w5, w6, w7, w8, w9, w10, w11, w12, w13, w14, .int (nI 64), .ref ms, .ref dg, .ref wd, .ref st, .ref nw, w15, w16, w17, w18, w19, w20, w21, w22, w23, w24, w25, w26, w27, w28, w29, w30, w31, w32, w33, w34, w35, w36, w37, w38, w39, w40, w41, w42, w43, w44, w45, w46, w47, w48, w49, w50, w51, w52, w53, w54, w55, w56, w57, w58])), (ms, .inl (y 1, 30000, .inl (zf tM 64 f1)))] := hD
      refine lv_iinc (v := 1) (lv' := [(3, .int 1), (2, .int 0), (1, .int 1), (0, .ref h0)]) hx hb dX12_secondHash_486 hl (k := 0) rfl (by decide) (by decide) rfl (fun ls hl => ?_)
      refine lv_goto (tgt := 465) hx hb dX12_secondHash_489 (by decide) ?_
      refine lv_iload_n hx hb dX12_secondHash_465 rfl (lv_at hl 0 rfl) ?_
      refine lv_bipush (v := 8) hx hb dX12_secondHash_466 (by decide) ?_
      refine lv_icmp_ge (tgt := 492) hx hb dX12_secondHash_468 (by decide) (fun c9 => absurd c9 (by decide)) (fun _ => ?_)
      refine lv_aload_n hx hb dX12_secondHash_471 rfl (lv_at hl 3 rfl) ?_
      refine va_get (D := D) (ci := 16) (v := .ref st) (C := RX12) (T := TX12) (N := 64) hx hb hts (by decide +kernel) hown hK hP 4 rfl rfl 18 (by decide) (hts (.fieldLink RX12 49 "SignetRingModel" "state" "[I") (by decide +kernel)) (fun _ h9 => h9) rfl dX12_secondHash_472 ?_
      refine lv_iload_n hx hb dX12_secondHash_475 rfl (lv_at hl 0 rfl) ?_
      refine lv_dup2_11 hx hb dX12_secondHash_476 rfl rfl ?_
      refine va_iald hx hb hK hP 2 1 rfl rfl (by unfold vp_in; decide) dX12_secondHash_477 ?_
      refine lv_topi (fun v118 ev118 => ?_)
      have ev118 : v118 = tS2 1 := ev118.trans (zf_rdo (j := 1) (by omega) (by omega) (zf_rd (j := 1) (by decide) (by decide)))
      subst ev118
      refine lv_aload_n hx hb dX12_secondHash_478 rfl (lv_at hl 3 rfl) ?_
      refine va_get (D := D) (ci := 16) (v := .ref nw) (C := RX12) (T := TX12) (N := 64) hx hb hts (by decide +kernel) hown hK hP 4 rfl rfl 19 (by decide) (hts (.fieldLink RX12 52 "SignetRingModel" "now" "[I") (by decide +kernel)) (fun _ h9 => h9) rfl dX12_secondHash_479 ?_
      refine lv_iload_n hx hb dX12_secondHash_482 rfl (lv_at hl 0 rfl) ?_
      refine va_iald hx hb hK hP 3 1 rfl rfl (by unfold vp_in; decide) dX12_secondHash_483 ?_
      refine lv_topi (fun v119 ev119 => ?_)
      have ev119 : v119 = (tR 64) 1 := ev119.trans (zf_rd (j := 1) (by decide) (by decide))
      subst ev119
      refine lv_iadd hx hb dX12_secondHash_484 ?_
      refine va_iast hx hb hK hP hD hS 2 1 rfl rfl (by unfold vp_in; decide) dX12_secondHash_485 (fun H locs hP hD hS => ?_)
      have hP : va_P D vwCl [(wd, .inl (y 1, 80, .inl (zf tW2 64 f2))), (dg, .inl (y 1, 32, .inl f3)), (st, .inl (y 1, 8, .inl (upd (zf tD2 1 (zf tS2 8 f4)) (nI 1).toNatClampNeg ((tS2 1) + ((tR 64) 1))))), (nw, .inl (y 1, 8, .inl (zf (tR 64) 8 f5))), (h0, .inr (16, [w1, w2, w3, w4, w5, w6, w7, w8, w9, w10, w11, w12, w13, w14, .int (nI 64), .ref ms, .ref dg, .ref wd, .ref st, .ref nw, w15, w16, w17, w18, w19, w20, w21, w22, w23, w24, w25, w26, w27, w28, w29, w30, w31, w32, w33, w34, w35, w36, w37, w38, w39, w40, w41, w42, w43, w44, w45, w46, w47, w48, w49, w50, w51, w52, w53, w54, w55, w56, w57, w58])), (ms, .inl (y 1, 30000, .inl (zf tM 64 f1)))] H := hP
      have hD : va_D A [(wd, .inl (y 1, 80, .inl (zf tW2 64 f2))), (dg, .inl (y 1, 32, .inl f3)), (st, .inl (y 1, 8, .inl (upd (zf tD2 1 (zf tS2 8 f4)) (nI 1).toNatClampNeg ((tS2 1) + ((tR 64) 1))))), (nw, .inl (y 1, 8, .inl (zf (tR 64) 8 f5))), (h0, .inr (16, [w1, w2, w3, w4, w5, w6, w7, w8, w9, w10, w11, w12, w13, w14, .int (nI 64), .ref ms, .ref dg, .ref wd, .ref st, .ref nw, w15, w16, w17, w18, w19, w20, w21, w22, w23, w24, w25, w26, w27, w28, w29, w30, w31, w32, w33, w34, w35, w36, w37, w38, w39, w40, w41, w42, w43, w44, w45, w46, w47, w48, w49, w50, w51, w52, w53, w54, w55, w56, w57, w58])), (ms, .inl (y 1, 30000, .inl (zf tM 64 f1)))] := hD
      have u120 : upd (zf tD2 1 (zf tS2 8 f4)) (nI 1).toNatClampNeg ((tS2 1) + ((tR 64) 1)) = zf tD2 2 (zf tS2 8 f4) := (zf_st (n := 1) (by decide) (by decide +kernel))
      rw [u120] at hP hD
      have hP : va_P D vwCl [(wd, .inl (y 1, 80, .inl (zf tW2 64 f2))), (dg, .inl (y 1, 32, .inl f3)), (st, .inl (y 1, 8, .inl (zf tD2 2 (zf tS2 8 f4)))), (nw, .inl (y 1, 8, .inl (zf (tR 64) 8 f5))), (h0, .inr (16, [w1, w2, w3, w4, w5, w6, w7, w8, w9, w10, w11, w12, w13, w14, .int (nI 64), .ref ms, .ref dg, .ref wd, .ref st, .ref nw, w15, w16, w17, w18, w19, w20, w21, w22, w23, w24, w25, w26, w27, w28, w29, w30, w31, w32, w33, w34, w35, w36, w37, w38, w39, w40, w41, w42, w43, w44, w45, w46, w47, w48, w49, w50, w51, w52, w53, w54, w55, w56, w57, w58])), (ms, .inl (y 1, 30000, .inl (zf tM 64 f1)))] H := hP
      have hD : va_D A [(wd, .inl (y 1, 80, .inl (zf tW2 64 f2))), (dg, .inl (y 1, 32, .inl f3)), (st, .inl (y 1, 8, .inl (zf tD2 2 (zf tS2 8 f4)))), (nw, .inl (y 1, 8, .inl (zf (tR 64) 8 f5))), (h0, .inr (16, [w1, w2, w3, w4, w5, w6, w7, w8, w9, w10, w11, w12, w13, w14, .int (nI 64), .ref ms, .ref dg, .ref wd, .ref st, .ref nw, w15, w16, w17, w18, w19, w20, w21, w22, w23, w24, w25, w26, w27, w28, w29, w30, w31, w32, w33, w34, w35, w36, w37, w38, w39, w40, w41, w42, w43, w44, w45, w46, w47, w48, w49, w50, w51, w52, w53, w54, w55, w56, w57, w58])), (ms, .inl (y 1, 30000, .inl (zf tM 64 f1)))] := hD
      refine lv_iinc (v := 2) (lv' := [(3, .int 2), (2, .int 0), (1, .int 1), (0, .ref h0)]) hx hb dX12_secondHash_486 hl (k := 0) rfl (by decide) (by decide) rfl (fun ls hl => ?_)
      refine lv_goto (tgt := 465) hx hb dX12_secondHash_489 (by decide) ?_
      refine lv_iload_n hx hb dX12_secondHash_465 rfl (lv_at hl 0 rfl) ?_
      refine lv_bipush (v := 8) hx hb dX12_secondHash_466 (by decide) ?_
      refine lv_icmp_ge (tgt := 492) hx hb dX12_secondHash_468 (by decide) (fun c9 => absurd c9 (by decide)) (fun _ => ?_)
      refine lv_aload_n hx hb dX12_secondHash_471 rfl (lv_at hl 3 rfl) ?_
      refine va_get (D := D) (ci := 16) (v := .ref st) (C := RX12) (T := TX12) (N := 64) hx hb hts (by decide +kernel) hown hK hP 4 rfl rfl 18 (by decide) (hts (.fieldLink RX12 49 "SignetRingModel" "state" "[I") (by decide +kernel)) (fun _ h9 => h9) rfl dX12_secondHash_472 ?_
      refine lv_iload_n hx hb dX12_secondHash_475 rfl (lv_at hl 0 rfl) ?_
      refine lv_dup2_11 hx hb dX12_secondHash_476 rfl rfl ?_
      refine va_iald hx hb hK hP 2 1 rfl rfl (by unfold vp_in; decide) dX12_secondHash_477 ?_
      refine lv_topi (fun v121 ev121 => ?_)
      have ev121 : v121 = tS2 2 := ev121.trans (zf_rdo (j := 2) (by omega) (by omega) (zf_rd (j := 2) (by decide) (by decide)))
      subst ev121
      refine lv_aload_n hx hb dX12_secondHash_478 rfl (lv_at hl 3 rfl) ?_
      refine va_get (D := D) (ci := 16) (v := .ref nw) (C := RX12) (T := TX12) (N := 64) hx hb hts (by decide +kernel) hown hK hP 4 rfl rfl 19 (by decide) (hts (.fieldLink RX12 52 "SignetRingModel" "now" "[I") (by decide +kernel)) (fun _ h9 => h9) rfl dX12_secondHash_479 ?_
      refine lv_iload_n hx hb dX12_secondHash_482 rfl (lv_at hl 0 rfl) ?_
      refine va_iald hx hb hK hP 3 1 rfl rfl (by unfold vp_in; decide) dX12_secondHash_483 ?_
      refine lv_topi (fun v122 ev122 => ?_)
      have ev122 : v122 = (tR 64) 2 := ev122.trans (zf_rd (j := 2) (by decide) (by decide))
      subst ev122
      refine lv_iadd hx hb dX12_secondHash_484 ?_
      refine va_iast hx hb hK hP hD hS 2 1 rfl rfl (by unfold vp_in; decide) dX12_secondHash_485 (fun H locs hP hD hS => ?_)
      have hP : va_P D vwCl [(wd, .inl (y 1, 80, .inl (zf tW2 64 f2))), (dg, .inl (y 1, 32, .inl f3)), (st, .inl (y 1, 8, .inl (upd (zf tD2 2 (zf tS2 8 f4)) (nI 2).toNatClampNeg ((tS2 2) + ((tR 64) 2))))), (nw, .inl (y 1, 8, .inl (zf (tR 64) 8 f5))), (h0, .inr (16, [w1, w2, w3, w4, w5, w6, w7, w8, w9, w10, w11, w12, w13, w14, .int (nI 64), .ref ms, .ref dg, .ref wd, .ref st, .ref nw, w15, w16, w17, w18, w19, w20, w21, w22, w23, w24, w25, w26, w27, w28, w29, w30, w31, w32, w33, w34, w35, w36, w37, w38, w39, w40, w41, w42, w43, w44, w45, w46, w47, w48, w49, w50, w51, w52, w53, w54, w55, w56, w57, w58])), (ms, .inl (y 1, 30000, .inl (zf tM 64 f1)))] H := hP
      have hD : va_D A [(wd, .inl (y 1, 80, .inl (zf tW2 64 f2))), (dg, .inl (y 1, 32, .inl f3)), (st, .inl (y 1, 8, .inl (upd (zf tD2 2 (zf tS2 8 f4)) (nI 2).toNatClampNeg ((tS2 2) + ((tR 64) 2))))), (nw, .inl (y 1, 8, .inl (zf (tR 64) 8 f5))), (h0, .inr (16, [w1, w2, w3, w4, w5, w6, w7, w8, w9, w10, w11, w12, w13, w14, .int (nI 64), .ref ms, .ref dg, .ref wd, .ref st, .ref nw, w15, w16, w17, w18, w19, w20, w21, w22, w23, w24, w25, w26, w27, w28, w29, w30, w31, w32, w33, w34, w35, w36, w37, w38, w39, w40, w41, w42, w43, w44, w45, w46, w47, w48, w49, w50, w51, w52, w53, w54, w55, w56, w57, w58])), (ms, .inl (y 1, 30000, .inl (zf tM 64 f1)))] := hD
      have u123 : upd (zf tD2 2 (zf tS2 8 f4)) (nI 2).toNatClampNeg ((tS2 2) + ((tR 64) 2)) = zf tD2 3 (zf tS2 8 f4) := (zf_st (n := 2) (by decide) (by decide +kernel))
      rw [u123] at hP hD
      have hP : va_P D vwCl [(wd, .inl (y 1, 80, .inl (zf tW2 64 f2))), (dg, .inl (y 1, 32, .inl f3)), (st, .inl (y 1, 8, .inl (zf tD2 3 (zf tS2 8 f4)))), (nw, .inl (y 1, 8, .inl (zf (tR 64) 8 f5))), (h0, .inr (16, [w1, w2, w3, w4, w5, w6, w7, w8, w9, w10, w11, w12, w13, w14, .int (nI 64), .ref ms, .ref dg, .ref wd, .ref st, .ref nw, w15, w16, w17, w18, w19, w20, w21, w22, w23, w24, w25, w26, w27, w28, w29, w30, w31, w32, w33, w34, w35, w36, w37, w38, w39, w40, w41, w42, w43, w44, w45, w46, w47, w48, w49, w50, w51, w52, w53, w54, w55, w56, w57, w58])), (ms, .inl (y 1, 30000, .inl (zf tM 64 f1)))] H := hP
      have hD : va_D A [(wd, .inl (y 1, 80, .inl (zf tW2 64 f2))), (dg, .inl (y 1, 32, .inl f3)), (st, .inl (y 1, 8, .inl (zf tD2 3 (zf tS2 8 f4)))), (nw, .inl (y 1, 8, .inl (zf (tR 64) 8 f5))), (h0, .inr (16, [w1, w2, w3, w4, w5, w6, w7, w8, w9, w10, w11, w12, w13, w14, .int (nI 64), .ref ms, .ref dg, .ref wd, .ref st, .ref nw, w15, w16, w17, w18, w19, w20, w21, w22, w23, w24, w25, w26, w27, w28, w29, w30, w31, w32, w33, w34, w35, w36, w37, w38, w39, w40, w41, w42, w43, w44, w45, w46, w47, w48, w49, w50, w51, w52, w53, w54, w55, w56, w57, w58])), (ms, .inl (y 1, 30000, .inl (zf tM 64 f1)))] := hD
      refine lv_iinc (v := 3) (lv' := [(3, .int 3), (2, .int 0), (1, .int 1), (0, .ref h0)]) hx hb dX12_secondHash_486 hl (k := 0) rfl (by decide) (by decide) rfl (fun ls hl => ?_)
      refine lv_goto (tgt := 465) hx hb dX12_secondHash_489 (by decide) ?_
      refine lv_iload_n hx hb dX12_secondHash_465 rfl (lv_at hl 0 rfl) ?_
      refine lv_bipush (v := 8) hx hb dX12_secondHash_466 (by decide) ?_
      refine lv_icmp_ge (tgt := 492) hx hb dX12_secondHash_468 (by decide) (fun c9 => absurd c9 (by decide)) (fun _ => ?_)
      refine lv_aload_n hx hb dX12_secondHash_471 rfl (lv_at hl 3 rfl) ?_
      refine va_get (D := D) (ci := 16) (v := .ref st) (C := RX12) (T := TX12) (N := 64) hx hb hts (by decide +kernel) hown hK hP 4 rfl rfl 18 (by decide) (hts (.fieldLink RX12 49 "SignetRingModel" "state" "[I") (by decide +kernel)) (fun _ h9 => h9) rfl dX12_secondHash_472 ?_
      refine lv_iload_n hx hb dX12_secondHash_475 rfl (lv_at hl 0 rfl) ?_
      refine lv_dup2_11 hx hb dX12_secondHash_476 rfl rfl ?_
      refine va_iald hx hb hK hP 2 1 rfl rfl (by unfold vp_in; decide) dX12_secondHash_477 ?_
      refine lv_topi (fun v124 ev124 => ?_)
      have ev124 : v124 = tS2 3 := ev124.trans (zf_rdo (j := 3) (by omega) (by omega) (zf_rd (j := 3) (by decide) (by decide)))
      subst ev124
      refine lv_aload_n hx hb dX12_secondHash_478 rfl (lv_at hl 3 rfl) ?_
      refine va_get (D := D) (ci := 16) (v := .ref nw) (C := RX12) (T := TX12) (N := 64) hx hb hts (by decide +kernel) hown hK hP 4 rfl rfl 19 (by decide) (hts (.fieldLink RX12 52 "SignetRingModel" "now" "[I") (by decide +kernel)) (fun _ h9 => h9) rfl dX12_secondHash_479 ?_
      refine lv_iload_n hx hb dX12_secondHash_482 rfl (lv_at hl 0 rfl) ?_
      refine va_iald hx hb hK hP 3 1 rfl rfl (by unfold vp_in; decide) dX12_secondHash_483 ?_
      refine lv_topi (fun v125 ev125 => ?_)
      have ev125 : v125 = (tR 64) 3 := ev125.trans (zf_rd (j := 3) (by decide) (by decide))
      subst ev125
      refine lv_iadd hx hb dX12_secondHash_484 ?_
      refine va_iast hx hb hK hP hD hS 2 1 rfl rfl (by unfold vp_in; decide) dX12_secondHash_485 (fun H locs hP hD hS => ?_)
      have hP : va_P D vwCl [(wd, .inl (y 1, 80, .inl (zf tW2 64 f2))), (dg, .inl (y 1, 32, .inl f3)), (st, .inl (y 1, 8, .inl (upd (zf tD2 3 (zf tS2 8 f4)) (nI 3).toNatClampNeg ((tS2 3) + ((tR 64) 3))))), (nw, .inl (y 1, 8, .inl (zf (tR 64) 8 f5))), (h0, .inr (16, [w1, w2, w3, w4, w5, w6, w7, w8, w9, w10, w11, w12, w13, w14, .int (nI 64), .ref ms, .ref dg, .ref wd, .ref st, .ref nw, w15, w16, w17, w18, w19, w20, w21, w22, w23, w24, w25, w26, w27, w28, w29, w30, w31, w32, w33, w34, w35, w36, w37, w38, w39, w40, w41, w42, w43, w44, w45, w46, w47, w48, w49, w50, w51, w52, w53, w54, w55, w56, w57, w58])), (ms, .inl (y 1, 30000, .inl (zf tM 64 f1)))] H := hP
      have hD : va_D A [(wd, .inl (y 1, 80, .inl (zf tW2 64 f2))), (dg, .inl (y 1, 32, .inl f3)), (st, .inl (y 1, 8, .inl (upd (zf tD2 3 (zf tS2 8 f4)) (nI 3).toNatClampNeg ((tS2 3) + ((tR 64) 3))))), (nw, .inl (y 1, 8, .inl (zf (tR 64) 8 f5))), (h0, .inr (16, [w1, w2, w3, w4, w5, w6, w7, w8, w9, w10, w11, w12, w13, w14, .int (nI 64), .ref ms, .ref dg, .ref wd, .ref st, .ref nw, w15, w16, w17, w18, w19, w20, w21, w22, w23, w24, w25, w26, w27, w28, w29, w30, w31, w32, w33, w34, w35, w36, w37, w38, w39, w40, w41, w42, w43, w44, w45, w46, w47, w48, w49, w50, w51, w52, w53, w54, w55, w56, w57, w58])), (ms, .inl (y 1, 30000, .inl (zf tM 64 f1)))] := hD
      have u126 : upd (zf tD2 3 (zf tS2 8 f4)) (nI 3).toNatClampNeg ((tS2 3) + ((tR 64) 3)) = zf tD2 4 (zf tS2 8 f4) := (zf_st (n := 3) (by decide) (by decide +kernel))
      rw [u126] at hP hD
      have hP : va_P D vwCl [(wd, .inl (y 1, 80, .inl (zf tW2 64 f2))), (dg, .inl (y 1, 32, .inl f3)), (st, .inl (y 1, 8, .inl (zf tD2 4 (zf tS2 8 f4)))), (nw, .inl (y 1, 8, .inl (zf (tR 64) 8 f5))), (h0, .inr (16, [w1, w2, w3, w4, w5, w6, w7, w8, w9, w10, w11, w12, w13, w14, .int (nI 64), .ref ms, .ref dg, .ref wd, .ref st, .ref nw, w15, w16, w17, w18, w19, w20, w21, w22, w23, w24, w25, w26, w27, w28, w29, w30, w31, w32, w33, w34, w35, w36, w37, w38, w39, w40, w41, w42, w43, w44, w45, w46, w47, w48, w49, w50, w51, w52, w53, w54, w55, w56, w57, w58])), (ms, .inl (y 1, 30000, .inl (zf tM 64 f1)))] H := hP
      have hD : va_D A [(wd, .inl (y 1, 80, .inl (zf tW2 64 f2))), (dg, .inl (y 1, 32, .inl f3)), (st, .inl (y 1, 8, .inl (zf tD2 4 (zf tS2 8 f4)))), (nw, .inl (y 1, 8, .inl (zf (tR 64) 8 f5))), (h0, .inr (16, [w1, w2, w3, w4, w5, w6, w7, w8, w9, w10, w11, w12, w13, w14, .int (nI 64), .ref ms, .ref dg, .ref wd, .ref st, .ref nw, w15, w16, w17, w18, w19, w20, w21, w22, w23, w24, w25, w26, w27, w28, w29, w30, w31, w32, w33, w34, w35, w36, w37, w38, w39, w40, w41, w42, w43, w44, w45, w46, w47, w48, w49, w50, w51, w52, w53, w54, w55, w56, w57, w58])), (ms, .inl (y 1, 30000, .inl (zf tM 64 f1)))] := hD
      refine lv_iinc (v := 4) (lv' := [(3, .int 4), (2, .int 0), (1, .int 1), (0, .ref h0)]) hx hb dX12_secondHash_486 hl (k := 0) rfl (by decide) (by decide) rfl (fun ls hl => ?_)
      refine lv_goto (tgt := 465) hx hb dX12_secondHash_489 (by decide) ?_
      refine lv_iload_n hx hb dX12_secondHash_465 rfl (lv_at hl 0 rfl) ?_
      refine lv_bipush (v := 8) hx hb dX12_secondHash_466 (by decide) ?_
      refine lv_icmp_ge (tgt := 492) hx hb dX12_secondHash_468 (by decide) (fun c9 => absurd c9 (by decide)) (fun _ => ?_)
      refine lv_aload_n hx hb dX12_secondHash_471 rfl (lv_at hl 3 rfl) ?_
      refine va_get (D := D) (ci := 16) (v := .ref st) (C := RX12) (T := TX12) (N := 64) hx hb hts (by decide +kernel) hown hK hP 4 rfl rfl 18 (by decide) (hts (.fieldLink RX12 49 "SignetRingModel" "state" "[I") (by decide +kernel)) (fun _ h9 => h9) rfl dX12_secondHash_472 ?_
      refine lv_iload_n hx hb dX12_secondHash_475 rfl (lv_at hl 0 rfl) ?_
      refine lv_dup2_11 hx hb dX12_secondHash_476 rfl rfl ?_
      refine va_iald hx hb hK hP 2 1 rfl rfl (by unfold vp_in; decide) dX12_secondHash_477 ?_
      refine lv_topi (fun v127 ev127 => ?_)
      have ev127 : v127 = tS2 4 := ev127.trans (zf_rdo (j := 4) (by omega) (by omega) (zf_rd (j := 4) (by decide) (by decide)))
      subst ev127
      refine lv_aload_n hx hb dX12_secondHash_478 rfl (lv_at hl 3 rfl) ?_
      refine va_get (D := D) (ci := 16) (v := .ref nw) (C := RX12) (T := TX12) (N := 64) hx hb hts (by decide +kernel) hown hK hP 4 rfl rfl 19 (by decide) (hts (.fieldLink RX12 52 "SignetRingModel" "now" "[I") (by decide +kernel)) (fun _ h9 => h9) rfl dX12_secondHash_479 ?_
      refine lv_iload_n hx hb dX12_secondHash_482 rfl (lv_at hl 0 rfl) ?_
      refine va_iald hx hb hK hP 3 1 rfl rfl (by unfold vp_in; decide) dX12_secondHash_483 ?_
      refine lv_topi (fun v128 ev128 => ?_)
      have ev128 : v128 = (tR 64) 4 := ev128.trans (zf_rd (j := 4) (by decide) (by decide))
      subst ev128
      refine lv_iadd hx hb dX12_secondHash_484 ?_
      refine va_iast hx hb hK hP hD hS 2 1 rfl rfl (by unfold vp_in; decide) dX12_secondHash_485 (fun H locs hP hD hS => ?_)
      have hP : va_P D vwCl [(wd, .inl (y 1, 80, .inl (zf tW2 64 f2))), (dg, .inl (y 1, 32, .inl f3)), (st, .inl (y 1, 8, .inl (upd (zf tD2 4 (zf tS2 8 f4)) (nI 4).toNatClampNeg ((tS2 4) + ((tR 64) 4))))), (nw, .inl (y 1, 8, .inl (zf (tR 64) 8 f5))), (h0, .inr (16, [w1, w2, w3, w4, w5, w6, w7, w8, w9, w10, w11, w12, w13, w14, .int (nI 64), .ref ms, .ref dg, .ref wd, .ref st, .ref nw, w15, w16, w17, w18, w19, w20, w21, w22, w23, w24, w25, w26, w27, w28, w29, w30, w31, w32, w33, w34, w35, w36, w37, w38, w39, w40, w41, w42, w43, w44, w45, w46, w47, w48, w49, w50, w51, w52, w53, w54, w55, w56, w57, w58])), (ms, .inl (y 1, 30000, .inl (zf tM 64 f1)))] H := hP
      have hD : va_D A [(wd, .inl (y 1, 80, .inl (zf tW2 64 f2))), (dg, .inl (y 1, 32, .inl f3)), (st, .inl (y 1, 8, .inl (upd (zf tD2 4 (zf tS2 8 f4)) (nI 4).toNatClampNeg ((tS2 4) + ((tR 64) 4))))), (nw, .inl (y 1, 8, .inl (zf (tR 64) 8 f5))), (h0, .inr (16, [w1, w2, w3, w4, w5, w6, w7, w8, w9, w10, w11, w12, w13, w14, .int (nI 64), .ref ms, .ref dg, .ref wd, .ref st, .ref nw, w15, w16, w17, w18, w19, w20, w21, w22, w23, w24, w25, w26, w27, w28, w29, w30, w31, w32, w33, w34, w35, w36, w37, w38, w39, w40, w41, w42, w43, w44, w45, w46, w47, w48, w49, w50, w51, w52, w53, w54, w55, w56, w57, w58])), (ms, .inl (y 1, 30000, .inl (zf tM 64 f1)))] := hD
      have u129 : upd (zf tD2 4 (zf tS2 8 f4)) (nI 4).toNatClampNeg ((tS2 4) + ((tR 64) 4)) = zf tD2 5 (zf tS2 8 f4) := (zf_st (n := 4) (by decide) (by decide +kernel))
      rw [u129] at hP hD
      have hP : va_P D vwCl [(wd, .inl (y 1, 80, .inl (zf tW2 64 f2))), (dg, .inl (y 1, 32, .inl f3)), (st, .inl (y 1, 8, .inl (zf tD2 5 (zf tS2 8 f4)))), (nw, .inl (y 1, 8, .inl (zf (tR 64) 8 f5))), (h0, .inr (16, [w1, w2, w3, w4, w5, w6, w7, w8, w9, w10, w11, w12, w13, w14, .int (nI 64), .ref ms, .ref dg, .ref wd, .ref st, .ref nw, w15, w16, w17, w18, w19, w20, w21, w22, w23, w24, w25, w26, w27, w28, w29, w30, w31, w32, w33, w34, w35, w36, w37, w38, w39, w40, w41, w42, w43, w44, w45, w46, w47, w48, w49, w50, w51, w52, w53, w54, w55, w56, w57, w58])), (ms, .inl (y 1, 30000, .inl (zf tM 64 f1)))] H := hP
      have hD : va_D A [(wd, .inl (y 1, 80, .inl (zf tW2 64 f2))), (dg, .inl (y 1, 32, .inl f3)), (st, .inl (y 1, 8, .inl (zf tD2 5 (zf tS2 8 f4)))), (nw, .inl (y 1, 8, .inl (zf (tR 64) 8 f5))), (h0, .inr (16, [w1, w2, w3, w4, w5, w6, w7, w8, w9, w10, w11, w12, w13, w14, .int (nI 64), .ref ms, .ref dg, .ref wd, .ref st, .ref nw, w15, w16, w17, w18, w19, w20, w21, w22, w23, w24, w25, w26, w27, w28, w29, w30, w31, w32, w33, w34, w35, w36, w37, w38, w39, w40, w41, w42, w43, w44, w45, w46, w47, w48, w49, w50, w51, w52, w53, w54, w55, w56, w57, w58])), (ms, .inl (y 1, 30000, .inl (zf tM 64 f1)))] := hD
      refine lv_iinc (v := 5) (lv' := [(3, .int 5), (2, .int 0), (1, .int 1), (0, .ref h0)]) hx hb dX12_secondHash_486 hl (k := 0) rfl (by decide) (by decide) rfl (fun ls hl => ?_)
      refine lv_goto (tgt := 465) hx hb dX12_secondHash_489 (by decide) ?_
      refine lv_iload_n hx hb dX12_secondHash_465 rfl (lv_at hl 0 rfl) ?_
      refine lv_bipush (v := 8) hx hb dX12_secondHash_466 (by decide) ?_
      refine lv_icmp_ge (tgt := 492) hx hb dX12_secondHash_468 (by decide) (fun c9 => absurd c9 (by decide)) (fun _ => ?_)
      refine lv_aload_n hx hb dX12_secondHash_471 rfl (lv_at hl 3 rfl) ?_
      refine va_get (D := D) (ci := 16) (v := .ref st) (C := RX12) (T := TX12) (N := 64) hx hb hts (by decide +kernel) hown hK hP 4 rfl rfl 18 (by decide) (hts (.fieldLink RX12 49 "SignetRingModel" "state" "[I") (by decide +kernel)) (fun _ h9 => h9) rfl dX12_secondHash_472 ?_
      refine lv_iload_n hx hb dX12_secondHash_475 rfl (lv_at hl 0 rfl) ?_
      refine lv_dup2_11 hx hb dX12_secondHash_476 rfl rfl ?_
      refine va_iald hx hb hK hP 2 1 rfl rfl (by unfold vp_in; decide) dX12_secondHash_477 ?_
      refine lv_topi (fun v130 ev130 => ?_)
      have ev130 : v130 = tS2 5 := ev130.trans (zf_rdo (j := 5) (by omega) (by omega) (zf_rd (j := 5) (by decide) (by decide)))
      subst ev130
      refine lv_aload_n hx hb dX12_secondHash_478 rfl (lv_at hl 3 rfl) ?_
      refine va_get (D := D) (ci := 16) (v := .ref nw) (C := RX12) (T := TX12) (N := 64) hx hb hts (by decide +kernel) hown hK hP 4 rfl rfl 19 (by decide) (hts (.fieldLink RX12 52 "SignetRingModel" "now" "[I") (by decide +kernel)) (fun _ h9 => h9) rfl dX12_secondHash_479 ?_
      refine lv_iload_n hx hb dX12_secondHash_482 rfl (lv_at hl 0 rfl) ?_
      refine va_iald hx hb hK hP 3 1 rfl rfl (by unfold vp_in; decide) dX12_secondHash_483 ?_
      refine lv_topi (fun v131 ev131 => ?_)
      have ev131 : v131 = (tR 64) 5 := ev131.trans (zf_rd (j := 5) (by decide) (by decide))
      subst ev131
      refine lv_iadd hx hb dX12_secondHash_484 ?_
      refine va_iast hx hb hK hP hD hS 2 1 rfl rfl (by unfold vp_in; decide) dX12_secondHash_485 (fun H locs hP hD hS => ?_)
      have hP : va_P D vwCl [(wd, .inl (y 1, 80, .inl (zf tW2 64 f2))), (dg, .inl (y 1, 32, .inl f3)), (st, .inl (y 1, 8, .inl (upd (zf tD2 5 (zf tS2 8 f4)) (nI 5).toNatClampNeg ((tS2 5) + ((tR 64) 5))))), (nw, .inl (y 1, 8, .inl (zf (tR 64) 8 f5))), (h0, .inr (16, [w1, w2, w3, w4, w5, w6, w7, w8, w9, w10, w11, w12, w13, w14, .int (nI 64), .ref ms, .ref dg, .ref wd, .ref st, .ref nw, w15, w16, w17, w18, w19, w20, w21, w22, w23, w24, w25, w26, w27, w28, w29, w30, w31, w32, w33, w34, w35, w36, w37, w38, w39, w40, w41, w42, w43, w44, w45, w46, w47, w48, w49, w50, w51, w52, w53, w54, w55, w56, w57, w58])), (ms, .inl (y 1, 30000, .inl (zf tM 64 f1)))] H := hP
      have hD : va_D A [(wd, .inl (y 1, 80, .inl (zf tW2 64 f2))), (dg, .inl (y 1, 32, .inl f3)), (st, .inl (y 1, 8, .inl (upd (zf tD2 5 (zf tS2 8 f4)) (nI 5).toNatClampNeg ((tS2 5) + ((tR 64) 5))))), (nw, .inl (y 1, 8, .inl (zf (tR 64) 8 f5))), (h0, .inr (16, [w1, w2, w3, w4, w5, w6, w7, w8, w9, w10, w11, w12, w13, w14, .int (nI 64), .ref ms, .ref dg, .ref wd, .ref st, .ref nw, w15, w16, w17, w18, w19, w20, w21, w22, w23, w24, w25, w26, w27, w28, w29, w30, w31, w32, w33, w34, w35, w36, w37, w38, w39, w40, w41, w42, w43, w44, w45, w46, w47, w48, w49, w50, w51, w52, w53, w54, w55, w56, w57, w58])), (ms, .inl (y 1, 30000, .inl (zf tM 64 f1)))] := hD
      have u132 : upd (zf tD2 5 (zf tS2 8 f4)) (nI 5).toNatClampNeg ((tS2 5) + ((tR 64) 5)) = zf tD2 6 (zf tS2 8 f4) := (zf_st (n := 5) (by decide) (by decide +kernel))
      rw [u132] at hP hD
      have hP : va_P D vwCl [(wd, .inl (y 1, 80, .inl (zf tW2 64 f2))), (dg, .inl (y 1, 32, .inl f3)), (st, .inl (y 1, 8, .inl (zf tD2 6 (zf tS2 8 f4)))), (nw, .inl (y 1, 8, .inl (zf (tR 64) 8 f5))), (h0, .inr (16, [w1, w2, w3, w4, w5, w6, w7, w8, w9, w10, w11, w12, w13, w14, .int (nI 64), .ref ms, .ref dg, .ref wd, .ref st, .ref nw, w15, w16, w17, w18, w19, w20, w21, w22, w23, w24, w25, w26, w27, w28, w29, w30, w31, w32, w33, w34, w35, w36, w37, w38, w39, w40, w41, w42, w43, w44, w45, w46, w47, w48, w49, w50, w51, w52, w53, w54, w55, w56, w57, w58])), (ms, .inl (y 1, 30000, .inl (zf tM 64 f1)))] H := hP
      have hD : va_D A [(wd, .inl (y 1, 80, .inl (zf tW2 64 f2))), (dg, .inl (y 1, 32, .inl f3)), (st, .inl (y 1, 8, .inl (zf tD2 6 (zf tS2 8 f4)))), (nw, .inl (y 1, 8, .inl (zf (tR 64) 8 f5))), (h0, .inr (16, [w1, w2, w3, w4, w5, w6, w7, w8, w9, w10, w11, w12, w13, w14, .int (nI 64), .ref ms, .ref dg, .ref wd, .ref st, .ref nw, w15, w16, w17, w18, w19, w20, w21, w22, w23, w24, w25, w26, w27, w28, w29, w30, w31, w32, w33, w34, w35, w36, w37, w38, w39, w40, w41, w42, w43, w44, w45, w46, w47, w48, w49, w50, w51, w52, w53, w54, w55, w56, w57, w58])), (ms, .inl (y 1, 30000, .inl (zf tM 64 f1)))] := hD
      refine lv_iinc (v := 6) (lv' := [(3, .int 6), (2, .int 0), (1, .int 1), (0, .ref h0)]) hx hb dX12_secondHash_486 hl (k := 0) rfl (by decide) (by decide) rfl (fun ls hl => ?_)
      refine lv_goto (tgt := 465) hx hb dX12_secondHash_489 (by decide) ?_
      refine lv_iload_n hx hb dX12_secondHash_465 rfl (lv_at hl 0 rfl) ?_
      refine lv_bipush (v := 8) hx hb dX12_secondHash_466 (by decide) ?_
      refine lv_icmp_ge (tgt := 492) hx hb dX12_secondHash_468 (by decide) (fun c9 => absurd c9 (by decide)) (fun _ => ?_)
      refine lv_aload_n hx hb dX12_secondHash_471 rfl (lv_at hl 3 rfl) ?_
      refine va_get (D := D) (ci := 16) (v := .ref st) (C := RX12) (T := TX12) (N := 64) hx hb hts (by decide +kernel) hown hK hP 4 rfl rfl 18 (by decide) (hts (.fieldLink RX12 49 "SignetRingModel" "state" "[I") (by decide +kernel)) (fun _ h9 => h9) rfl dX12_secondHash_472 ?_
      refine lv_iload_n hx hb dX12_secondHash_475 rfl (lv_at hl 0 rfl) ?_
      refine lv_dup2_11 hx hb dX12_secondHash_476 rfl rfl ?_
      refine va_iald hx hb hK hP 2 1 rfl rfl (by unfold vp_in; decide) dX12_secondHash_477 ?_
      refine lv_topi (fun v133 ev133 => ?_)
      have ev133 : v133 = tS2 6 := ev133.trans (zf_rdo (j := 6) (by omega) (by omega) (zf_rd (j := 6) (by decide) (by decide)))
      subst ev133
      refine lv_aload_n hx hb dX12_secondHash_478 rfl (lv_at hl 3 rfl) ?_
      refine va_get (D := D) (ci := 16) (v := .ref nw) (C := RX12) (T := TX12) (N := 64) hx hb hts (by decide +kernel) hown hK hP 4 rfl rfl 19 (by decide) (hts (.fieldLink RX12 52 "SignetRingModel" "now" "[I") (by decide +kernel)) (fun _ h9 => h9) rfl dX12_secondHash_479 ?_
      refine lv_iload_n hx hb dX12_secondHash_482 rfl (lv_at hl 0 rfl) ?_
      refine va_iald hx hb hK hP 3 1 rfl rfl (by unfold vp_in; decide) dX12_secondHash_483 ?_
      refine lv_topi (fun v134 ev134 => ?_)
      have ev134 : v134 = (tR 64) 6 := ev134.trans (zf_rd (j := 6) (by decide) (by decide))
      subst ev134
      refine lv_iadd hx hb dX12_secondHash_484 ?_
      refine va_iast hx hb hK hP hD hS 2 1 rfl rfl (by unfold vp_in; decide) dX12_secondHash_485 (fun H locs hP hD hS => ?_)
      have hP : va_P D vwCl [(wd, .inl (y 1, 80, .inl (zf tW2 64 f2))), (dg, .inl (y 1, 32, .inl f3)), (st, .inl (y 1, 8, .inl (upd (zf tD2 6 (zf tS2 8 f4)) (nI 6).toNatClampNeg ((tS2 6) + ((tR 64) 6))))), (nw, .inl (y 1, 8, .inl (zf (tR 64) 8 f5))), (h0, .inr (16, [w1, w2, w3, w4, w5, w6, w7, w8, w9, w10, w11, w12, w13, w14, .int (nI 64), .ref ms, .ref dg, .ref wd, .ref st, .ref nw, w15, w16, w17, w18, w19, w20, w21, w22, w23, w24, w25, w26, w27, w28, w29, w30, w31, w32, w33, w34, w35, w36, w37, w38, w39, w40, w41, w42, w43, w44, w45, w46, w47, w48, w49, w50, w51, w52, w53, w54, w55, w56, w57, w58])), (ms, .inl (y 1, 30000, .inl (zf tM 64 f1)))] H := hP
      have hD : va_D A [(wd, .inl (y 1, 80, .inl (zf tW2 64 f2))), (dg, .inl (y 1, 32, .inl f3)), (st, .inl (y 1, 8, .inl (upd (zf tD2 6 (zf tS2 8 f4)) (nI 6).toNatClampNeg ((tS2 6) + ((tR 64) 6))))), (nw, .inl (y 1, 8, .inl (zf (tR 64) 8 f5))), (h0, .inr (16, [w1, w2, w3, w4, w5, w6, w7, w8, w9, w10, w11, w12, w13, w14, .int (nI 64), .ref ms, .ref dg, .ref wd, .ref st, .ref nw, w15, w16, w17, w18, w19, w20, w21, w22, w23, w24, w25, w26, w27, w28, w29, w30, w31, w32, w33, w34, w35, w36, w37, w38, w39, w40, w41, w42, w43, w44, w45, w46, w47, w48, w49, w50, w51, w52, w53, w54, w55, w56, w57, w58])), (ms, .inl (y 1, 30000, .inl (zf tM 64 f1)))] := hD
      have u135 : upd (zf tD2 6 (zf tS2 8 f4)) (nI 6).toNatClampNeg ((tS2 6) + ((tR 64) 6)) = zf tD2 7 (zf tS2 8 f4) := (zf_st (n := 6) (by decide) (by decide +kernel))
      rw [u135] at hP hD
      have hP : va_P D vwCl [(wd, .inl (y 1, 80, .inl (zf tW2 64 f2))), (dg, .inl (y 1, 32, .inl f3)), (st, .inl (y 1, 8, .inl (zf tD2 7 (zf tS2 8 f4)))), (nw, .inl (y 1, 8, .inl (zf (tR 64) 8 f5))), (h0, .inr (16, [w1, w2, w3, w4, w5, w6, w7, w8, w9, w10, w11, w12, w13, w14, .int (nI 64), .ref ms, .ref dg, .ref wd, .ref st, .ref nw, w15, w16, w17, w18, w19, w20, w21, w22, w23, w24, w25, w26, w27, w28, w29, w30, w31, w32, w33, w34, w35, w36, w37, w38, w39, w40, w41, w42, w43, w44, w45, w46, w47, w48, w49, w50, w51, w52, w53, w54, w55, w56, w57, w58])), (ms, .inl (y 1, 30000, .inl (zf tM 64 f1)))] H := hP
      have hD : va_D A [(wd, .inl (y 1, 80, .inl (zf tW2 64 f2))), (dg, .inl (y 1, 32, .inl f3)), (st, .inl (y 1, 8, .inl (zf tD2 7 (zf tS2 8 f4)))), (nw, .inl (y 1, 8, .inl (zf (tR 64) 8 f5))), (h0, .inr (16, [w1, w2, w3, w4, w5, w6, w7, w8, w9, w10, w11, w12, w13, w14, .int (nI 64), .ref ms, .ref dg, .ref wd, .ref st, .ref nw, w15, w16, w17, w18, w19, w20, w21, w22, w23, w24, w25, w26, w27, w28, w29, w30, w31, w32, w33, w34, w35, w36, w37, w38, w39, w40, w41, w42, w43, w44, w45, w46, w47, w48, w49, w50, w51, w52, w53, w54, w55, w56, w57, w58])), (ms, .inl (y 1, 30000, .inl (zf tM 64 f1)))] := hD
      refine lv_iinc (v := 7) (lv' := [(3, .int 7), (2, .int 0), (1, .int 1), (0, .ref h0)]) hx hb dX12_secondHash_486 hl (k := 0) rfl (by decide) (by decide) rfl (fun ls hl => ?_)
      refine lv_goto (tgt := 465) hx hb dX12_secondHash_489 (by decide) ?_
      refine lv_iload_n hx hb dX12_secondHash_465 rfl (lv_at hl 0 rfl) ?_
      refine lv_bipush (v := 8) hx hb dX12_secondHash_466 (by decide) ?_
      refine lv_icmp_ge (tgt := 492) hx hb dX12_secondHash_468 (by decide) (fun c9 => absurd c9 (by decide)) (fun _ => ?_)
      refine lv_aload_n hx hb dX12_secondHash_471 rfl (lv_at hl 3 rfl) ?_
      refine va_get (D := D) (ci := 16) (v := .ref st) (C := RX12) (T := TX12) (N := 64) hx hb hts (by decide +kernel) hown hK hP 4 rfl rfl 18 (by decide) (hts (.fieldLink RX12 49 "SignetRingModel" "state" "[I") (by decide +kernel)) (fun _ h9 => h9) rfl dX12_secondHash_472 ?_
      refine lv_iload_n hx hb dX12_secondHash_475 rfl (lv_at hl 0 rfl) ?_
      refine lv_dup2_11 hx hb dX12_secondHash_476 rfl rfl ?_
      refine va_iald hx hb hK hP 2 1 rfl rfl (by unfold vp_in; decide) dX12_secondHash_477 ?_
      refine lv_topi (fun v136 ev136 => ?_)
      have ev136 : v136 = tS2 7 := ev136.trans (zf_rdo (j := 7) (by omega) (by omega) (zf_rd (j := 7) (by decide) (by decide)))
      subst ev136
      refine lv_aload_n hx hb dX12_secondHash_478 rfl (lv_at hl 3 rfl) ?_
      refine va_get (D := D) (ci := 16) (v := .ref nw) (C := RX12) (T := TX12) (N := 64) hx hb hts (by decide +kernel) hown hK hP 4 rfl rfl 19 (by decide) (hts (.fieldLink RX12 52 "SignetRingModel" "now" "[I") (by decide +kernel)) (fun _ h9 => h9) rfl dX12_secondHash_479 ?_
      refine lv_iload_n hx hb dX12_secondHash_482 rfl (lv_at hl 0 rfl) ?_
      refine va_iald hx hb hK hP 3 1 rfl rfl (by unfold vp_in; decide) dX12_secondHash_483 ?_
      refine lv_topi (fun v137 ev137 => ?_)
      have ev137 : v137 = (tR 64) 7 := ev137.trans (zf_rd (j := 7) (by decide) (by decide))
      subst ev137
      refine lv_iadd hx hb dX12_secondHash_484 ?_
      refine va_iast hx hb hK hP hD hS 2 1 rfl rfl (by unfold vp_in; decide) dX12_secondHash_485 (fun H locs hP hD hS => ?_)
      have hP : va_P D vwCl [(wd, .inl (y 1, 80, .inl (zf tW2 64 f2))), (dg, .inl (y 1, 32, .inl f3)), (st, .inl (y 1, 8, .inl (upd (zf tD2 7 (zf tS2 8 f4)) (nI 7).toNatClampNeg ((tS2 7) + ((tR 64) 7))))), (nw, .inl (y 1, 8, .inl (zf (tR 64) 8 f5))), (h0, .inr (16, [w1, w2, w3, w4, w5, w6, w7, w8, w9, w10, w11, w12, w13, w14, .int (nI 64), .ref ms, .ref dg, .ref wd, .ref st, .ref nw, w15, w16, w17, w18, w19, w20, w21, w22, w23, w24, w25, w26, w27, w28, w29, w30, w31, w32, w33, w34, w35, w36, w37, w38, w39, w40, w41, w42, w43, w44, w45, w46, w47, w48, w49, w50, w51, w52, w53, w54, w55, w56, w57, w58])), (ms, .inl (y 1, 30000, .inl (zf tM 64 f1)))] H := hP
      have hD : va_D A [(wd, .inl (y 1, 80, .inl (zf tW2 64 f2))), (dg, .inl (y 1, 32, .inl f3)), (st, .inl (y 1, 8, .inl (upd (zf tD2 7 (zf tS2 8 f4)) (nI 7).toNatClampNeg ((tS2 7) + ((tR 64) 7))))), (nw, .inl (y 1, 8, .inl (zf (tR 64) 8 f5))), (h0, .inr (16, [w1, w2, w3, w4, w5, w6, w7, w8, w9, w10, w11, w12, w13, w14, .int (nI 64), .ref ms, .ref dg, .ref wd, .ref st, .ref nw, w15, w16, w17, w18, w19, w20, w21, w22, w23, w24, w25, w26, w27, w28, w29, w30, w31, w32, w33, w34, w35, w36, w37, w38, w39, w40, w41, w42, w43, w44, w45, w46, w47, w48, w49, w50, w51, w52, w53, w54, w55, w56, w57, w58])), (ms, .inl (y 1, 30000, .inl (zf tM 64 f1)))] := hD
      have u138 : upd (zf tD2 7 (zf tS2 8 f4)) (nI 7).toNatClampNeg ((tS2 7) + ((tR 64) 7)) = zf tD2 8 (zf tS2 8 f4) := (zf_st (n := 7) (by decide) (by decide +kernel))
      rw [u138] at hP hD
      have hP : va_P D vwCl [(wd, .inl (y 1, 80, .inl (zf tW2 64 f2))), (dg, .inl (y 1, 32, .inl f3)), (st, .inl (y 1, 8, .inl (zf tD2 8 (zf tS2 8 f4)))), (nw, .inl (y 1, 8, .inl (zf (tR 64) 8 f5))), (h0, .inr (16, [w1, w2, w3, w4, w5, w6, w7, w8, w9, w10, w11, w12, w13, w14, .int (nI 64), .ref ms, .ref dg, .ref wd, .ref st, .ref nw, w15, w16, w17, w18, w19, w20, w21, w22, w23, w24, w25, w26, w27, w28, w29, w30, w31, w32, w33, w34, w35, w36, w37, w38, w39, w40, w41, w42, w43, w44, w45, w46, w47, w48, w49, w50, w51, w52, w53, w54, w55, w56, w57, w58])), (ms, .inl (y 1, 30000, .inl (zf tM 64 f1)))] H := hP
      have hD : va_D A [(wd, .inl (y 1, 80, .inl (zf tW2 64 f2))), (dg, .inl (y 1, 32, .inl f3)), (st, .inl (y 1, 8, .inl (zf tD2 8 (zf tS2 8 f4)))), (nw, .inl (y 1, 8, .inl (zf (tR 64) 8 f5))), (h0, .inr (16, [w1, w2, w3, w4, w5, w6, w7, w8, w9, w10, w11, w12, w13, w14, .int (nI 64), .ref ms, .ref dg, .ref wd, .ref st, .ref nw, w15, w16, w17, w18, w19, w20, w21, w22, w23, w24, w25, w26, w27, w28, w29, w30, w31, w32, w33, w34, w35, w36, w37, w38, w39, w40, w41, w42, w43, w44, w45, w46, w47, w48, w49, w50, w51, w52, w53, w54, w55, w56, w57, w58])), (ms, .inl (y 1, 30000, .inl (zf tM 64 f1)))] := hD
      refine lv_iinc (v := 8) (lv' := [(3, .int 8), (2, .int 0), (1, .int 1), (0, .ref h0)]) hx hb dX12_secondHash_486 hl (k := 0) rfl (by decide) (by decide) rfl (fun ls hl => ?_)
      refine lv_goto (tgt := 465) hx hb dX12_secondHash_489 (by decide) ?_
      refine lv_iload_n hx hb dX12_secondHash_465 rfl (lv_at hl 0 rfl) ?_
      refine lv_bipush (v := 8) hx hb dX12_secondHash_466 (by decide) ?_
      refine lv_icmp_ge (tgt := 492) hx hb dX12_secondHash_468 (by decide) (fun _ => ?_) (fun c9 => absurd (by decide) c9)
      refine lv_iinc (v := 1) (lv' := [(2, .int 1), (3, .int 8), (1, .int 1), (0, .ref h0)]) hx hb dX12_secondHash_492 hl (k := 1) rfl (by decide) (by decide) rfl (fun ls hl => ?_)
      refine lv_goto (tgt := 73) hx hb dX12_secondHash_495 (by decide) ?_
      refine lv_iload_n hx hb dX12_secondHash_73 rfl (lv_at hl 0 rfl) ?_
      refine lv_iload_n hx hb dX12_secondHash_74 rfl (lv_at hl 2 rfl) ?_
      refine lv_icmp_ge (tgt := 498) hx hb dX12_secondHash_75 (by decide) (fun _ => ?_) (fun c9 => absurd (by decide) c9)
      refine lv_iconst (v := 0) hx hb dX12_secondHash_498 (by decide) ?_
      refine lv_istore_n (lv' := [(2, .int 0), (3, .int 8), (1, .int 1), (0, .ref h0)]) hx hb dX12_secondHash_499 rfl hl (by decide) rfl (fun ls hl => ?_)
      refine lv_iload_n hx hb dX12_secondHash_500 rfl (lv_at hl 0 rfl) ?_
      refine lv_bipush (v := 8) hx hb dX12_secondHash_501 (by decide) ?_
      refine lv_icmp_ge (tgt := 523) hx hb dX12_secondHash_503 (by decide) (fun c9 => absurd c9 (by decide)) (fun _ => ?_)
      refine lv_aload_n hx hb dX12_secondHash_506 rfl (lv_at hl 3 rfl) ?_
      refine lv_iload_n hx hb dX12_secondHash_507 rfl (lv_at hl 0 rfl) ?_
      refine lv_aload_n hx hb dX12_secondHash_508 rfl (lv_at hl 3 rfl) ?_
      refine va_get (D := D) (ci := 16) (v := .ref st) (C := RX12) (T := TX12) (N := 64) hx hb hts (by decide +kernel) hown hK hP 4 rfl rfl 18 (by decide) (hts (.fieldLink RX12 49 "SignetRingModel" "state" "[I") (by decide +kernel)) (fun _ h9 => h9) rfl dX12_secondHash_509 ?_
      refine lv_iload_n hx hb dX12_secondHash_512 rfl (lv_at hl 0 rfl) ?_
      refine va_iald hx hb hK hP 2 1 rfl rfl (by unfold vp_in; decide) dX12_secondHash_513 ?_
      refine lv_topi (fun v139 ev139 => ?_)
      have ev139 : v139 = -474954686 := ev139.trans (Eq.trans (zf_rd (j := 0) (by decide) (by decide)) (by decide +kernel))
      subst ev139
      have hPc := hP.sub (ws' := [(h0, .inr (16, [w1, w2, w3, w4, w5, w6, w7, w8, w9, w10, w11, w12, w13, w14, .int (nI 64), .ref ms, .ref dg, .ref wd, .ref st, .ref nw, w15, w16, w17, w18, w19, w20, w21, w22, w23, w24, w25, w26, w27, w28, w29, w30, w31, w32, w33, w34, w35, w36, w37, w38, w39, w40, w41, w42, w43, w44, w45, w46, w47, w48, w49, w50, w51, w52, w53, w54, w55, w56, w57, w58])), (dg, .inl (y 1, 32, .inl f3))]) [4, 1] rfl
      have hDc := hD.sub (ws' := [(h0, .inr (16, [w1, w2, w3, w4, w5, w6, w7, w8, w9, w10, w11, w12, w13, w14, .int (nI 64), .ref ms, .ref dg, .ref wd, .ref st, .ref nw, w15, w16, w17, w18, w19, w20, w21, w22, w23, w24, w25, w26, w27, w28, w29, w30, w31, w32, w33, w34, w35, w36, w37, w38, w39, w40, w41, w42, w43, w44, w45, w46, w47, w48, w49, w50, w51, w52, w53, w54, w55, w56, w57, w58])), (dg, .inl (y 1, 32, .inl f3))]) [4, 1] (by decide) rfl
      have hFc := va_free (wc := [(h0, .inr (16, [w1, w2, w3, w4, w5, w6, w7, w8, w9, w10, w11, w12, w13, w14, .int (nI 64), .ref ms, .ref dg, .ref wd, .ref st, .ref nw, w15, w16, w17, w18, w19, w20, w21, w22, w23, w24, w25, w26, w27, w28, w29, w30, w31, w32, w33, w34, w35, w36, w37, w38, w39, w40, w41, w42, w43, w44, w45, w46, w47, w48, w49, w50, w51, w52, w53, w54, w55, w56, w57, w58])), (dg, .inl (y 1, 32, .inl f3))]) hD hS hA [4, 1] rfl
      refine va_callv (va_runV (As := [.int 0, .int (-474954686)]) (rest := []) ⟨hx, hb, hml, hown, hts⟩ (c_M_keep_2_0 l D y H.size h0 dg w1 w2 w3 w4 w5 w6 w7 w8 w9 w10 w11 w12 w13 w14 ((.int (nI 64))) ((.ref ms)) ((.ref wd)) ((.ref st)) ((.ref nw)) w15 w16 w17 w18 w19 w20 w21 w22 w23 w24 w25 w26 w27 w28 w29 w30 w31 w32 w33 w34 w35 w36 w37 w38 w39 w40 w41 w42 w43 w44 w45 w46 w47 w48 w49 w50 w51 w52 w53 w54 w55 w56 w57 w58 f3) (cwV 2 hts gv_c_M_secondHash_c_M_keep_2_0_127 rfl rfl rfl (by decide +kernel) ⟨(Nat.le_of_ble_eq_true rfl), (Nat.le_of_ble_eq_true rfl)⟩) (zB.preV hPc hDc hK hN hE hO hT hG hS hFc (fun _ h => nomatch h) (fun _ h => nomatch h) (fun _ h => nomatch h) (fun _ h => nomatch h) (va_recv hK hPc (ci := 16) (q0 := 0) rfl rfl)) rfl rfl hl.1 rfl (lv_room (Nat.le_of_ble_eq_true rfl)) dX12_secondHash_514 ⟨(Nat.le_of_ble_eq_true rfl), (Nat.le_of_ble_eq_true rfl)⟩) hS (fun q _ h => hFc q h) hFc (fun u t H1 locs ht hvm hw hB hz1 hk1 hS => ?_)
      obtain ⟨hP1, hD1⟩ := hB
      rw [ht] at hP1
      obtain ⟨hP, hD⟩ := va_join (wr := [(wd, .inl (y 1, 80, .inl (zf tW2 64 f2))), (st, .inl (y 1, 8, .inl (zf tD2 8 (zf tS2 8 f4)))), (nw, .inl (y 1, 8, .inl (zf (tR 64) 8 f5))), (ms, .inl (y 1, 30000, .inl (zf tM 64 f1)))]) (w1 := [(h0, .inr (16, [w1, w2, w3, w4, w5, w6, w7, w8, w9, w10, w11, w12, w13, w14, .int (nI 64), .ref ms, .ref dg, .ref wd, .ref st, .ref nw, w15, w16, w17, w18, w19, w20, w21, w22, w23, w24, w25, w26, w27, w28, w29, w30, w31, w32, w33, w34, w35, w36, w37, w38, w39, w40, w41, w42, w43, w44, w45, w46, w47, w48, w49, w50, w51, w52, w53, w54, w55, w56, w57, w58])), (dg, .inl (y 1, 32, .inl (zf tO2 4 f3)))]) hP hD [4, 1] [0, 2, 3, 5] rfl rfl (by decide) (by decide) hk1 hFc hP1 hD1
      generalize H1 = H at hP hS ⊢
      have hP : va_P D vwCl [(wd, .inl (y 1, 80, .inl (zf tW2 64 f2))), (st, .inl (y 1, 8, .inl (zf tD2 8 (zf tS2 8 f4)))), (nw, .inl (y 1, 8, .inl (zf (tR 64) 8 f5))), (ms, .inl (y 1, 30000, .inl (zf tM 64 f1))), (h0, .inr (16, [w1, w2, w3, w4, w5, w6, w7, w8, w9, w10, w11, w12, w13, w14, .int (nI 64), .ref ms, .ref dg, .ref wd, .ref st, .ref nw, w15, w16, w17, w18, w19, w20, w21, w22, w23, w24, w25, w26, w27, w28, w29, w30, w31, w32, w33, w34, w35, w36, w37, w38, w39, w40, w41, w42, w43, w44, w45, w46, w47, w48, w49, w50, w51, w52, w53, w54, w55, w56, w57, w58])), (dg, .inl (y 1, 32, .inl (zf tO2 4 f3)))] H := hP
      have hD : va_D A [(wd, .inl (y 1, 80, .inl (zf tW2 64 f2))), (st, .inl (y 1, 8, .inl (zf tD2 8 (zf tS2 8 f4)))), (nw, .inl (y 1, 8, .inl (zf (tR 64) 8 f5))), (ms, .inl (y 1, 30000, .inl (zf tM 64 f1))), (h0, .inr (16, [w1, w2, w3, w4, w5, w6, w7, w8, w9, w10, w11, w12, w13, w14, .int (nI 64), .ref ms, .ref dg, .ref wd, .ref st, .ref nw, w15, w16, w17, w18, w19, w20, w21, w22, w23, w24, w25, w26, w27, w28, w29, w30, w31, w32, w33, w34, w35, w36, w37, w38, w39, w40, w41, w42, w43, w44, w45, w46, w47, w48, w49, w50, w51, w52, w53, w54, w55, w56, w57, w58])), (dg, .inl (y 1, 32, .inl (zf tO2 4 f3)))] := hD
      refine lv_iinc (v := 1) (lv' := [(2, .int 1), (3, .int 8), (1, .int 1), (0, .ref h0)]) hx hb dX12_secondHash_517 hl (k := 0) rfl (by decide) (by decide) rfl (fun ls hl => ?_)
      refine lv_goto (tgt := 500) hx hb dX12_secondHash_520 (by decide) ?_
      refine lv_iload_n hx hb dX12_secondHash_500 rfl (lv_at hl 0 rfl) ?_
      refine lv_bipush (v := 8) hx hb dX12_secondHash_501 (by decide) ?_
      refine lv_icmp_ge (tgt := 523) hx hb dX12_secondHash_503 (by decide) (fun c9 => absurd c9 (by decide)) (fun _ => ?_)
      refine lv_aload_n hx hb dX12_secondHash_506 rfl (lv_at hl 3 rfl) ?_
      refine lv_iload_n hx hb dX12_secondHash_507 rfl (lv_at hl 0 rfl) ?_
      refine lv_aload_n hx hb dX12_secondHash_508 rfl (lv_at hl 3 rfl) ?_
      refine va_get (D := D) (ci := 16) (v := .ref st) (C := RX12) (T := TX12) (N := 64) hx hb hts (by decide +kernel) hown hK hP 4 rfl rfl 18 (by decide) (hts (.fieldLink RX12 49 "SignetRingModel" "state" "[I") (by decide +kernel)) (fun _ h9 => h9) rfl dX12_secondHash_509 ?_
      refine lv_iload_n hx hb dX12_secondHash_512 rfl (lv_at hl 0 rfl) ?_
      refine va_iald hx hb hK hP 1 1 rfl rfl (by unfold vp_in; decide) dX12_secondHash_513 ?_
      refine lv_topi (fun v140 ev140 => ?_)
      have ev140 : v140 = -1728308204 := ev140.trans (Eq.trans (zf_rd (j := 1) (by decide) (by decide)) (by decide +kernel))
      subst ev140
      have hPc := hP.sub (ws' := [(h0, .inr (16, [w1, w2, w3, w4, w5, w6, w7, w8, w9, w10, w11, w12, w13, w14, .int (nI 64), .ref ms, .ref dg, .ref wd, .ref st, .ref nw, w15, w16, w17, w18, w19, w20, w21, w22, w23, w24, w25, w26, w27, w28, w29, w30, w31, w32, w33, w34, w35, w36, w37, w38, w39, w40, w41, w42, w43, w44, w45, w46, w47, w48, w49, w50, w51, w52, w53, w54, w55, w56, w57, w58])), (dg, .inl (y 1, 32, .inl (zf tO2 4 f3)))]) [4, 5] rfl
      have hDc := hD.sub (ws' := [(h0, .inr (16, [w1, w2, w3, w4, w5, w6, w7, w8, w9, w10, w11, w12, w13, w14, .int (nI 64), .ref ms, .ref dg, .ref wd, .ref st, .ref nw, w15, w16, w17, w18, w19, w20, w21, w22, w23, w24, w25, w26, w27, w28, w29, w30, w31, w32, w33, w34, w35, w36, w37, w38, w39, w40, w41, w42, w43, w44, w45, w46, w47, w48, w49, w50, w51, w52, w53, w54, w55, w56, w57, w58])), (dg, .inl (y 1, 32, .inl (zf tO2 4 f3)))]) [4, 5] (by decide) rfl
      have hFc := va_free (wc := [(h0, .inr (16, [w1, w2, w3, w4, w5, w6, w7, w8, w9, w10, w11, w12, w13, w14, .int (nI 64), .ref ms, .ref dg, .ref wd, .ref st, .ref nw, w15, w16, w17, w18, w19, w20, w21, w22, w23, w24, w25, w26, w27, w28, w29, w30, w31, w32, w33, w34, w35, w36, w37, w38, w39, w40, w41, w42, w43, w44, w45, w46, w47, w48, w49, w50, w51, w52, w53, w54, w55, w56, w57, w58])), (dg, .inl (y 1, 32, .inl (zf tO2 4 f3)))]) hD hS hA [4, 5] rfl
      refine va_callv (va_runV (As := [.int 1, .int (-1728308204)]) (rest := []) ⟨hx, hb, hml, hown, hts⟩ (c_M_keep_2_1 l D y H.size h0 dg w1 w2 w3 w4 w5 w6 w7 w8 w9 w10 w11 w12 w13 w14 ((.int (nI 64))) ((.ref ms)) ((.ref wd)) ((.ref st)) ((.ref nw)) w15 w16 w17 w18 w19 w20 w21 w22 w23 w24 w25 w26 w27 w28 w29 w30 w31 w32 w33 w34 w35 w36 w37 w38 w39 w40 w41 w42 w43 w44 w45 w46 w47 w48 w49 w50 w51 w52 w53 w54 w55 w56 w57 w58 f3) (cwV 2 hts gv_c_M_secondHash_c_M_keep_2_1_127 rfl rfl rfl (by decide +kernel) ⟨(Nat.le_of_ble_eq_true rfl), (Nat.le_of_ble_eq_true rfl)⟩) (zB.preV hPc hDc hK hN hE hO hT hG hS hFc (fun _ h => nomatch h) (fun _ h => nomatch h) (fun _ h => nomatch h) (fun _ h => nomatch h) (va_recv hK hPc (ci := 16) (q0 := 0) rfl rfl)) rfl rfl hl.1 rfl (lv_room (Nat.le_of_ble_eq_true rfl)) dX12_secondHash_514 ⟨(Nat.le_of_ble_eq_true rfl), (Nat.le_of_ble_eq_true rfl)⟩) hS (fun q _ h => hFc q h) hFc (fun u t H1 locs ht hvm hw hB hz1 hk1 hS => ?_)
      obtain ⟨hP1, hD1⟩ := hB
      rw [ht] at hP1
      obtain ⟨hP, hD⟩ := va_join (wr := [(wd, .inl (y 1, 80, .inl (zf tW2 64 f2))), (st, .inl (y 1, 8, .inl (zf tD2 8 (zf tS2 8 f4)))), (nw, .inl (y 1, 8, .inl (zf (tR 64) 8 f5))), (ms, .inl (y 1, 30000, .inl (zf tM 64 f1)))]) (w1 := [(h0, .inr (16, [w1, w2, w3, w4, w5, w6, w7, w8, w9, w10, w11, w12, w13, w14, .int (nI 64), .ref ms, .ref dg, .ref wd, .ref st, .ref nw, w15, w16, w17, w18, w19, w20, w21, w22, w23, w24, w25, w26, w27, w28, w29, w30, w31, w32, w33, w34, w35, w36, w37, w38, w39, w40, w41, w42, w43, w44, w45, w46, w47, w48, w49, w50, w51, w52, w53, w54, w55, w56, w57, w58])), (dg, .inl (y 1, 32, .inl (zf tO2 8 f3)))]) hP hD [4, 5] [0, 1, 2, 3] rfl rfl (by decide) (by decide) hk1 hFc hP1 hD1
      generalize H1 = H at hP hS ⊢
      have hP : va_P D vwCl [(wd, .inl (y 1, 80, .inl (zf tW2 64 f2))), (st, .inl (y 1, 8, .inl (zf tD2 8 (zf tS2 8 f4)))), (nw, .inl (y 1, 8, .inl (zf (tR 64) 8 f5))), (ms, .inl (y 1, 30000, .inl (zf tM 64 f1))), (h0, .inr (16, [w1, w2, w3, w4, w5, w6, w7, w8, w9, w10, w11, w12, w13, w14, .int (nI 64), .ref ms, .ref dg, .ref wd, .ref st, .ref nw, w15, w16, w17, w18, w19, w20, w21, w22, w23, w24, w25, w26, w27, w28, w29, w30, w31, w32, w33, w34, w35, w36, w37, w38, w39, w40, w41, w42, w43, w44, w45, w46, w47, w48, w49, w50, w51, w52, w53, w54, w55, w56, w57, w58])), (dg, .inl (y 1, 32, .inl (zf tO2 8 f3)))] H := hP
      have hD : va_D A [(wd, .inl (y 1, 80, .inl (zf tW2 64 f2))), (st, .inl (y 1, 8, .inl (zf tD2 8 (zf tS2 8 f4)))), (nw, .inl (y 1, 8, .inl (zf (tR 64) 8 f5))), (ms, .inl (y 1, 30000, .inl (zf tM 64 f1))), (h0, .inr (16, [w1, w2, w3, w4, w5, w6, w7, w8, w9, w10, w11, w12, w13, w14, .int (nI 64), .ref ms, .ref dg, .ref wd, .ref st, .ref nw, w15, w16, w17, w18, w19, w20, w21, w22, w23, w24, w25, w26, w27, w28, w29, w30, w31, w32, w33, w34, w35, w36, w37, w38, w39, w40, w41, w42, w43, w44, w45, w46, w47, w48, w49, w50, w51, w52, w53, w54, w55, w56, w57, w58])), (dg, .inl (y 1, 32, .inl (zf tO2 8 f3)))] := hD
      refine lv_iinc (v := 2) (lv' := [(2, .int 2), (3, .int 8), (1, .int 1), (0, .ref h0)]) hx hb dX12_secondHash_517 hl (k := 0) rfl (by decide) (by decide) rfl (fun ls hl => ?_)
      refine lv_goto (tgt := 500) hx hb dX12_secondHash_520 (by decide) ?_
      refine lv_iload_n hx hb dX12_secondHash_500 rfl (lv_at hl 0 rfl) ?_
      refine lv_bipush (v := 8) hx hb dX12_secondHash_501 (by decide) ?_
      refine lv_icmp_ge (tgt := 523) hx hb dX12_secondHash_503 (by decide) (fun c9 => absurd c9 (by decide)) (fun _ => ?_)
      refine lv_aload_n hx hb dX12_secondHash_506 rfl (lv_at hl 3 rfl) ?_
      refine lv_iload_n hx hb dX12_secondHash_507 rfl (lv_at hl 0 rfl) ?_
      refine lv_aload_n hx hb dX12_secondHash_508 rfl (lv_at hl 3 rfl) ?_
      refine va_get (D := D) (ci := 16) (v := .ref st) (C := RX12) (T := TX12) (N := 64) hx hb hts (by decide +kernel) hown hK hP 4 rfl rfl 18 (by decide) (hts (.fieldLink RX12 49 "SignetRingModel" "state" "[I") (by decide +kernel)) (fun _ h9 => h9) rfl dX12_secondHash_509 ?_
      refine lv_iload_n hx hb dX12_secondHash_512 rfl (lv_at hl 0 rfl) ?_
      refine va_iald hx hb hK hP 1 1 rfl rfl (by unfold vp_in; decide) dX12_secondHash_513 ?_
      refine lv_topi (fun v141 ev141 => ?_)
      have ev141 : v141 = -1694763832 := ev141.trans (Eq.trans (zf_rd (j := 2) (by decide) (by decide)) (by decide +kernel))
      subst ev141
      have hPc := hP.sub (ws' := [(h0, .inr (16, [w1, w2, w3, w4, w5, w6, w7, w8, w9, w10, w11, w12, w13, w14, .int (nI 64), .ref ms, .ref dg, .ref wd, .ref st, .ref nw, w15, w16, w17, w18, w19, w20, w21, w22, w23, w24, w25, w26, w27, w28, w29, w30, w31, w32, w33, w34, w35, w36, w37, w38, w39, w40, w41, w42, w43, w44, w45, w46, w47, w48, w49, w50, w51, w52, w53, w54, w55, w56, w57, w58])), (dg, .inl (y 1, 32, .inl (zf tO2 8 f3)))]) [4, 5] rfl
      have hDc := hD.sub (ws' := [(h0, .inr (16, [w1, w2, w3, w4, w5, w6, w7, w8, w9, w10, w11, w12, w13, w14, .int (nI 64), .ref ms, .ref dg, .ref wd, .ref st, .ref nw, w15, w16, w17, w18, w19, w20, w21, w22, w23, w24, w25, w26, w27, w28, w29, w30, w31, w32, w33, w34, w35, w36, w37, w38, w39, w40, w41, w42, w43, w44, w45, w46, w47, w48, w49, w50, w51, w52, w53, w54, w55, w56, w57, w58])), (dg, .inl (y 1, 32, .inl (zf tO2 8 f3)))]) [4, 5] (by decide) rfl
      have hFc := va_free (wc := [(h0, .inr (16, [w1, w2, w3, w4, w5, w6, w7, w8, w9, w10, w11, w12, w13, w14, .int (nI 64), .ref ms, .ref dg, .ref wd, .ref st, .ref nw, w15, w16, w17, w18, w19, w20, w21, w22, w23, w24, w25, w26, w27, w28, w29, w30, w31, w32, w33, w34, w35, w36, w37, w38, w39, w40, w41, w42, w43, w44, w45, w46, w47, w48, w49, w50, w51, w52, w53, w54, w55, w56, w57, w58])), (dg, .inl (y 1, 32, .inl (zf tO2 8 f3)))]) hD hS hA [4, 5] rfl
      refine va_callv (va_runV (As := [.int 2, .int (-1694763832)]) (rest := []) ⟨hx, hb, hml, hown, hts⟩ (c_M_keep_2_2 l D y H.size h0 dg w1 w2 w3 w4 w5 w6 w7 w8 w9 w10 w11 w12 w13 w14 ((.int (nI 64))) ((.ref ms)) ((.ref wd)) ((.ref st)) ((.ref nw)) w15 w16 w17 w18 w19 w20 w21 w22 w23 w24 w25 w26 w27 w28 w29 w30 w31 w32 w33 w34 w35 w36 w37 w38 w39 w40 w41 w42 w43 w44 w45 w46 w47 w48 w49 w50 w51 w52 w53 w54 w55 w56 w57 w58 f3) (cwV 2 hts gv_c_M_secondHash_c_M_keep_2_2_127 rfl rfl rfl (by decide +kernel) ⟨(Nat.le_of_ble_eq_true rfl), (Nat.le_of_ble_eq_true rfl)⟩) (zB.preV hPc hDc hK hN hE hO hT hG hS hFc (fun _ h => nomatch h) (fun _ h => nomatch h) (fun _ h => nomatch h) (fun _ h => nomatch h) (va_recv hK hPc (ci := 16) (q0 := 0) rfl rfl)) rfl rfl hl.1 rfl (lv_room (Nat.le_of_ble_eq_true rfl)) dX12_secondHash_514 ⟨(Nat.le_of_ble_eq_true rfl), (Nat.le_of_ble_eq_true rfl)⟩) hS (fun q _ h => hFc q h) hFc (fun u t H1 locs ht hvm hw hB hz1 hk1 hS => ?_)
      obtain ⟨hP1, hD1⟩ := hB
      rw [ht] at hP1
      obtain ⟨hP, hD⟩ := va_join (wr := [(wd, .inl (y 1, 80, .inl (zf tW2 64 f2))), (st, .inl (y 1, 8, .inl (zf tD2 8 (zf tS2 8 f4)))), (nw, .inl (y 1, 8, .inl (zf (tR 64) 8 f5))), (ms, .inl (y 1, 30000, .inl (zf tM 64 f1)))]) (w1 := [(h0, .inr (16, [w1, w2, w3, w4, w5, w6, w7, w8, w9, w10, w11, w12, w13, w14, .int (nI 64), .ref ms, .ref dg, .ref wd, .ref st, .ref nw, w15, w16, w17, w18, w19, w20, w21, w22, w23, w24, w25, w26, w27, w28, w29, w30, w31, w32, w33, w34, w35, w36, w37, w38, w39, w40, w41, w42, w43, w44, w45, w46, w47, w48, w49, w50, w51, w52, w53, w54, w55, w56, w57, w58])), (dg, .inl (y 1, 32, .inl (zf tO2 12 f3)))]) hP hD [4, 5] [0, 1, 2, 3] rfl rfl (by decide) (by decide) hk1 hFc hP1 hD1
      generalize H1 = H at hP hS ⊢
      have hP : va_P D vwCl [(wd, .inl (y 1, 80, .inl (zf tW2 64 f2))), (st, .inl (y 1, 8, .inl (zf tD2 8 (zf tS2 8 f4)))), (nw, .inl (y 1, 8, .inl (zf (tR 64) 8 f5))), (ms, .inl (y 1, 30000, .inl (zf tM 64 f1))), (h0, .inr (16, [w1, w2, w3, w4, w5, w6, w7, w8, w9, w10, w11, w12, w13, w14, .int (nI 64), .ref ms, .ref dg, .ref wd, .ref st, .ref nw, w15, w16, w17, w18, w19, w20, w21, w22, w23, w24, w25, w26, w27, w28, w29, w30, w31, w32, w33, w34, w35, w36, w37, w38, w39, w40, w41, w42, w43, w44, w45, w46, w47, w48, w49, w50, w51, w52, w53, w54, w55, w56, w57, w58])), (dg, .inl (y 1, 32, .inl (zf tO2 12 f3)))] H := hP
      have hD : va_D A [(wd, .inl (y 1, 80, .inl (zf tW2 64 f2))), (st, .inl (y 1, 8, .inl (zf tD2 8 (zf tS2 8 f4)))), (nw, .inl (y 1, 8, .inl (zf (tR 64) 8 f5))), (ms, .inl (y 1, 30000, .inl (zf tM 64 f1))), (h0, .inr (16, [w1, w2, w3, w4, w5, w6, w7, w8, w9, w10, w11, w12, w13, w14, .int (nI 64), .ref ms, .ref dg, .ref wd, .ref st, .ref nw, w15, w16, w17, w18, w19, w20, w21, w22, w23, w24, w25, w26, w27, w28, w29, w30, w31, w32, w33, w34, w35, w36, w37, w38, w39, w40, w41, w42, w43, w44, w45, w46, w47, w48, w49, w50, w51, w52, w53, w54, w55, w56, w57, w58])), (dg, .inl (y 1, 32, .inl (zf tO2 12 f3)))] := hD
      refine lv_iinc (v := 3) (lv' := [(2, .int 3), (3, .int 8), (1, .int 1), (0, .ref h0)]) hx hb dX12_secondHash_517 hl (k := 0) rfl (by decide) (by decide) rfl (fun ls hl => ?_)
      refine lv_goto (tgt := 500) hx hb dX12_secondHash_520 (by decide) ?_
      refine lv_iload_n hx hb dX12_secondHash_500 rfl (lv_at hl 0 rfl) ?_
      refine lv_bipush (v := 8) hx hb dX12_secondHash_501 (by decide) ?_
      refine lv_icmp_ge (tgt := 523) hx hb dX12_secondHash_503 (by decide) (fun c9 => absurd c9 (by decide)) (fun _ => ?_)
      refine lv_aload_n hx hb dX12_secondHash_506 rfl (lv_at hl 3 rfl) ?_
      refine lv_iload_n hx hb dX12_secondHash_507 rfl (lv_at hl 0 rfl) ?_
      refine lv_aload_n hx hb dX12_secondHash_508 rfl (lv_at hl 3 rfl) ?_
      refine va_get (D := D) (ci := 16) (v := .ref st) (C := RX12) (T := TX12) (N := 64) hx hb hts (by decide +kernel) hown hK hP 4 rfl rfl 18 (by decide) (hts (.fieldLink RX12 49 "SignetRingModel" "state" "[I") (by decide +kernel)) (fun _ h9 => h9) rfl dX12_secondHash_509 ?_
      refine lv_iload_n hx hb dX12_secondHash_512 rfl (lv_at hl 0 rfl) ?_
      refine va_iald hx hb hK hP 1 1 rfl rfl (by unfold vp_in; decide) dX12_secondHash_513 ?_
      refine lv_topi (fun v142 ev142 => ?_)
      have ev142 : v142 = -1720731356 := ev142.trans (Eq.trans (zf_rd (j := 3) (by decide) (by decide)) (by decide +kernel))
      subst ev142
      have hPc := hP.sub (ws' := [(h0, .inr (16, [w1, w2, w3, w4, w5, w6, w7, w8, w9, w10, w11, w12, w13, w14, .int (nI 64), .ref ms, .ref dg, .ref wd, .ref st, .ref nw, w15, w16, w17, w18, w19, w20, w21, w22, w23, w24, w25, w26, w27, w28, w29, w30, w31, w32, w33, w34, w35, w36, w37, w38, w39, w40, w41, w42, w43, w44, w45, w46, w47, w48, w49, w50, w51, w52, w53, w54, w55, w56, w57, w58])), (dg, .inl (y 1, 32, .inl (zf tO2 12 f3)))]) [4, 5] rfl
      have hDc := hD.sub (ws' := [(h0, .inr (16, [w1, w2, w3, w4, w5, w6, w7, w8, w9, w10, w11, w12, w13, w14, .int (nI 64), .ref ms, .ref dg, .ref wd, .ref st, .ref nw, w15, w16, w17, w18, w19, w20, w21, w22, w23, w24, w25, w26, w27, w28, w29, w30, w31, w32, w33, w34, w35, w36, w37, w38, w39, w40, w41, w42, w43, w44, w45, w46, w47, w48, w49, w50, w51, w52, w53, w54, w55, w56, w57, w58])), (dg, .inl (y 1, 32, .inl (zf tO2 12 f3)))]) [4, 5] (by decide) rfl
      have hFc := va_free (wc := [(h0, .inr (16, [w1, w2, w3, w4, w5, w6, w7, w8, w9, w10, w11, w12, w13, w14, .int (nI 64), .ref ms, .ref dg, .ref wd, .ref st, .ref nw, w15, w16, w17, w18, w19, w20, w21, w22, w23, w24, w25, w26, w27, w28, w29, w30, w31, w32, w33, w34, w35, w36, w37, w38, w39, w40, w41, w42, w43, w44, w45, w46, w47, w48, w49, w50, w51, w52, w53, w54, w55, w56, w57, w58])), (dg, .inl (y 1, 32, .inl (zf tO2 12 f3)))]) hD hS hA [4, 5] rfl
      refine va_callv (va_runV (As := [.int 3, .int (-1720731356)]) (rest := []) ⟨hx, hb, hml, hown, hts⟩ (c_M_keep_2_3 l D y H.size h0 dg w1 w2 w3 w4 w5 w6 w7 w8 w9 w10 w11 w12 w13 w14 ((.int (nI 64))) ((.ref ms)) ((.ref wd)) ((.ref st)) ((.ref nw)) w15 w16 w17 w18 w19 w20 w21 w22 w23 w24 w25 w26 w27 w28 w29 w30 w31 w32 w33 w34 w35 w36 w37 w38 w39 w40 w41 w42 w43 w44 w45 w46 w47 w48 w49 w50 w51 w52 w53 w54 w55 w56 w57 w58 f3) (cwV 2 hts gv_c_M_secondHash_c_M_keep_2_3_127 rfl rfl rfl (by decide +kernel) ⟨(Nat.le_of_ble_eq_true rfl), (Nat.le_of_ble_eq_true rfl)⟩) (zB.preV hPc hDc hK hN hE hO hT hG hS hFc (fun _ h => nomatch h) (fun _ h => nomatch h) (fun _ h => nomatch h) (fun _ h => nomatch h) (va_recv hK hPc (ci := 16) (q0 := 0) rfl rfl)) rfl rfl hl.1 rfl (lv_room (Nat.le_of_ble_eq_true rfl)) dX12_secondHash_514 ⟨(Nat.le_of_ble_eq_true rfl), (Nat.le_of_ble_eq_true rfl)⟩) hS (fun q _ h => hFc q h) hFc (fun u t H1 locs ht hvm hw hB hz1 hk1 hS => ?_)
      obtain ⟨hP1, hD1⟩ := hB
      rw [ht] at hP1
      obtain ⟨hP, hD⟩ := va_join (wr := [(wd, .inl (y 1, 80, .inl (zf tW2 64 f2))), (st, .inl (y 1, 8, .inl (zf tD2 8 (zf tS2 8 f4)))), (nw, .inl (y 1, 8, .inl (zf (tR 64) 8 f5))), (ms, .inl (y 1, 30000, .inl (zf tM 64 f1)))]) (w1 := [(h0, .inr (16, [w1, w2, w3, w4, w5, w6, w7, w8, w9, w10, w11, w12, w13, w14, .int (nI 64), .ref ms, .ref dg, .ref wd, .ref st, .ref nw, w15, w16, w17, w18, w19, w20, w21, w22, w23, w24, w25, w26, w27, w28, w29, w30, w31, w32, w33, w34, w35, w36, w37, w38, w39, w40, w41, w42, w43, w44, w45, w46, w47, w48, w49, w50, w51, w52, w53, w54, w55, w56, w57, w58])), (dg, .inl (y 1, 32, .inl (zf tO2 16 f3)))]) hP hD [4, 5] [0, 1, 2, 3] rfl rfl (by decide) (by decide) hk1 hFc hP1 hD1
      generalize H1 = H at hP hS ⊢
      have hP : va_P D vwCl [(wd, .inl (y 1, 80, .inl (zf tW2 64 f2))), (st, .inl (y 1, 8, .inl (zf tD2 8 (zf tS2 8 f4)))), (nw, .inl (y 1, 8, .inl (zf (tR 64) 8 f5))), (ms, .inl (y 1, 30000, .inl (zf tM 64 f1))), (h0, .inr (16, [w1, w2, w3, w4, w5, w6, w7, w8, w9, w10, w11, w12, w13, w14, .int (nI 64), .ref ms, .ref dg, .ref wd, .ref st, .ref nw, w15, w16, w17, w18, w19, w20, w21, w22, w23, w24, w25, w26, w27, w28, w29, w30, w31, w32, w33, w34, w35, w36, w37, w38, w39, w40, w41, w42, w43, w44, w45, w46, w47, w48, w49, w50, w51, w52, w53, w54, w55, w56, w57, w58])), (dg, .inl (y 1, 32, .inl (zf tO2 16 f3)))] H := hP
      have hD : va_D A [(wd, .inl (y 1, 80, .inl (zf tW2 64 f2))), (st, .inl (y 1, 8, .inl (zf tD2 8 (zf tS2 8 f4)))), (nw, .inl (y 1, 8, .inl (zf (tR 64) 8 f5))), (ms, .inl (y 1, 30000, .inl (zf tM 64 f1))), (h0, .inr (16, [w1, w2, w3, w4, w5, w6, w7, w8, w9, w10, w11, w12, w13, w14, .int (nI 64), .ref ms, .ref dg, .ref wd, .ref st, .ref nw, w15, w16, w17, w18, w19, w20, w21, w22, w23, w24, w25, w26, w27, w28, w29, w30, w31, w32, w33, w34, w35, w36, w37, w38, w39, w40, w41, w42, w43, w44, w45, w46, w47, w48, w49, w50, w51, w52, w53, w54, w55, w56, w57, w58])), (dg, .inl (y 1, 32, .inl (zf tO2 16 f3)))] := hD
      refine lv_iinc (v := 4) (lv' := [(2, .int 4), (3, .int 8), (1, .int 1), (0, .ref h0)]) hx hb dX12_secondHash_517 hl (k := 0) rfl (by decide) (by decide) rfl (fun ls hl => ?_)
      refine lv_goto (tgt := 500) hx hb dX12_secondHash_520 (by decide) ?_
      refine lv_iload_n hx hb dX12_secondHash_500 rfl (lv_at hl 0 rfl) ?_
      refine lv_bipush (v := 8) hx hb dX12_secondHash_501 (by decide) ?_
      refine lv_icmp_ge (tgt := 523) hx hb dX12_secondHash_503 (by decide) (fun c9 => absurd c9 (by decide)) (fun _ => ?_)
      refine lv_aload_n hx hb dX12_secondHash_506 rfl (lv_at hl 3 rfl) ?_
      refine lv_iload_n hx hb dX12_secondHash_507 rfl (lv_at hl 0 rfl) ?_
      refine lv_aload_n hx hb dX12_secondHash_508 rfl (lv_at hl 3 rfl) ?_
      refine va_get (D := D) (ci := 16) (v := .ref st) (C := RX12) (T := TX12) (N := 64) hx hb hts (by decide +kernel) hown hK hP 4 rfl rfl 18 (by decide) (hts (.fieldLink RX12 49 "SignetRingModel" "state" "[I") (by decide +kernel)) (fun _ h9 => h9) rfl dX12_secondHash_509 ?_
      refine lv_iload_n hx hb dX12_secondHash_512 rfl (lv_at hl 0 rfl) ?_
      refine va_iald hx hb hK hP 1 1 rfl rfl (by unfold vp_in; decide) dX12_secondHash_513 ?_
      refine lv_topi (fun v143 ev143 => ?_)
      have ev143 : v143 = 665731556 := ev143.trans (Eq.trans (zf_rd (j := 4) (by decide) (by decide)) (by decide +kernel))
      subst ev143
      have hPc := hP.sub (ws' := [(h0, .inr (16, [w1, w2, w3, w4, w5, w6, w7, w8, w9, w10, w11, w12, w13, w14, .int (nI 64), .ref ms, .ref dg, .ref wd, .ref st, .ref nw, w15, w16, w17, w18, w19, w20, w21, w22, w23, w24, w25, w26, w27, w28, w29, w30, w31, w32, w33, w34, w35, w36, w37, w38, w39, w40, w41, w42, w43, w44, w45, w46, w47, w48, w49, w50, w51, w52, w53, w54, w55, w56, w57, w58])), (dg, .inl (y 1, 32, .inl (zf tO2 16 f3)))]) [4, 5] rfl
      have hDc := hD.sub (ws' := [(h0, .inr (16, [w1, w2, w3, w4, w5, w6, w7, w8, w9, w10, w11, w12, w13, w14, .int (nI 64), .ref ms, .ref dg, .ref wd, .ref st, .ref nw, w15, w16, w17, w18, w19, w20, w21, w22, w23, w24, w25, w26, w27, w28, w29, w30, w31, w32, w33, w34, w35, w36, w37, w38, w39, w40, w41, w42, w43, w44, w45, w46, w47, w48, w49, w50, w51, w52, w53, w54, w55, w56, w57, w58])), (dg, .inl (y 1, 32, .inl (zf tO2 16 f3)))]) [4, 5] (by decide) rfl
      have hFc := va_free (wc := [(h0, .inr (16, [w1, w2, w3, w4, w5, w6, w7, w8, w9, w10, w11, w12, w13, w14, .int (nI 64), .ref ms, .ref dg, .ref wd, .ref st, .ref nw, w15, w16, w17, w18, w19, w20, w21, w22, w23, w24, w25, w26, w27, w28, w29, w30, w31, w32, w33, w34, w35, w36, w37, w38, w39, w40, w41, w42, w43, w44, w45, w46, w47, w48, w49, w50, w51, w52, w53, w54, w55, w56, w57, w58])), (dg, .inl (y 1, 32, .inl (zf tO2 16 f3)))]) hD hS hA [4, 5] rfl
      refine va_callv (va_runV (As := [.int 4, .int 665731556]) (rest := []) ⟨hx, hb, hml, hown, hts⟩ (c_M_keep_2_4 l D y H.size h0 dg w1 w2 w3 w4 w5 w6 w7 w8 w9 w10 w11 w12 w13 w14 ((.int (nI 64))) ((.ref ms)) ((.ref wd)) ((.ref st)) ((.ref nw)) w15 w16 w17 w18 w19 w20 w21 w22 w23 w24 w25 w26 w27 w28 w29 w30 w31 w32 w33 w34 w35 w36 w37 w38 w39 w40 w41 w42 w43 w44 w45 w46 w47 w48 w49 w50 w51 w52 w53 w54 w55 w56 w57 w58 f3) (cwV 2 hts gv_c_M_secondHash_c_M_keep_2_4_127 rfl rfl rfl (by decide +kernel) ⟨(Nat.le_of_ble_eq_true rfl), (Nat.le_of_ble_eq_true rfl)⟩) (zB.preV hPc hDc hK hN hE hO hT hG hS hFc (fun _ h => nomatch h) (fun _ h => nomatch h) (fun _ h => nomatch h) (fun _ h => nomatch h) (va_recv hK hPc (ci := 16) (q0 := 0) rfl rfl)) rfl rfl hl.1 rfl (lv_room (Nat.le_of_ble_eq_true rfl)) dX12_secondHash_514 ⟨(Nat.le_of_ble_eq_true rfl), (Nat.le_of_ble_eq_true rfl)⟩) hS (fun q _ h => hFc q h) hFc (fun u t H1 locs ht hvm hw hB hz1 hk1 hS => ?_)
      obtain ⟨hP1, hD1⟩ := hB
      rw [ht] at hP1
      obtain ⟨hP, hD⟩ := va_join (wr := [(wd, .inl (y 1, 80, .inl (zf tW2 64 f2))), (st, .inl (y 1, 8, .inl (zf tD2 8 (zf tS2 8 f4)))), (nw, .inl (y 1, 8, .inl (zf (tR 64) 8 f5))), (ms, .inl (y 1, 30000, .inl (zf tM 64 f1)))]) (w1 := [(h0, .inr (16, [w1, w2, w3, w4, w5, w6, w7, w8, w9, w10, w11, w12, w13, w14, .int (nI 64), .ref ms, .ref dg, .ref wd, .ref st, .ref nw, w15, w16, w17, w18, w19, w20, w21, w22, w23, w24, w25, w26, w27, w28, w29, w30, w31, w32, w33, w34, w35, w36, w37, w38, w39, w40, w41, w42, w43, w44, w45, w46, w47, w48, w49, w50, w51, w52, w53, w54, w55, w56, w57, w58])), (dg, .inl (y 1, 32, .inl (zf tO2 20 f3)))]) hP hD [4, 5] [0, 1, 2, 3] rfl rfl (by decide) (by decide) hk1 hFc hP1 hD1
      generalize H1 = H at hP hS ⊢
      have hP : va_P D vwCl [(wd, .inl (y 1, 80, .inl (zf tW2 64 f2))), (st, .inl (y 1, 8, .inl (zf tD2 8 (zf tS2 8 f4)))), (nw, .inl (y 1, 8, .inl (zf (tR 64) 8 f5))), (ms, .inl (y 1, 30000, .inl (zf tM 64 f1))), (h0, .inr (16, [w1, w2, w3, w4, w5, w6, w7, w8, w9, w10, w11, w12, w13, w14, .int (nI 64), .ref ms, .ref dg, .ref wd, .ref st, .ref nw, w15, w16, w17, w18, w19, w20, w21, w22, w23, w24, w25, w26, w27, w28, w29, w30, w31, w32, w33, w34, w35, w36, w37, w38, w39, w40, w41, w42, w43, w44, w45, w46, w47, w48, w49, w50, w51, w52, w53, w54, w55, w56, w57, w58])), (dg, .inl (y 1, 32, .inl (zf tO2 20 f3)))] H := hP
      have hD : va_D A [(wd, .inl (y 1, 80, .inl (zf tW2 64 f2))), (st, .inl (y 1, 8, .inl (zf tD2 8 (zf tS2 8 f4)))), (nw, .inl (y 1, 8, .inl (zf (tR 64) 8 f5))), (ms, .inl (y 1, 30000, .inl (zf tM 64 f1))), (h0, .inr (16, [w1, w2, w3, w4, w5, w6, w7, w8, w9, w10, w11, w12, w13, w14, .int (nI 64), .ref ms, .ref dg, .ref wd, .ref st, .ref nw, w15, w16, w17, w18, w19, w20, w21, w22, w23, w24, w25, w26, w27, w28, w29, w30, w31, w32, w33, w34, w35, w36, w37, w38, w39, w40, w41, w42, w43, w44, w45, w46, w47, w48, w49, w50, w51, w52, w53, w54, w55, w56, w57, w58])), (dg, .inl (y 1, 32, .inl (zf tO2 20 f3)))] := hD
      refine lv_iinc (v := 5) (lv' := [(2, .int 5), (3, .int 8), (1, .int 1), (0, .ref h0)]) hx hb dX12_secondHash_517 hl (k := 0) rfl (by decide) (by decide) rfl (fun ls hl => ?_)
      refine lv_goto (tgt := 500) hx hb dX12_secondHash_520 (by decide) ?_
      refine lv_iload_n hx hb dX12_secondHash_500 rfl (lv_at hl 0 rfl) ?_
      refine lv_bipush (v := 8) hx hb dX12_secondHash_501 (by decide) ?_
      refine lv_icmp_ge (tgt := 523) hx hb dX12_secondHash_503 (by decide) (fun c9 => absurd c9 (by decide)) (fun _ => ?_)
      refine lv_aload_n hx hb dX12_secondHash_506 rfl (lv_at hl 3 rfl) ?_
      refine lv_iload_n hx hb dX12_secondHash_507 rfl (lv_at hl 0 rfl) ?_
      refine lv_aload_n hx hb dX12_secondHash_508 rfl (lv_at hl 3 rfl) ?_
      refine va_get (D := D) (ci := 16) (v := .ref st) (C := RX12) (T := TX12) (N := 64) hx hb hts (by decide +kernel) hown hK hP 4 rfl rfl 18 (by decide) (hts (.fieldLink RX12 49 "SignetRingModel" "state" "[I") (by decide +kernel)) (fun _ h9 => h9) rfl dX12_secondHash_509 ?_
      refine lv_iload_n hx hb dX12_secondHash_512 rfl (lv_at hl 0 rfl) ?_
      refine va_iald hx hb hK hP 1 1 rfl rfl (by unfold vp_in; decide) dX12_secondHash_513 ?_
      refine lv_topi (fun v144 ev144 => ?_)
      have ev144 : v144 = 1687917388 := ev144.trans (Eq.trans (zf_rd (j := 5) (by decide) (by decide)) (by decide +kernel))
      subst ev144
      have hPc := hP.sub (ws' := [(h0, .inr (16, [w1, w2, w3, w4, w5, w6, w7, w8, w9, w10, w11, w12, w13, w14, .int (nI 64), .ref ms, .ref dg, .ref wd, .ref st, .ref nw, w15, w16, w17, w18, w19, w20, w21, w22, w23, w24, w25, w26, w27, w28, w29, w30, w31, w32, w33, w34, w35, w36, w37, w38, w39, w40, w41, w42, w43, w44, w45, w46, w47, w48, w49, w50, w51, w52, w53, w54, w55, w56, w57, w58])), (dg, .inl (y 1, 32, .inl (zf tO2 20 f3)))]) [4, 5] rfl
      have hDc := hD.sub (ws' := [(h0, .inr (16, [w1, w2, w3, w4, w5, w6, w7, w8, w9, w10, w11, w12, w13, w14, .int (nI 64), .ref ms, .ref dg, .ref wd, .ref st, .ref nw, w15, w16, w17, w18, w19, w20, w21, w22, w23, w24, w25, w26, w27, w28, w29, w30, w31, w32, w33, w34, w35, w36, w37, w38, w39, w40, w41, w42, w43, w44, w45, w46, w47, w48, w49, w50, w51, w52, w53, w54, w55, w56, w57, w58])), (dg, .inl (y 1, 32, .inl (zf tO2 20 f3)))]) [4, 5] (by decide) rfl
      have hFc := va_free (wc := [(h0, .inr (16, [w1, w2, w3, w4, w5, w6, w7, w8, w9, w10, w11, w12, w13, w14, .int (nI 64), .ref ms, .ref dg, .ref wd, .ref st, .ref nw, w15, w16, w17, w18, w19, w20, w21, w22, w23, w24, w25, w26, w27, w28, w29, w30, w31, w32, w33, w34, w35, w36, w37, w38, w39, w40, w41, w42, w43, w44, w45, w46, w47, w48, w49, w50, w51, w52, w53, w54, w55, w56, w57, w58])), (dg, .inl (y 1, 32, .inl (zf tO2 20 f3)))]) hD hS hA [4, 5] rfl
      refine va_callv (va_runV (As := [.int 5, .int 1687917388]) (rest := []) ⟨hx, hb, hml, hown, hts⟩ (c_M_keep_2_5 l D y H.size h0 dg w1 w2 w3 w4 w5 w6 w7 w8 w9 w10 w11 w12 w13 w14 ((.int (nI 64))) ((.ref ms)) ((.ref wd)) ((.ref st)) ((.ref nw)) w15 w16 w17 w18 w19 w20 w21 w22 w23 w24 w25 w26 w27 w28 w29 w30 w31 w32 w33 w34 w35 w36 w37 w38 w39 w40 w41 w42 w43 w44 w45 w46 w47 w48 w49 w50 w51 w52 w53 w54 w55 w56 w57 w58 f3) (cwV 2 hts gv_c_M_secondHash_c_M_keep_2_5_127 rfl rfl rfl (by decide +kernel) ⟨(Nat.le_of_ble_eq_true rfl), (Nat.le_of_ble_eq_true rfl)⟩) (zB.preV hPc hDc hK hN hE hO hT hG hS hFc (fun _ h => nomatch h) (fun _ h => nomatch h) (fun _ h => nomatch h) (fun _ h => nomatch h) (va_recv hK hPc (ci := 16) (q0 := 0) rfl rfl)) rfl rfl hl.1 rfl (lv_room (Nat.le_of_ble_eq_true rfl)) dX12_secondHash_514 ⟨(Nat.le_of_ble_eq_true rfl), (Nat.le_of_ble_eq_true rfl)⟩) hS (fun q _ h => hFc q h) hFc (fun u t H1 locs ht hvm hw hB hz1 hk1 hS => ?_)
      obtain ⟨hP1, hD1⟩ := hB
      rw [ht] at hP1
      obtain ⟨hP, hD⟩ := va_join (wr := [(wd, .inl (y 1, 80, .inl (zf tW2 64 f2))), (st, .inl (y 1, 8, .inl (zf tD2 8 (zf tS2 8 f4)))), (nw, .inl (y 1, 8, .inl (zf (tR 64) 8 f5))), (ms, .inl (y 1, 30000, .inl (zf tM 64 f1)))]) (w1 := [(h0, .inr (16, [w1, w2, w3, w4, w5, w6, w7, w8, w9, w10, w11, w12, w13, w14, .int (nI 64), .ref ms, .ref dg, .ref wd, .ref st, .ref nw, w15, w16, w17, w18, w19, w20, w21, w22, w23, w24, w25, w26, w27, w28, w29, w30, w31, w32, w33, w34, w35, w36, w37, w38, w39, w40, w41, w42, w43, w44, w45, w46, w47, w48, w49, w50, w51, w52, w53, w54, w55, w56, w57, w58])), (dg, .inl (y 1, 32, .inl (zf tO2 24 f3)))]) hP hD [4, 5] [0, 1, 2, 3] rfl rfl (by decide) (by decide) hk1 hFc hP1 hD1
      generalize H1 = H at hP hS ⊢
      have hP : va_P D vwCl [(wd, .inl (y 1, 80, .inl (zf tW2 64 f2))), (st, .inl (y 1, 8, .inl (zf tD2 8 (zf tS2 8 f4)))), (nw, .inl (y 1, 8, .inl (zf (tR 64) 8 f5))), (ms, .inl (y 1, 30000, .inl (zf tM 64 f1))), (h0, .inr (16, [w1, w2, w3, w4, w5, w6, w7, w8, w9, w10, w11, w12, w13, w14, .int (nI 64), .ref ms, .ref dg, .ref wd, .ref st, .ref nw, w15, w16, w17, w18, w19, w20, w21, w22, w23, w24, w25, w26, w27, w28, w29, w30, w31, w32, w33, w34, w35, w36, w37, w38, w39, w40, w41, w42, w43, w44, w45, w46, w47, w48, w49, w50, w51, w52, w53, w54, w55, w56, w57, w58])), (dg, .inl (y 1, 32, .inl (zf tO2 24 f3)))] H := hP
      have hD : va_D A [(wd, .inl (y 1, 80, .inl (zf tW2 64 f2))), (st, .inl (y 1, 8, .inl (zf tD2 8 (zf tS2 8 f4)))), (nw, .inl (y 1, 8, .inl (zf (tR 64) 8 f5))), (ms, .inl (y 1, 30000, .inl (zf tM 64 f1))), (h0, .inr (16, [w1, w2, w3, w4, w5, w6, w7, w8, w9, w10, w11, w12, w13, w14, .int (nI 64), .ref ms, .ref dg, .ref wd, .ref st, .ref nw, w15, w16, w17, w18, w19, w20, w21, w22, w23, w24, w25, w26, w27, w28, w29, w30, w31, w32, w33, w34, w35, w36, w37, w38, w39, w40, w41, w42, w43, w44, w45, w46, w47, w48, w49, w50, w51, w52, w53, w54, w55, w56, w57, w58])), (dg, .inl (y 1, 32, .inl (zf tO2 24 f3)))] := hD
      refine lv_iinc (v := 6) (lv' := [(2, .int 6), (3, .int 8), (1, .int 1), (0, .ref h0)]) hx hb dX12_secondHash_517 hl (k := 0) rfl (by decide) (by decide) rfl (fun ls hl => ?_)
      refine lv_goto (tgt := 500) hx hb dX12_secondHash_520 (by decide) ?_
      refine lv_iload_n hx hb dX12_secondHash_500 rfl (lv_at hl 0 rfl) ?_
      refine lv_bipush (v := 8) hx hb dX12_secondHash_501 (by decide) ?_
      refine lv_icmp_ge (tgt := 523) hx hb dX12_secondHash_503 (by decide) (fun c9 => absurd c9 (by decide)) (fun _ => ?_)
      refine lv_aload_n hx hb dX12_secondHash_506 rfl (lv_at hl 3 rfl) ?_
      refine lv_iload_n hx hb dX12_secondHash_507 rfl (lv_at hl 0 rfl) ?_
      refine lv_aload_n hx hb dX12_secondHash_508 rfl (lv_at hl 3 rfl) ?_
      refine va_get (D := D) (ci := 16) (v := .ref st) (C := RX12) (T := TX12) (N := 64) hx hb hts (by decide +kernel) hown hK hP 4 rfl rfl 18 (by decide) (hts (.fieldLink RX12 49 "SignetRingModel" "state" "[I") (by decide +kernel)) (fun _ h9 => h9) rfl dX12_secondHash_509 ?_
      refine lv_iload_n hx hb dX12_secondHash_512 rfl (lv_at hl 0 rfl) ?_
      refine va_iald hx hb hK hP 1 1 rfl rfl (by unfold vp_in; decide) dX12_secondHash_513 ?_
      refine lv_topi (fun v145 ev145 => ?_)
      have ev145 : v145 = -1533699813 := ev145.trans (Eq.trans (zf_rd (j := 6) (by decide) (by decide)) (by decide +kernel))
      subst ev145
      have hPc := hP.sub (ws' := [(h0, .inr (16, [w1, w2, w3, w4, w5, w6, w7, w8, w9, w10, w11, w12, w13, w14, .int (nI 64), .ref ms, .ref dg, .ref wd, .ref st, .ref nw, w15, w16, w17, w18, w19, w20, w21, w22, w23, w24, w25, w26, w27, w28, w29, w30, w31, w32, w33, w34, w35, w36, w37, w38, w39, w40, w41, w42, w43, w44, w45, w46, w47, w48, w49, w50, w51, w52, w53, w54, w55, w56, w57, w58])), (dg, .inl (y 1, 32, .inl (zf tO2 24 f3)))]) [4, 5] rfl
      have hDc := hD.sub (ws' := [(h0, .inr (16, [w1, w2, w3, w4, w5, w6, w7, w8, w9, w10, w11, w12, w13, w14, .int (nI 64), .ref ms, .ref dg, .ref wd, .ref st, .ref nw, w15, w16, w17, w18, w19, w20, w21, w22, w23, w24, w25, w26, w27, w28, w29, w30, w31, w32, w33, w34, w35, w36, w37, w38, w39, w40, w41, w42, w43, w44, w45, w46, w47, w48, w49, w50, w51, w52, w53, w54, w55, w56, w57, w58])), (dg, .inl (y 1, 32, .inl (zf tO2 24 f3)))]) [4, 5] (by decide) rfl
      have hFc := va_free (wc := [(h0, .inr (16, [w1, w2, w3, w4, w5, w6, w7, w8, w9, w10, w11, w12, w13, w14, .int (nI 64), .ref ms, .ref dg, .ref wd, .ref st, .ref nw, w15, w16, w17, w18, w19, w20, w21, w22, w23, w24, w25, w26, w27, w28, w29, w30, w31, w32, w33, w34, w35, w36, w37, w38, w39, w40, w41, w42, w43, w44, w45, w46, w47, w48, w49, w50, w51, w52, w53, w54, w55, w56, w57, w58])), (dg, .inl (y 1, 32, .inl (zf tO2 24 f3)))]) hD hS hA [4, 5] rfl
      refine va_callv (va_runV (As := [.int 6, .int (-1533699813)]) (rest := []) ⟨hx, hb, hml, hown, hts⟩ (c_M_keep_2_6 l D y H.size h0 dg w1 w2 w3 w4 w5 w6 w7 w8 w9 w10 w11 w12 w13 w14 ((.int (nI 64))) ((.ref ms)) ((.ref wd)) ((.ref st)) ((.ref nw)) w15 w16 w17 w18 w19 w20 w21 w22 w23 w24 w25 w26 w27 w28 w29 w30 w31 w32 w33 w34 w35 w36 w37 w38 w39 w40 w41 w42 w43 w44 w45 w46 w47 w48 w49 w50 w51 w52 w53 w54 w55 w56 w57 w58 f3) (cwV 2 hts gv_c_M_secondHash_c_M_keep_2_6_127 rfl rfl rfl (by decide +kernel) ⟨(Nat.le_of_ble_eq_true rfl), (Nat.le_of_ble_eq_true rfl)⟩) (zB.preV hPc hDc hK hN hE hO hT hG hS hFc (fun _ h => nomatch h) (fun _ h => nomatch h) (fun _ h => nomatch h) (fun _ h => nomatch h) (va_recv hK hPc (ci := 16) (q0 := 0) rfl rfl)) rfl rfl hl.1 rfl (lv_room (Nat.le_of_ble_eq_true rfl)) dX12_secondHash_514 ⟨(Nat.le_of_ble_eq_true rfl), (Nat.le_of_ble_eq_true rfl)⟩) hS (fun q _ h => hFc q h) hFc (fun u t H1 locs ht hvm hw hB hz1 hk1 hS => ?_)
      obtain ⟨hP1, hD1⟩ := hB
      rw [ht] at hP1
      obtain ⟨hP, hD⟩ := va_join (wr := [(wd, .inl (y 1, 80, .inl (zf tW2 64 f2))), (st, .inl (y 1, 8, .inl (zf tD2 8 (zf tS2 8 f4)))), (nw, .inl (y 1, 8, .inl (zf (tR 64) 8 f5))), (ms, .inl (y 1, 30000, .inl (zf tM 64 f1)))]) (w1 := [(h0, .inr (16, [w1, w2, w3, w4, w5, w6, w7, w8, w9, w10, w11, w12, w13, w14, .int (nI 64), .ref ms, .ref dg, .ref wd, .ref st, .ref nw, w15, w16, w17, w18, w19, w20, w21, w22, w23, w24, w25, w26, w27, w28, w29, w30, w31, w32, w33, w34, w35, w36, w37, w38, w39, w40, w41, w42, w43, w44, w45, w46, w47, w48, w49, w50, w51, w52, w53, w54, w55, w56, w57, w58])), (dg, .inl (y 1, 32, .inl (zf tO2 28 f3)))]) hP hD [4, 5] [0, 1, 2, 3] rfl rfl (by decide) (by decide) hk1 hFc hP1 hD1
      generalize H1 = H at hP hS ⊢
      have hP : va_P D vwCl [(wd, .inl (y 1, 80, .inl (zf tW2 64 f2))), (st, .inl (y 1, 8, .inl (zf tD2 8 (zf tS2 8 f4)))), (nw, .inl (y 1, 8, .inl (zf (tR 64) 8 f5))), (ms, .inl (y 1, 30000, .inl (zf tM 64 f1))), (h0, .inr (16, [w1, w2, w3, w4, w5, w6, w7, w8, w9, w10, w11, w12, w13, w14, .int (nI 64), .ref ms, .ref dg, .ref wd, .ref st, .ref nw, w15, w16, w17, w18, w19, w20, w21, w22, w23, w24, w25, w26, w27, w28, w29, w30, w31, w32, w33, w34, w35, w36, w37, w38, w39, w40, w41, w42, w43, w44, w45, w46, w47, w48, w49, w50, w51, w52, w53, w54, w55, w56, w57, w58])), (dg, .inl (y 1, 32, .inl (zf tO2 28 f3)))] H := hP
      have hD : va_D A [(wd, .inl (y 1, 80, .inl (zf tW2 64 f2))), (st, .inl (y 1, 8, .inl (zf tD2 8 (zf tS2 8 f4)))), (nw, .inl (y 1, 8, .inl (zf (tR 64) 8 f5))), (ms, .inl (y 1, 30000, .inl (zf tM 64 f1))), (h0, .inr (16, [w1, w2, w3, w4, w5, w6, w7, w8, w9, w10, w11, w12, w13, w14, .int (nI 64), .ref ms, .ref dg, .ref wd, .ref st, .ref nw, w15, w16, w17, w18, w19, w20, w21, w22, w23, w24, w25, w26, w27, w28, w29, w30, w31, w32, w33, w34, w35, w36, w37, w38, w39, w40, w41, w42, w43, w44, w45, w46, w47, w48, w49, w50, w51, w52, w53, w54, w55, w56, w57, w58])), (dg, .inl (y 1, 32, .inl (zf tO2 28 f3)))] := hD
      refine lv_iinc (v := 7) (lv' := [(2, .int 7), (3, .int 8), (1, .int 1), (0, .ref h0)]) hx hb dX12_secondHash_517 hl (k := 0) rfl (by decide) (by decide) rfl (fun ls hl => ?_)
      refine lv_goto (tgt := 500) hx hb dX12_secondHash_520 (by decide) ?_
      refine lv_iload_n hx hb dX12_secondHash_500 rfl (lv_at hl 0 rfl) ?_
      refine lv_bipush (v := 8) hx hb dX12_secondHash_501 (by decide) ?_
      refine lv_icmp_ge (tgt := 523) hx hb dX12_secondHash_503 (by decide) (fun c9 => absurd c9 (by decide)) (fun _ => ?_)
      refine lv_aload_n hx hb dX12_secondHash_506 rfl (lv_at hl 3 rfl) ?_
      refine lv_iload_n hx hb dX12_secondHash_507 rfl (lv_at hl 0 rfl) ?_
      refine lv_aload_n hx hb dX12_secondHash_508 rfl (lv_at hl 3 rfl) ?_
      refine va_get (D := D) (ci := 16) (v := .ref st) (C := RX12) (T := TX12) (N := 64) hx hb hts (by decide +kernel) hown hK hP 4 rfl rfl 18 (by decide) (hts (.fieldLink RX12 49 "SignetRingModel" "state" "[I") (by decide +kernel)) (fun _ h9 => h9) rfl dX12_secondHash_509 ?_
      refine lv_iload_n hx hb dX12_secondHash_512 rfl (lv_at hl 0 rfl) ?_
      refine va_iald hx hb hK hP 1 1 rfl rfl (by unfold vp_in; decide) dX12_secondHash_513 ?_
      refine lv_topi (fun v146 ev146 => ?_)
      have ev146 : v146 = 2018687061 := ev146.trans (Eq.trans (zf_rd (j := 7) (by decide) (by decide)) (by decide +kernel))
      subst ev146
      have hPc := hP.sub (ws' := [(h0, .inr (16, [w1, w2, w3, w4, w5, w6, w7, w8, w9, w10, w11, w12, w13, w14, .int (nI 64), .ref ms, .ref dg, .ref wd, .ref st, .ref nw, w15, w16, w17, w18, w19, w20, w21, w22, w23, w24, w25, w26, w27, w28, w29, w30, w31, w32, w33, w34, w35, w36, w37, w38, w39, w40, w41, w42, w43, w44, w45, w46, w47, w48, w49, w50, w51, w52, w53, w54, w55, w56, w57, w58])), (dg, .inl (y 1, 32, .inl (zf tO2 28 f3)))]) [4, 5] rfl
      have hDc := hD.sub (ws' := [(h0, .inr (16, [w1, w2, w3, w4, w5, w6, w7, w8, w9, w10, w11, w12, w13, w14, .int (nI 64), .ref ms, .ref dg, .ref wd, .ref st, .ref nw, w15, w16, w17, w18, w19, w20, w21, w22, w23, w24, w25, w26, w27, w28, w29, w30, w31, w32, w33, w34, w35, w36, w37, w38, w39, w40, w41, w42, w43, w44, w45, w46, w47, w48, w49, w50, w51, w52, w53, w54, w55, w56, w57, w58])), (dg, .inl (y 1, 32, .inl (zf tO2 28 f3)))]) [4, 5] (by decide) rfl
      have hFc := va_free (wc := [(h0, .inr (16, [w1, w2, w3, w4, w5, w6, w7, w8, w9, w10, w11, w12, w13, w14, .int (nI 64), .ref ms, .ref dg, .ref wd, .ref st, .ref nw, w15, w16, w17, w18, w19, w20, w21, w22, w23, w24, w25, w26, w27, w28, w29, w30, w31, w32, w33, w34, w35, w36, w37, w38, w39, w40, w41, w42, w43, w44, w45, w46, w47, w48, w49, w50, w51, w52, w53, w54, w55, w56, w57, w58])), (dg, .inl (y 1, 32, .inl (zf tO2 28 f3)))]) hD hS hA [4, 5] rfl
      refine va_callv (va_runV (As := [.int 7, .int 2018687061]) (rest := []) ⟨hx, hb, hml, hown, hts⟩ (c_M_keep_2_7 l D y H.size h0 dg w1 w2 w3 w4 w5 w6 w7 w8 w9 w10 w11 w12 w13 w14 ((.int (nI 64))) ((.ref ms)) ((.ref wd)) ((.ref st)) ((.ref nw)) w15 w16 w17 w18 w19 w20 w21 w22 w23 w24 w25 w26 w27 w28 w29 w30 w31 w32 w33 w34 w35 w36 w37 w38 w39 w40 w41 w42 w43 w44 w45 w46 w47 w48 w49 w50 w51 w52 w53 w54 w55 w56 w57 w58 f3) (cwV 2 hts gv_c_M_secondHash_c_M_keep_2_7_127 rfl rfl rfl (by decide +kernel) ⟨(Nat.le_of_ble_eq_true rfl), (Nat.le_of_ble_eq_true rfl)⟩) (zB.preV hPc hDc hK hN hE hO hT hG hS hFc (fun _ h => nomatch h) (fun _ h => nomatch h) (fun _ h => nomatch h) (fun _ h => nomatch h) (va_recv hK hPc (ci := 16) (q0 := 0) rfl rfl)) rfl rfl hl.1 rfl (lv_room (Nat.le_of_ble_eq_true rfl)) dX12_secondHash_514 ⟨(Nat.le_of_ble_eq_true rfl), (Nat.le_of_ble_eq_true rfl)⟩) hS (fun q _ h => hFc q h) hFc (fun u t H1 locs ht hvm hw hB hz1 hk1 hS => ?_)
      obtain ⟨hP1, hD1⟩ := hB
      rw [ht] at hP1
      obtain ⟨hP, hD⟩ := va_join (wr := [(wd, .inl (y 1, 80, .inl (zf tW2 64 f2))), (st, .inl (y 1, 8, .inl (zf tD2 8 (zf tS2 8 f4)))), (nw, .inl (y 1, 8, .inl (zf (tR 64) 8 f5))), (ms, .inl (y 1, 30000, .inl (zf tM 64 f1)))]) (w1 := [(h0, .inr (16, [w1, w2, w3, w4, w5, w6, w7, w8, w9, w10, w11, w12, w13, w14, .int (nI 64), .ref ms, .ref dg, .ref wd, .ref st, .ref nw, w15, w16, w17, w18, w19, w20, w21, w22, w23, w24, w25, w26, w27, w28, w29, w30, w31, w32, w33, w34, w35, w36, w37, w38, w39, w40, w41, w42, w43, w44, w45, w46, w47, w48, w49, w50, w51, w52, w53, w54, w55, w56, w57, w58])), (dg, .inl (y 1, 32, .inl (zf tO2 32 f3)))]) hP hD [4, 5] [0, 1, 2, 3] rfl rfl (by decide) (by decide) hk1 hFc hP1 hD1
      generalize H1 = H at hP hS ⊢
      have hP : va_P D vwCl [(wd, .inl (y 1, 80, .inl (zf tW2 64 f2))), (st, .inl (y 1, 8, .inl (zf tD2 8 (zf tS2 8 f4)))), (nw, .inl (y 1, 8, .inl (zf (tR 64) 8 f5))), (ms, .inl (y 1, 30000, .inl (zf tM 64 f1))), (h0, .inr (16, [w1, w2, w3, w4, w5, w6, w7, w8, w9, w10, w11, w12, w13, w14, .int (nI 64), .ref ms, .ref dg, .ref wd, .ref st, .ref nw, w15, w16, w17, w18, w19, w20, w21, w22, w23, w24, w25, w26, w27, w28, w29, w30, w31, w32, w33, w34, w35, w36, w37, w38, w39, w40, w41, w42, w43, w44, w45, w46, w47, w48, w49, w50, w51, w52, w53, w54, w55, w56, w57, w58])), (dg, .inl (y 1, 32, .inl (zf tO2 32 f3)))] H := hP
      have hD : va_D A [(wd, .inl (y 1, 80, .inl (zf tW2 64 f2))), (st, .inl (y 1, 8, .inl (zf tD2 8 (zf tS2 8 f4)))), (nw, .inl (y 1, 8, .inl (zf (tR 64) 8 f5))), (ms, .inl (y 1, 30000, .inl (zf tM 64 f1))), (h0, .inr (16, [w1, w2, w3, w4, w5, w6, w7, w8, w9, w10, w11, w12, w13, w14, .int (nI 64), .ref ms, .ref dg, .ref wd, .ref st, .ref nw, w15, w16, w17, w18, w19, w20, w21, w22, w23, w24, w25, w26, w27, w28, w29, w30, w31, w32, w33, w34, w35, w36, w37, w38, w39, w40, w41, w42, w43, w44, w45, w46, w47, w48, w49, w50, w51, w52, w53, w54, w55, w56, w57, w58])), (dg, .inl (y 1, 32, .inl (zf tO2 32 f3)))] := hD
      refine lv_iinc (v := 8) (lv' := [(2, .int 8), (3, .int 8), (1, .int 1), (0, .ref h0)]) hx hb dX12_secondHash_517 hl (k := 0) rfl (by decide) (by decide) rfl (fun ls hl => ?_)
      refine lv_goto (tgt := 500) hx hb dX12_secondHash_520 (by decide) ?_
      refine lv_iload_n hx hb dX12_secondHash_500 rfl (lv_at hl 0 rfl) ?_
      refine lv_bipush (v := 8) hx hb dX12_secondHash_501 (by decide) ?_
      refine lv_icmp_ge (tgt := 523) hx hb dX12_secondHash_503 (by decide) (fun _ => ?_) (fun c9 => absurd (by decide) c9)
      have hP9 := hP.sub (ws' := [(h0, .inr (16, [w1, w2, w3, w4, w5, w6, w7, w8, w9, w10, w11, w12, w13, w14, .int (nI 64), .ref ms, .ref dg, .ref wd, .ref st, .ref nw, w15, w16, w17, w18, w19, w20, w21, w22, w23, w24, w25, w26, w27, w28, w29, w30, w31, w32, w33, w34, w35, w36, w37, w38, w39, w40, w41, w42, w43, w44, w45, w46, w47, w48, w49, w50, w51, w52, w53, w54, w55, w56, w57, w58])), (ms, .inl (y 1, 30000, .inl (zf tM 64 f1))), (wd, .inl (y 1, 80, .inl (zf tW2 64 f2))), (dg, .inl (y 1, 32, .inl (zf tO2 32 f3))), (st, .inl (y 1, 8, .inl (zf tD2 8 (zf tS2 8 f4)))), (nw, .inl (y 1, 8, .inl (zf (tR 64) 8 f5)))]) [4, 3, 0, 5, 1, 2] rfl
      have hD9 := hD.sub (ws' := [(h0, .inr (16, [w1, w2, w3, w4, w5, w6, w7, w8, w9, w10, w11, w12, w13, w14, .int (nI 64), .ref ms, .ref dg, .ref wd, .ref st, .ref nw, w15, w16, w17, w18, w19, w20, w21, w22, w23, w24, w25, w26, w27, w28, w29, w30, w31, w32, w33, w34, w35, w36, w37, w38, w39, w40, w41, w42, w43, w44, w45, w46, w47, w48, w49, w50, w51, w52, w53, w54, w55, w56, w57, w58])), (ms, .inl (y 1, 30000, .inl (zf tM 64 f1))), (wd, .inl (y 1, 80, .inl (zf tW2 64 f2))), (dg, .inl (y 1, 32, .inl (zf tO2 32 f3))), (st, .inl (y 1, 8, .inl (zf tD2 8 (zf tS2 8 f4)))), (nw, .inl (y 1, 8, .inl (zf (tR 64) 8 f5)))]) [4, 3, 0, 5, 1, 2] (by decide) rfl
      refine W.widen (k := 0) (n := 0) (Nat.le_of_ble_eq_true rfl) (Nat.le_of_ble_eq_true rfl) ?_
      exact W.vret hx hb hr (fun t ht hW => ⟨⟨(), rfl, trivial, by rw [ht]; exact hP9, hD9⟩, hS.F ht⟩) hS.2.2 dX12_secondHash_523

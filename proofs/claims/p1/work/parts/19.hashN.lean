def wz_c_M_firstHash : List Cond := .code yX12_firstHash cX12_firstHash 17 none :: ([.methodLink RX12 106 yX12_close, .instanceMethod yX12_close, .selects RX12 yX12_close yX12_close, .initialized RX12, .constant RX12 110 1732584193, .constant RX12 111 (-271733879), .constant RX12 112 (-1732584194), .constant RX12 113 271733878, .constant RX12 114 (-1009589776), .fieldLink RX12 46 "SignetRingModel" "words" "[I", .fieldLink RX12 40 "SignetRingModel" "message" "[I", .methodLink RX12 115 yX12_number, .static yX12_number, .constant RX12 123 1518500249, .methodLink RX12 119 yX12_left, .static yX12_left, .constant RX12 124 1859775393, .constant RX12 125 (-1894007588), .constant RX12 126 (-899497514), .methodLink RX12 127 yX12_keep, .instanceMethod yX12_keep, .selects RX12 yX12_keep yX12_keep] ++ (wsX120 ++ (wz_c_M_close ++ (wz_c_M_number ++ (wz_c_M_left ++ (wz_c_M_keep_1_0 ++ (wz_c_M_keep_1_1 ++ (wz_c_M_keep_1_2 ++ (wz_c_M_keep_1_3 ++ (wz_c_M_keep_1_4 ++ ([])))))))))))
set_option maxRecDepth 100000 in
theorem gz_c_M_firstHash_c_M_close : GoodIn wz_c_M_firstHash wz_c_M_close := goodIn_sub (fun w h => List.mem_cons_of_mem _ (List.mem_append_right _ (List.mem_append_right _ (List.mem_append_left _ h)))) (by decide +kernel)
set_option maxRecDepth 100000 in
theorem gz_c_M_firstHash_c_M_number : GoodIn wz_c_M_firstHash wz_c_M_number := goodIn_sub (fun w h => List.mem_cons_of_mem _ (List.mem_append_right _ (List.mem_append_right _ (List.mem_append_right _ (List.mem_append_left _ h))))) (by decide +kernel)
set_option maxRecDepth 100000 in
theorem gz_c_M_firstHash_c_M_left : GoodIn wz_c_M_firstHash wz_c_M_left := goodIn_sub (fun w h => List.mem_cons_of_mem _ (List.mem_append_right _ (List.mem_append_right _ (List.mem_append_right _ (List.mem_append_right _ (List.mem_append_left _ h)))))) (by decide +kernel)
set_option maxRecDepth 100000 in
theorem gz_c_M_firstHash_c_M_keep_1_0 : GoodIn wz_c_M_firstHash wz_c_M_keep_1_0 := goodIn_sub (fun w h => List.mem_cons_of_mem _ (List.mem_append_right _ (List.mem_append_right _ (List.mem_append_right _ (List.mem_append_right _ (List.mem_append_right _ (List.mem_append_left _ h))))))) (by decide +kernel)
set_option maxRecDepth 100000 in
theorem gz_c_M_firstHash_c_M_keep_1_1 : GoodIn wz_c_M_firstHash wz_c_M_keep_1_1 := goodIn_sub (fun w h => List.mem_cons_of_mem _ (List.mem_append_right _ (List.mem_append_right _ (List.mem_append_right _ (List.mem_append_right _ (List.mem_append_right _ (List.mem_append_right _ (List.mem_append_left _ h)))))))) (by decide +kernel)
set_option maxRecDepth 100000 in
theorem gz_c_M_firstHash_c_M_keep_1_2 : GoodIn wz_c_M_firstHash wz_c_M_keep_1_2 := goodIn_sub (fun w h => List.mem_cons_of_mem _ (List.mem_append_right _ (List.mem_append_right _ (List.mem_append_right _ (List.mem_append_right _ (List.mem_append_right _ (List.mem_append_right _ (List.mem_append_right _ (List.mem_append_left _ h))))))))) (by decide +kernel)
set_option maxRecDepth 100000 in
theorem gz_c_M_firstHash_c_M_keep_1_3 : GoodIn wz_c_M_firstHash wz_c_M_keep_1_3 := goodIn_sub (fun w h => List.mem_cons_of_mem _ (List.mem_append_right _ (List.mem_append_right _ (List.mem_append_right _ (List.mem_append_right _ (List.mem_append_right _ (List.mem_append_right _ (List.mem_append_right _ (List.mem_append_right _ (List.mem_append_left _ h)))))))))) (by decide +kernel)
set_option maxRecDepth 100000 in
theorem gz_c_M_firstHash_c_M_keep_1_4 : GoodIn wz_c_M_firstHash wz_c_M_keep_1_4 := goodIn_sub (fun w h => List.mem_cons_of_mem _ (List.mem_append_right _ (List.mem_append_right _ (List.mem_append_right _ (List.mem_append_right _ (List.mem_append_right _ (List.mem_append_right _ (List.mem_append_right _ (List.mem_append_right _ (List.mem_append_right _ (List.mem_append_left _ h))))))))))) (by decide +kernel)
set_option maxRecDepth 100000 in
theorem gv_c_M_firstHash_c_M_close_106 : GoodIn wz_c_M_firstHash (wsV RX12 106 RX12 yX12_close wz_c_M_close) := goodIn_app (goodIn_of _ (by decide +kernel)) gz_c_M_firstHash_c_M_close
set_option maxRecDepth 100000 in
theorem gv_c_M_firstHash_c_M_number_115 : GoodIn wz_c_M_firstHash (va_wsS RX12 115 yX12_number wz_c_M_number) := goodIn_app (goodIn_of _ (by decide +kernel)) gz_c_M_firstHash_c_M_number
set_option maxRecDepth 100000 in
theorem gv_c_M_firstHash_c_M_left_119 : GoodIn wz_c_M_firstHash (va_wsS RX12 119 yX12_left wz_c_M_left) := goodIn_app (goodIn_of _ (by decide +kernel)) gz_c_M_firstHash_c_M_left
set_option maxRecDepth 100000 in
theorem gv_c_M_firstHash_c_M_keep_1_0_127 : GoodIn wz_c_M_firstHash (wsV RX12 127 RX12 yX12_keep wz_c_M_keep_1_0) := goodIn_app (goodIn_of _ (by decide +kernel)) gz_c_M_firstHash_c_M_keep_1_0
set_option maxRecDepth 100000 in
theorem gv_c_M_firstHash_c_M_keep_1_1_127 : GoodIn wz_c_M_firstHash (wsV RX12 127 RX12 yX12_keep wz_c_M_keep_1_1) := goodIn_app (goodIn_of _ (by decide +kernel)) gz_c_M_firstHash_c_M_keep_1_1
set_option maxRecDepth 100000 in
theorem gv_c_M_firstHash_c_M_keep_1_2_127 : GoodIn wz_c_M_firstHash (wsV RX12 127 RX12 yX12_keep wz_c_M_keep_1_2) := goodIn_app (goodIn_of _ (by decide +kernel)) gz_c_M_firstHash_c_M_keep_1_2
set_option maxRecDepth 100000 in
theorem gv_c_M_firstHash_c_M_keep_1_3_127 : GoodIn wz_c_M_firstHash (wsV RX12 127 RX12 yX12_keep wz_c_M_keep_1_3) := goodIn_app (goodIn_of _ (by decide +kernel)) gz_c_M_firstHash_c_M_keep_1_3
set_option maxRecDepth 100000 in
theorem gv_c_M_firstHash_c_M_keep_1_4_127 : GoodIn wz_c_M_firstHash (wsV RX12 127 RX12 yX12_keep wz_c_M_keep_1_4) := goodIn_app (goodIn_of _ (by decide +kernel)) gz_c_M_firstHash_c_M_keep_1_4
set_option maxHeartbeats 4000000 in
set_option maxRecDepth 100000 in
theorem ax_c_M_firstHash_0 : ∀ k1 : Nat, k1 < 16 → 0 ≤ k1 → ¬ (80 : Int32) ≤ (nI k1) := by decide +kernel
set_option maxHeartbeats 4000000 in
set_option maxRecDepth 100000 in
theorem ax_c_M_firstHash_1 : ∀ k1 : Nat, k1 < 16 → 0 ≤ k1 → ¬ (16 : Int32) ≤ (nI k1) := by decide +kernel
set_option maxHeartbeats 4000000 in
set_option maxRecDepth 100000 in
theorem ax_c_M_firstHash_2 : ∀ k1 : Nat, k1 < 16 → 0 ≤ k1 → (4 : Int32) * (nI k1) = nI (4 * k1) := by decide +kernel
set_option maxHeartbeats 4000000 in
set_option maxRecDepth 100000 in
theorem ax_c_M_firstHash_3 : ∀ k1 : Nat, k1 < 16 → 0 ≤ k1 → (0 : Int32) + (nI (4 * k1)) = nI (4 * k1) := by decide +kernel
set_option maxHeartbeats 4000000 in
set_option maxRecDepth 100000 in
theorem ax_c_M_firstHash_4 : ∀ k1 : Nat, k1 < 16 → 0 ≤ k1 → ((((((((0 : Int64) + ((tM ((4 * k1) + 0)).toInt64)) * (256 : Int64)) + ((tM ((4 * k1) + 1)).toInt64)) * (256 : Int64)) + ((tM ((4 * k1) + 2)).toInt64)) * (256 : Int64)) + ((tM ((4 * k1) + 3)).toInt64)).toInt32 = tW1 k1 := by decide +kernel
set_option maxHeartbeats 4000000 in
set_option maxRecDepth 100000 in
theorem ax_c_M_firstHash_5 : ∀ k1 : Nat, k1 < 16 → 0 ≤ k1 → ¬ (20 : Int32) ≤ (nI k1) := by decide +kernel
set_option maxHeartbeats 4000000 in
set_option maxRecDepth 100000 in
theorem ax_c_M_firstHash_6 : ∀ k1 : Nat, k1 < 16 → 0 ≤ k1 → ((((((tA (k1 + 4)) <<< ((5 : Int32) &&& 31)) ||| (zu (tA (k1 + 4)) ((32 : Int32) - (5 : Int32)))) + ((tC (k1 + 1)) ^^^ ((tA (k1 + 3)) &&& ((tC (k1 + 2)) ^^^ (tC (k1 + 1)))))) + (tC k1)) + (1518500249 : Int32)) + (tW1 k1) = tA (k1 + 5) := by decide +kernel
set_option maxHeartbeats 4000000 in
set_option maxRecDepth 100000 in
theorem ax_c_M_firstHash_7 : ∀ k1 : Nat, k1 < 16 → 0 ≤ k1 → (((tA (k1 + 3)) <<< ((30 : Int32) &&& 31)) ||| (zu (tA (k1 + 3)) ((32 : Int32) - (30 : Int32)))) = tC (k1 + 3) := by decide +kernel
set_option maxHeartbeats 4000000 in
set_option maxRecDepth 100000 in
theorem ax_c_M_firstHash_8 : ∀ k1 : Nat, k1 < 16 → 0 ≤ k1 → nI k1 + Int32.ofInt 1 = nI (k1 + 1) := by decide +kernel
set_option maxHeartbeats 4000000 in
set_option maxRecDepth 100000 in
theorem ax_c_M_firstHash_9 : ∀ k2 : Nat, k2 < 20 → 16 ≤ k2 → ¬ (80 : Int32) ≤ (nI k2) := by decide +kernel
set_option maxHeartbeats 4000000 in
set_option maxRecDepth 100000 in
theorem ax_c_M_firstHash_10 : ∀ k2 : Nat, k2 < 20 → 16 ≤ k2 → (16 : Int32) ≤ (nI k2) := by decide +kernel
set_option maxHeartbeats 4000000 in
set_option maxRecDepth 100000 in
theorem ax_c_M_firstHash_11 : ∀ k2 : Nat, k2 < 20 → 16 ≤ k2 → (nI k2) - (3 : Int32) = nI (k2 - 3) := by decide +kernel
set_option maxHeartbeats 4000000 in
set_option maxRecDepth 100000 in
theorem ax_c_M_firstHash_12 : ∀ k2 : Nat, k2 < 20 → 16 ≤ k2 → (nI k2) - (8 : Int32) = nI (k2 - 8) := by decide +kernel
set_option maxHeartbeats 4000000 in
set_option maxRecDepth 100000 in
theorem ax_c_M_firstHash_13 : ∀ k2 : Nat, k2 < 20 → 16 ≤ k2 → (nI k2) - (14 : Int32) = nI (k2 - 14) := by decide +kernel
set_option maxHeartbeats 4000000 in
set_option maxRecDepth 100000 in
theorem ax_c_M_firstHash_14 : ∀ k2 : Nat, k2 < 20 → 16 ≤ k2 → (nI k2) - (16 : Int32) = nI (k2 - 16) := by decide +kernel
set_option maxHeartbeats 4000000 in
set_option maxRecDepth 100000 in
theorem ax_c_M_firstHash_15 : ∀ k2 : Nat, k2 < 20 → 16 ≤ k2 → ((((((tW1 (k2 - 3)) ^^^ (tW1 (k2 - 8))) ^^^ (tW1 (k2 - 14))) ^^^ (tW1 (k2 - 16))) <<< ((1 : Int32) &&& 31)) ||| (zu ((((tW1 (k2 - 3)) ^^^ (tW1 (k2 - 8))) ^^^ (tW1 (k2 - 14))) ^^^ (tW1 (k2 - 16))) ((32 : Int32) - (1 : Int32)))) = tW1 k2 := by decide +kernel
set_option maxHeartbeats 4000000 in
set_option maxRecDepth 100000 in
theorem ax_c_M_firstHash_16 : ∀ k2 : Nat, k2 < 20 → 16 ≤ k2 → ¬ (20 : Int32) ≤ (nI k2) := by decide +kernel
set_option maxHeartbeats 4000000 in
set_option maxRecDepth 100000 in
theorem ax_c_M_firstHash_17 : ∀ k2 : Nat, k2 < 20 → 16 ≤ k2 → ((((((tA (k2 + 4)) <<< ((5 : Int32) &&& 31)) ||| (zu (tA (k2 + 4)) ((32 : Int32) - (5 : Int32)))) + ((tC (k2 + 1)) ^^^ ((tA (k2 + 3)) &&& ((tC (k2 + 2)) ^^^ (tC (k2 + 1)))))) + (tC k2)) + (1518500249 : Int32)) + (tW1 k2) = tA (k2 + 5) := by decide +kernel
set_option maxHeartbeats 4000000 in
set_option maxRecDepth 100000 in
theorem ax_c_M_firstHash_18 : ∀ k2 : Nat, k2 < 20 → 16 ≤ k2 → (((tA (k2 + 3)) <<< ((30 : Int32) &&& 31)) ||| (zu (tA (k2 + 3)) ((32 : Int32) - (30 : Int32)))) = tC (k2 + 3) := by decide +kernel
set_option maxHeartbeats 4000000 in
set_option maxRecDepth 100000 in
theorem ax_c_M_firstHash_19 : ∀ k2 : Nat, k2 < 20 → 16 ≤ k2 → nI k2 + Int32.ofInt 1 = nI (k2 + 1) := by decide +kernel
set_option maxHeartbeats 4000000 in
set_option maxRecDepth 100000 in
theorem ax_c_M_firstHash_20 : ∀ k3 : Nat, k3 < 40 → 20 ≤ k3 → ¬ (80 : Int32) ≤ (nI k3) := by decide +kernel
set_option maxHeartbeats 4000000 in
set_option maxRecDepth 100000 in
theorem ax_c_M_firstHash_21 : ∀ k3 : Nat, k3 < 40 → 20 ≤ k3 → (16 : Int32) ≤ (nI k3) := by decide +kernel
set_option maxHeartbeats 4000000 in
set_option maxRecDepth 100000 in
theorem ax_c_M_firstHash_22 : ∀ k3 : Nat, k3 < 40 → 20 ≤ k3 → (nI k3) - (3 : Int32) = nI (k3 - 3) := by decide +kernel
set_option maxHeartbeats 4000000 in
set_option maxRecDepth 100000 in
theorem ax_c_M_firstHash_23 : ∀ k3 : Nat, k3 < 40 → 20 ≤ k3 → (nI k3) - (8 : Int32) = nI (k3 - 8) := by decide +kernel
set_option maxHeartbeats 4000000 in
set_option maxRecDepth 100000 in
theorem ax_c_M_firstHash_24 : ∀ k3 : Nat, k3 < 40 → 20 ≤ k3 → (nI k3) - (14 : Int32) = nI (k3 - 14) := by decide +kernel
set_option maxHeartbeats 4000000 in
set_option maxRecDepth 100000 in
theorem ax_c_M_firstHash_25 : ∀ k3 : Nat, k3 < 40 → 20 ≤ k3 → (nI k3) - (16 : Int32) = nI (k3 - 16) := by decide +kernel
set_option maxHeartbeats 4000000 in
set_option maxRecDepth 100000 in
theorem ax_c_M_firstHash_26 : ∀ k3 : Nat, k3 < 40 → 20 ≤ k3 → ((((((tW1 (k3 - 3)) ^^^ (tW1 (k3 - 8))) ^^^ (tW1 (k3 - 14))) ^^^ (tW1 (k3 - 16))) <<< ((1 : Int32) &&& 31)) ||| (zu ((((tW1 (k3 - 3)) ^^^ (tW1 (k3 - 8))) ^^^ (tW1 (k3 - 14))) ^^^ (tW1 (k3 - 16))) ((32 : Int32) - (1 : Int32)))) = tW1 k3 := by decide +kernel
set_option maxHeartbeats 4000000 in
set_option maxRecDepth 100000 in
theorem ax_c_M_firstHash_27 : ∀ k3 : Nat, k3 < 40 → 20 ≤ k3 → (20 : Int32) ≤ (nI k3) := by decide +kernel
set_option maxHeartbeats 4000000 in
set_option maxRecDepth 100000 in
theorem ax_c_M_firstHash_28 : ∀ k3 : Nat, k3 < 40 → 20 ≤ k3 → ¬ (40 : Int32) ≤ (nI k3) := by decide +kernel
set_option maxHeartbeats 4000000 in
set_option maxRecDepth 100000 in
theorem ax_c_M_firstHash_29 : ∀ k3 : Nat, k3 < 40 → 20 ≤ k3 → ((((((tA (k3 + 4)) <<< ((5 : Int32) &&& 31)) ||| (zu (tA (k3 + 4)) ((32 : Int32) - (5 : Int32)))) + (((tA (k3 + 3)) ^^^ (tC (k3 + 2))) ^^^ (tC (k3 + 1)))) + (tC k3)) + (1859775393 : Int32)) + (tW1 k3) = tA (k3 + 5) := by decide +kernel
set_option maxHeartbeats 4000000 in
set_option maxRecDepth 100000 in
theorem ax_c_M_firstHash_30 : ∀ k3 : Nat, k3 < 40 → 20 ≤ k3 → (((tA (k3 + 3)) <<< ((30 : Int32) &&& 31)) ||| (zu (tA (k3 + 3)) ((32 : Int32) - (30 : Int32)))) = tC (k3 + 3) := by decide +kernel
set_option maxHeartbeats 4000000 in
set_option maxRecDepth 100000 in
theorem ax_c_M_firstHash_31 : ∀ k3 : Nat, k3 < 40 → 20 ≤ k3 → nI k3 + Int32.ofInt 1 = nI (k3 + 1) := by decide +kernel
set_option maxHeartbeats 4000000 in
set_option maxRecDepth 100000 in
theorem ax_c_M_firstHash_32 : ∀ k4 : Nat, k4 < 60 → 40 ≤ k4 → ¬ (80 : Int32) ≤ (nI k4) := by decide +kernel
set_option maxHeartbeats 4000000 in
set_option maxRecDepth 100000 in
theorem ax_c_M_firstHash_33 : ∀ k4 : Nat, k4 < 60 → 40 ≤ k4 → (16 : Int32) ≤ (nI k4) := by decide +kernel
set_option maxHeartbeats 4000000 in
set_option maxRecDepth 100000 in
theorem ax_c_M_firstHash_34 : ∀ k4 : Nat, k4 < 60 → 40 ≤ k4 → (nI k4) - (3 : Int32) = nI (k4 - 3) := by decide +kernel
set_option maxHeartbeats 4000000 in
set_option maxRecDepth 100000 in
theorem ax_c_M_firstHash_35 : ∀ k4 : Nat, k4 < 60 → 40 ≤ k4 → (nI k4) - (8 : Int32) = nI (k4 - 8) := by decide +kernel
set_option maxHeartbeats 4000000 in
set_option maxRecDepth 100000 in
theorem ax_c_M_firstHash_36 : ∀ k4 : Nat, k4 < 60 → 40 ≤ k4 → (nI k4) - (14 : Int32) = nI (k4 - 14) := by decide +kernel
set_option maxHeartbeats 4000000 in
set_option maxRecDepth 100000 in
theorem ax_c_M_firstHash_37 : ∀ k4 : Nat, k4 < 60 → 40 ≤ k4 → (nI k4) - (16 : Int32) = nI (k4 - 16) := by decide +kernel
set_option maxHeartbeats 4000000 in
set_option maxRecDepth 100000 in
theorem ax_c_M_firstHash_38 : ∀ k4 : Nat, k4 < 60 → 40 ≤ k4 → ((((((tW1 (k4 - 3)) ^^^ (tW1 (k4 - 8))) ^^^ (tW1 (k4 - 14))) ^^^ (tW1 (k4 - 16))) <<< ((1 : Int32) &&& 31)) ||| (zu ((((tW1 (k4 - 3)) ^^^ (tW1 (k4 - 8))) ^^^ (tW1 (k4 - 14))) ^^^ (tW1 (k4 - 16))) ((32 : Int32) - (1 : Int32)))) = tW1 k4 := by decide +kernel
set_option maxHeartbeats 4000000 in
set_option maxRecDepth 100000 in
theorem ax_c_M_firstHash_39 : ∀ k4 : Nat, k4 < 60 → 40 ≤ k4 → (20 : Int32) ≤ (nI k4) := by decide +kernel
set_option maxHeartbeats 4000000 in
set_option maxRecDepth 100000 in
theorem ax_c_M_firstHash_40 : ∀ k4 : Nat, k4 < 60 → 40 ≤ k4 → (40 : Int32) ≤ (nI k4) := by decide +kernel
set_option maxHeartbeats 4000000 in
set_option maxRecDepth 100000 in
theorem ax_c_M_firstHash_41 : ∀ k4 : Nat, k4 < 60 → 40 ≤ k4 → ¬ (60 : Int32) ≤ (nI k4) := by decide +kernel
set_option maxHeartbeats 4000000 in
set_option maxRecDepth 100000 in
theorem ax_c_M_firstHash_42 : ∀ k4 : Nat, k4 < 60 → 40 ≤ k4 → ((((((tA (k4 + 4)) <<< ((5 : Int32) &&& 31)) ||| (zu (tA (k4 + 4)) ((32 : Int32) - (5 : Int32)))) + (((tA (k4 + 3)) &&& (tC (k4 + 2))) ||| ((tC (k4 + 1)) &&& ((tA (k4 + 3)) ||| (tC (k4 + 2)))))) + (tC k4)) + (-1894007588 : Int32)) + (tW1 k4) = tA (k4 + 5) := by decide +kernel
set_option maxHeartbeats 4000000 in
set_option maxRecDepth 100000 in
theorem ax_c_M_firstHash_43 : ∀ k4 : Nat, k4 < 60 → 40 ≤ k4 → (((tA (k4 + 3)) <<< ((30 : Int32) &&& 31)) ||| (zu (tA (k4 + 3)) ((32 : Int32) - (30 : Int32)))) = tC (k4 + 3) := by decide +kernel
set_option maxHeartbeats 4000000 in
set_option maxRecDepth 100000 in
theorem ax_c_M_firstHash_44 : ∀ k4 : Nat, k4 < 60 → 40 ≤ k4 → nI k4 + Int32.ofInt 1 = nI (k4 + 1) := by decide +kernel
set_option maxHeartbeats 4000000 in
set_option maxRecDepth 100000 in
theorem ax_c_M_firstHash_45 : ∀ k5 : Nat, k5 < 80 → 60 ≤ k5 → ¬ (80 : Int32) ≤ (nI k5) := by decide +kernel
set_option maxHeartbeats 4000000 in
set_option maxRecDepth 100000 in
theorem ax_c_M_firstHash_46 : ∀ k5 : Nat, k5 < 80 → 60 ≤ k5 → (16 : Int32) ≤ (nI k5) := by decide +kernel
set_option maxHeartbeats 4000000 in
set_option maxRecDepth 100000 in
theorem ax_c_M_firstHash_47 : ∀ k5 : Nat, k5 < 80 → 60 ≤ k5 → (nI k5) - (3 : Int32) = nI (k5 - 3) := by decide +kernel
set_option maxHeartbeats 4000000 in
set_option maxRecDepth 100000 in
theorem ax_c_M_firstHash_48 : ∀ k5 : Nat, k5 < 80 → 60 ≤ k5 → (nI k5) - (8 : Int32) = nI (k5 - 8) := by decide +kernel
set_option maxHeartbeats 4000000 in
set_option maxRecDepth 100000 in
theorem ax_c_M_firstHash_49 : ∀ k5 : Nat, k5 < 80 → 60 ≤ k5 → (nI k5) - (14 : Int32) = nI (k5 - 14) := by decide +kernel
set_option maxHeartbeats 4000000 in
set_option maxRecDepth 100000 in
theorem ax_c_M_firstHash_50 : ∀ k5 : Nat, k5 < 80 → 60 ≤ k5 → (nI k5) - (16 : Int32) = nI (k5 - 16) := by decide +kernel
set_option maxHeartbeats 4000000 in
set_option maxRecDepth 100000 in
theorem ax_c_M_firstHash_51 : ∀ k5 : Nat, k5 < 80 → 60 ≤ k5 → ((((((tW1 (k5 - 3)) ^^^ (tW1 (k5 - 8))) ^^^ (tW1 (k5 - 14))) ^^^ (tW1 (k5 - 16))) <<< ((1 : Int32) &&& 31)) ||| (zu ((((tW1 (k5 - 3)) ^^^ (tW1 (k5 - 8))) ^^^ (tW1 (k5 - 14))) ^^^ (tW1 (k5 - 16))) ((32 : Int32) - (1 : Int32)))) = tW1 k5 := by decide +kernel
set_option maxHeartbeats 4000000 in
set_option maxRecDepth 100000 in
theorem ax_c_M_firstHash_52 : ∀ k5 : Nat, k5 < 80 → 60 ≤ k5 → (20 : Int32) ≤ (nI k5) := by decide +kernel
set_option maxHeartbeats 4000000 in
set_option maxRecDepth 100000 in
theorem ax_c_M_firstHash_53 : ∀ k5 : Nat, k5 < 80 → 60 ≤ k5 → (40 : Int32) ≤ (nI k5) := by decide +kernel
set_option maxHeartbeats 4000000 in
set_option maxRecDepth 100000 in
theorem ax_c_M_firstHash_54 : ∀ k5 : Nat, k5 < 80 → 60 ≤ k5 → (60 : Int32) ≤ (nI k5) := by decide +kernel
set_option maxHeartbeats 4000000 in
set_option maxRecDepth 100000 in
theorem ax_c_M_firstHash_55 : ∀ k5 : Nat, k5 < 80 → 60 ≤ k5 → ((((((tA (k5 + 4)) <<< ((5 : Int32) &&& 31)) ||| (zu (tA (k5 + 4)) ((32 : Int32) - (5 : Int32)))) + (((tA (k5 + 3)) ^^^ (tC (k5 + 2))) ^^^ (tC (k5 + 1)))) + (tC k5)) + (-899497514 : Int32)) + (tW1 k5) = tA (k5 + 5) := by decide +kernel
set_option maxHeartbeats 4000000 in
set_option maxRecDepth 100000 in
theorem ax_c_M_firstHash_56 : ∀ k5 : Nat, k5 < 80 → 60 ≤ k5 → (((tA (k5 + 3)) <<< ((30 : Int32) &&& 31)) ||| (zu (tA (k5 + 3)) ((32 : Int32) - (30 : Int32)))) = tC (k5 + 3) := by decide +kernel
set_option maxHeartbeats 4000000 in
set_option maxRecDepth 100000 in
theorem ax_c_M_firstHash_57 : ∀ k5 : Nat, k5 < 80 → 60 ≤ k5 → nI k5 + Int32.ofInt 1 = nI (k5 + 1) := by decide +kernel
set_option maxHeartbeats 4000000 in
set_option maxRecDepth 100000 in
theorem c_M_firstHash (l : Launch) (D : va_G) (y : Nat → ClassId) (sz : Nat) (h0 : Nat) (ms : Nat) (wd : Nat) (dg : Nat) (w1 : Value) (w2 : Value) (w3 : Value) (w4 : Value) (w5 : Value) (w6 : Value) (w7 : Value) (w8 : Value) (w9 : Value) (w10 : Value) (w11 : Value) (w12 : Value) (w13 : Value) (w14 : Value) (w15 : Value) (w16 : Value) (w17 : Value) (w18 : Value) (w19 : Value) (w20 : Value) (w21 : Value) (w22 : Value) (w23 : Value) (w24 : Value) (w25 : Value) (w26 : Value) (w27 : Value) (w28 : Value) (w29 : Value) (w30 : Value) (w31 : Value) (w32 : Value) (w33 : Value) (w34 : Value) (w35 : Value) (w36 : Value) (w37 : Value) (w38 : Value) (w39 : Value) (w40 : Value) (w41 : Value) (w42 : Value) (w43 : Value) (w44 : Value) (w45 : Value) (w46 : Value) (w47 : Value) (w48 : Value) (w49 : Value) (w50 : Value) (w51 : Value) (w52 : Value) (w53 : Value) (w54 : Value) (w55 : Value) (w56 : Value) (w57 : Value) (w58 : Value) (w59 : Value) (w60 : Value) (f1 : Nat → Int32) (f2 : Nat → Int32) (f3 : Nat → Int32) : Met l yX12_firstHash wz_c_M_firstHash ({ frames := 3, cells := 0, slots := 0, locals := 67 }) (va_Pc [.ref h0] (zB D y [(h0, .inr (16, [w1, w2, w3, w4, w5, w6, w7, w8, w9, w10, w11, w12, w13, w14, .int (nI 0), .ref ms, .ref dg, .ref wd, w15, w16, w17, w18, w19, w20, w21, w22, w23, w24, w25, w26, w27, w28, w29, w30, w31, w32, w33, w34, w35, w36, w37, w38, w39, w40, w41, w42, w43, w44, w45, w46, w47, w48, w49, w50, w51, w52, w53, w54, w55, w56, w57, w58, w59, w60])), (ms, .inl (y 1, 30000, .inl f1)), (wd, .inl (y 1, 80, .inl f2)), (dg, .inl (y 1, 32, .inl f3))] sz [] [] [] [])) (va_Qv (fun _ : Unit => True) (fun _ t => va_P D vwCl [(h0, .inr (16, [w1, w2, w3, w4, w5, w6, w7, w8, w9, w10, w11, w12, w13, w14, .int (nI 64), .ref ms, .ref dg, .ref wd, w15, w16, w17, w18, w19, w20, w21, w22, w23, w24, w25, w26, w27, w28, w29, w30, w31, w32, w33, w34, w35, w36, w37, w38, w39, w40, w41, w42, w43, w44, w45, w46, w47, w48, w49, w50, w51, w52, w53, w54, w55, w56, w57, w58, w59, w60])), (ms, .inl (y 1, 30000, .inl (zf tM 64 f1))), (wd, .inl (y 1, 80, .inl (zf tW1 80 f2))), (dg, .inl (y 1, 32, .inl (zf tO1 20 f3)))] t.heap ∧ va_D (va_A [(h0, .inr (16, [w1, w2, w3, w4, w5, w6, w7, w8, w9, w10, w11, w12, w13, w14, .int (nI 0), .ref ms, .ref dg, .ref wd, w15, w16, w17, w18, w19, w20, w21, w22, w23, w24, w25, w26, w27, w28, w29, w30, w31, w32, w33, w34, w35, w36, w37, w38, w39, w40, w41, w42, w43, w44, w45, w46, w47, w48, w49, w50, w51, w52, w53, w54, w55, w56, w57, w58, w59, w60])), (ms, .inl (y 1, 30000, .inl f1)), (wd, .inl (y 1, 80, .inl f2)), (dg, .inl (y 1, 32, .inl f3))] sz) [(h0, .inr (16, [w1, w2, w3, w4, w5, w6, w7, w8, w9, w10, w11, w12, w13, w14, .int (nI 64), .ref ms, .ref dg, .ref wd, w15, w16, w17, w18, w19, w20, w21, w22, w23, w24, w25, w26, w27, w28, w29, w30, w31, w32, w33, w34, w35, w36, w37, w38, w39, w40, w41, w42, w43, w44, w45, w46, w47, w48, w49, w50, w51, w52, w53, w54, w55, w56, w57, w58, w59, w60])), (ms, .inl (y 1, 30000, .inl (zf tM 64 f1))), (wd, .inl (y 1, 80, .inl (zf tW1 80 f2))), (dg, .inl (y 1, 32, .inl (zf tO1 20 f3)))]) (va_A [(h0, .inr (16, [w1, w2, w3, w4, w5, w6, w7, w8, w9, w10, w11, w12, w13, w14, .int (nI 0), .ref ms, .ref dg, .ref wd, w15, w16, w17, w18, w19, w20, w21, w22, w23, w24, w25, w26, w27, w28, w29, w30, w31, w32, w33, w34, w35, w36, w37, w38, w39, w40, w41, w42, w43, w44, w45, w46, w47, w48, w49, w50, w51, w52, w53, w54, w55, w56, w57, w58, w59, w60])), (ms, .inl (y 1, 30000, .inl f1)), (wd, .inl (y 1, 80, .inl f2)), (dg, .inl (y 1, 32, .inl f3))] sz)) 0 0 (va_A [(h0, .inr (16, [w1, w2, w3, w4, w5, w6, w7, w8, w9, w10, w11, w12, w13, w14, .int (nI 0), .ref ms, .ref dg, .ref wd, w15, w16, w17, w18, w19, w20, w21, w22, w23, w24, w25, w26, w27, w28, w29, w30, w31, w32, w33, w34, w35, w36, w37, w38, w39, w40, w41, w42, w43, w44, w45, w46, w47, w48, w49, w50, w51, w52, w53, w54, w55, w56, w57, w58, w59, w60])), (ms, .inl (y 1, 30000, .inl f1)), (wd, .inl (y 1, 80, .inl f2)), (dg, .inl (y 1, 32, .inl f3))] sz) := by
  refine Met.ofW (cc := cX12_firstHash) (maxL := 17) (ret := none) (by decide) rfl ?_
  intro p e s m args below meth c s₁ B hml hv
  obtain ⟨rfl, hsz, hP, hK, hD0, hN, hE, hO, hT, hG⟩ := hv
  have hx := B.exec
  have hb := B.bytes
  have hr := B.returns
  have hts := atoms_spec (ws := wz_c_M_firstHash) B.pre
  have hown : s.vm.findClass RX12 = some m.cls := findClass_of_methodNamed B.named
  have hlocks := B.notSynchronized
  subst hsz
  have hD := hD0.self (sz := s.heap.size)
  generalize hAe : va_A [(h0, .inr (16, [w1, w2, w3, w4, w5, w6, w7, w8, w9, w10, w11, w12, w13, w14, .int (nI 0), .ref ms, .ref dg, .ref wd, w15, w16, w17, w18, w19, w20, w21, w22, w23, w24, w25, w26, w27, w28, w29, w30, w31, w32, w33, w34, w35, w36, w37, w38, w39, w40, w41, w42, w43, w44, w45, w46, w47, w48, w49, w50, w51, w52, w53, w54, w55, w56, w57, w58, w59, w60])), (ms, .inl (y 1, 30000, .inl f1)), (wd, .inl (y 1, 80, .inl f2)), (dg, .inl (y 1, 32, .inl f3))] s.heap.size = A at hD hE hT hG ⊢
  have hA : ∀ q : Nat, s.heap.size ≤ q → A q := fun q h => by rw [← hAe]; exact Or.inr h
  have hS : va_S A s.heap s.heap [] := va_S.rf
  have hl := lv_entry ([.ref h0]) (n := 17) (Nat.le_of_ble_eq_true rfl)
  rw [lg_entry_eq]
  generalize (lg_sl ([.ref h0]) ++ List.replicate (17 - (lg_sl ([.ref h0])).length) Slot.unset).toArray = ls at hl ⊢
  have hl : lv_has ls 17 [(0, .ref h0)] := hl
  refine lv_aload_n hx hb dX12_firstHash_0 rfl (lv_at hl 0 rfl) ?_
  have hPc := hP.sub (ws' := [(h0, .inr (16, [w1, w2, w3, w4, w5, w6, w7, w8, w9, w10, w11, w12, w13, w14, .int (nI 0), .ref ms, .ref dg, .ref wd, w15, w16, w17, w18, w19, w20, w21, w22, w23, w24, w25, w26, w27, w28, w29, w30, w31, w32, w33, w34, w35, w36, w37, w38, w39, w40, w41, w42, w43, w44, w45, w46, w47, w48, w49, w50, w51, w52, w53, w54, w55, w56, w57, w58, w59, w60])), (ms, .inl (y 1, 30000, .inl f1))]) [0, 1] rfl
  have hDc := hD.sub (ws' := [(h0, .inr (16, [w1, w2, w3, w4, w5, w6, w7, w8, w9, w10, w11, w12, w13, w14, .int (nI 0), .ref ms, .ref dg, .ref wd, w15, w16, w17, w18, w19, w20, w21, w22, w23, w24, w25, w26, w27, w28, w29, w30, w31, w32, w33, w34, w35, w36, w37, w38, w39, w40, w41, w42, w43, w44, w45, w46, w47, w48, w49, w50, w51, w52, w53, w54, w55, w56, w57, w58, w59, w60])), (ms, .inl (y 1, 30000, .inl f1))]) [0, 1] (by decide) rfl
  have hFc := va_free (wc := [(h0, .inr (16, [w1, w2, w3, w4, w5, w6, w7, w8, w9, w10, w11, w12, w13, w14, .int (nI 0), .ref ms, .ref dg, .ref wd, w15, w16, w17, w18, w19, w20, w21, w22, w23, w24, w25, w26, w27, w28, w29, w30, w31, w32, w33, w34, w35, w36, w37, w38, w39, w40, w41, w42, w43, w44, w45, w46, w47, w48, w49, w50, w51, w52, w53, w54, w55, w56, w57, w58, w59, w60])), (ms, .inl (y 1, 30000, .inl f1))]) hD hS hA [0, 1] rfl
  refine va_calli (va_runV (As := []) (rest := []) ⟨hx, hb, hml, hown, hts⟩ (c_M_close l D y s.heap.size h0 ms w1 w2 w3 w4 w5 w6 w7 w8 w9 w10 w11 w12 w13 w14 ((.ref dg)) ((.ref wd)) w15 w16 w17 w18 w19 w20 w21 w22 w23 w24 w25 w26 w27 w28 w29 w30 w31 w32 w33 w34 w35 w36 w37 w38 w39 w40 w41 w42 w43 w44 w45 w46 w47 w48 w49 w50 w51 w52 w53 w54 w55 w56 w57 w58 w59 w60 f1) (cwV 0 hts gv_c_M_firstHash_c_M_close_106 rfl rfl rfl (by decide +kernel) ⟨(Nat.le_of_ble_eq_true rfl), (Nat.le_of_ble_eq_true rfl)⟩) (zB.preV hPc hDc hK hN hE hO hT hG hS hFc (fun _ h => nomatch h) (fun _ h => nomatch h) (fun _ h => nomatch h) (fun _ h => nomatch h) (va_recv hK hPc (ci := 16) (q0 := 0) rfl rfl)) rfl rfl hl.1 rfl (lv_room (Nat.le_of_ble_eq_true rfl)) dX12_firstHash_1 ⟨(Nat.le_of_ble_eq_true rfl), (Nat.le_of_ble_eq_true rfl)⟩) hS (fun q _ h => hFc q h) hFc (fun r1 u t H1 locs ht hvm hw hB hz1 hk1 hS => ?_)
  obtain ⟨hP1, hD1⟩ := hB
  rw [ht] at hP1
  obtain ⟨hP, hD⟩ := va_join (wr := [(wd, .inl (y 1, 80, .inl f2)), (dg, .inl (y 1, 32, .inl f3))]) (w1 := [(h0, .inr (16, [w1, w2, w3, w4, w5, w6, w7, w8, w9, w10, w11, w12, w13, w14, .int (nI 64), .ref ms, .ref dg, .ref wd, w15, w16, w17, w18, w19, w20, w21, w22, w23, w24, w25, w26, w27, w28, w29, w30, w31, w32, w33, w34, w35, w36, w37, w38, w39, w40, w41, w42, w43, w44, w45, w46, w47, w48, w49, w50, w51, w52, w53, w54, w55, w56, w57, w58, w59, w60])), (ms, .inl (y 1, 30000, .inl (zf tM 64 f1)))]) hP hD [0, 1] [2, 3] rfl rfl (by decide) (by decide) hk1 hFc hP1 hD1
  generalize H1 = H at hP hS ⊢
  have hP : va_P D vwCl [(wd, .inl (y 1, 80, .inl f2)), (dg, .inl (y 1, 32, .inl f3)), (h0, .inr (16, [w1, w2, w3, w4, w5, w6, w7, w8, w9, w10, w11, w12, w13, w14, .int (nI 64), .ref ms, .ref dg, .ref wd, w15, w16, w17, w18, w19, w20, w21, w22, w23, w24, w25, w26, w27, w28, w29, w30, w31, w32, w33, w34, w35, w36, w37, w38, w39, w40, w41, w42, w43, w44, w45, w46, w47, w48, w49, w50, w51, w52, w53, w54, w55, w56, w57, w58, w59, w60])), (ms, .inl (y 1, 30000, .inl (zf tM 64 f1)))] H := hP
  have hD : va_D A [(wd, .inl (y 1, 80, .inl f2)), (dg, .inl (y 1, 32, .inl f3)), (h0, .inr (16, [w1, w2, w3, w4, w5, w6, w7, w8, w9, w10, w11, w12, w13, w14, .int (nI 64), .ref ms, .ref dg, .ref wd, w15, w16, w17, w18, w19, w20, w21, w22, w23, w24, w25, w26, w27, w28, w29, w30, w31, w32, w33, w34, w35, w36, w37, w38, w39, w40, w41, w42, w43, w44, w45, w46, w47, w48, w49, w50, w51, w52, w53, w54, w55, w56, w57, w58, w59, w60])), (ms, .inl (y 1, 30000, .inl (zf tM 64 f1)))] := hD
  have hw : r1 = 1 := hw
  subst hw
  refine lv_istore_n (lv' := [(1, .int 1), (0, .ref h0)]) hx hb dX12_firstHash_4 rfl hl (by decide) rfl (fun ls hl => ?_)
  refine lv_ldc (v := 1732584193) hx hb hown (hts (.constant RX12 110 1732584193) (by decide +kernel)) dX12_firstHash_5 ?_
  refine lv_istore_n (lv' := [(2, .int 1732584193), (1, .int 1), (0, .ref h0)]) hx hb dX12_firstHash_7 rfl hl (by decide) rfl (fun ls hl => ?_)
  refine lv_ldc (v := -271733879) hx hb hown (hts (.constant RX12 111 (-271733879)) (by decide +kernel)) dX12_firstHash_8 ?_
  refine lv_istore_n (lv' := [(3, .int (-271733879)), (2, .int 1732584193), (1, .int 1), (0, .ref h0)]) hx hb dX12_firstHash_10 rfl hl (by decide) rfl (fun ls hl => ?_)
  refine lv_ldc (v := -1732584194) hx hb hown (hts (.constant RX12 112 (-1732584194)) (by decide +kernel)) dX12_firstHash_11 ?_
  refine lv_istore (lv' := [(4, .int (-1732584194)), (3, .int (-271733879)), (2, .int 1732584193), (1, .int 1), (0, .ref h0)]) hx hb dX12_firstHash_13 hl (by decide) rfl (fun ls hl => ?_)
  refine lv_ldc (v := 271733878) hx hb hown (hts (.constant RX12 113 271733878) (by decide +kernel)) dX12_firstHash_15 ?_
  refine lv_istore (lv' := [(5, .int 271733878), (4, .int (-1732584194)), (3, .int (-271733879)), (2, .int 1732584193), (1, .int 1), (0, .ref h0)]) hx hb dX12_firstHash_17 hl (by decide) rfl (fun ls hl => ?_)
  refine lv_ldc (v := -1009589776) hx hb hown (hts (.constant RX12 114 (-1009589776)) (by decide +kernel)) dX12_firstHash_19 ?_
  refine lv_istore (lv' := [(6, .int (-1009589776)), (5, .int 271733878), (4, .int (-1732584194)), (3, .int (-271733879)), (2, .int 1732584193), (1, .int 1), (0, .ref h0)]) hx hb dX12_firstHash_21 hl (by decide) rfl (fun ls hl => ?_)
  refine lv_iconst (v := 0) hx hb dX12_firstHash_23 (by decide) ?_
  refine lv_istore (lv' := [(7, .int 0), (6, .int (-1009589776)), (5, .int 271733878), (4, .int (-1732584194)), (3, .int (-271733879)), (2, .int 1732584193), (1, .int 1), (0, .ref h0)]) hx hb dX12_firstHash_24 hl (by decide) rfl (fun ls hl => ?_)
  refine lv_iload hx hb dX12_firstHash_26 (lv_at hl 0 rfl) ?_
  refine lv_iload_n hx hb dX12_firstHash_28 rfl (lv_at hl 6 rfl) ?_
  refine lv_icmp_ge (tgt := 348) hx hb dX12_firstHash_29 (by decide) (fun c9 => absurd c9 (by decide)) (fun _ => ?_)
  refine lv_iload_n hx hb dX12_firstHash_32 rfl (lv_at hl 5 rfl) ?_
  refine lv_istore (lv' := [(8, .int 1732584193), (7, .int 0), (6, .int (-1009589776)), (5, .int 271733878), (4, .int (-1732584194)), (3, .int (-271733879)), (2, .int 1732584193), (1, .int 1), (0, .ref h0)]) hx hb dX12_firstHash_33 hl (by decide) rfl (fun ls hl => ?_)
  refine lv_iload_n hx hb dX12_firstHash_35 rfl (lv_at hl 5 rfl) ?_
  refine lv_istore (lv' := [(9, .int (-271733879)), (8, .int 1732584193), (7, .int 0), (6, .int (-1009589776)), (5, .int 271733878), (4, .int (-1732584194)), (3, .int (-271733879)), (2, .int 1732584193), (1, .int 1), (0, .ref h0)]) hx hb dX12_firstHash_36 hl (by decide) rfl (fun ls hl => ?_)
  refine lv_iload hx hb dX12_firstHash_38 (lv_at hl 5 rfl) ?_
  refine lv_istore (lv' := [(10, .int (-1732584194)), (9, .int (-271733879)), (8, .int 1732584193), (7, .int 0), (6, .int (-1009589776)), (5, .int 271733878), (4, .int (-1732584194)), (3, .int (-271733879)), (2, .int 1732584193), (1, .int 1), (0, .ref h0)]) hx hb dX12_firstHash_40 hl (by decide) rfl (fun ls hl => ?_)
  refine lv_iload hx hb dX12_firstHash_42 (lv_at hl 5 rfl) ?_
  refine lv_istore (lv' := [(11, .int 271733878), (10, .int (-1732584194)), (9, .int (-271733879)), (8, .int 1732584193), (7, .int 0), (6, .int (-1009589776)), (5, .int 271733878), (4, .int (-1732584194)), (3, .int (-271733879)), (2, .int 1732584193), (1, .int 1), (0, .ref h0)]) hx hb dX12_firstHash_44 hl (by decide) rfl (fun ls hl => ?_)
  refine lv_iload hx hb dX12_firstHash_46 (lv_at hl 5 rfl) ?_
  refine lv_istore (lv' := [(12, .int (-1009589776)), (11, .int 271733878), (10, .int (-1732584194)), (9, .int (-271733879)), (8, .int 1732584193), (7, .int 0), (6, .int (-1009589776)), (5, .int 271733878), (4, .int (-1732584194)), (3, .int (-271733879)), (2, .int 1732584193), (1, .int 1), (0, .ref h0)]) hx hb dX12_firstHash_48 hl (by decide) rfl (fun ls hl => ?_)
  refine lv_iconst (v := 0) hx hb dX12_firstHash_50 (by decide) ?_
  refine lv_istore (lv' := [(13, .int 0), (12, .int (-1009589776)), (11, .int 271733878), (10, .int (-1732584194)), (9, .int (-271733879)), (8, .int 1732584193), (7, .int 0), (6, .int (-1009589776)), (5, .int 271733878), (4, .int (-1732584194)), (3, .int (-271733879)), (2, .int 1732584193), (1, .int 1), (0, .ref h0)]) hx hb dX12_firstHash_51 hl (by decide) rfl (fun ls hl => ?_)
  have hl : lv_has ls 17 [(13, .int (nI 0)), (12, .int (tC 0)), (11, .int (tC 1)), (10, .int (tC 2)), (9, .int (tA 3)), (8, .int (tA 4)), (7, .int 0), (6, .int (-1009589776)), (5, .int 271733878), (4, .int (-1732584194)), (3, .int (-271733879)), (2, .int 1732584193), (1, .int 1), (0, .ref h0)] := lv_sub hl [0, 1, 2, 3, 4, 5, 6, 7, 8, 9, 10, 11, 12, 13] (by rw [show tC 0 = (-1009589776 : Int32) from (by decide +kernel), show tC 1 = (271733878 : Int32) from (by decide +kernel), show tC 2 = (-1732584194 : Int32) from (by decide +kernel), show tA 3 = (-271733879 : Int32) from (by decide +kernel), show tA 4 = (1732584193 : Int32) from (by decide +kernel)]; rfl)
  refine zz_loop (I := fun (k1 : Nat) (ls : Array Slot) (H : Heap) (locs : List Loc) => va_P D vwCl [(wd, .inl (y 1, 80, .inl (zf tW1 k1 f2))), (dg, .inl (y 1, 32, .inl f3)), (h0, .inr (16, [w1, w2, w3, w4, w5, w6, w7, w8, w9, w10, w11, w12, w13, w14, .int (nI 64), .ref ms, .ref dg, .ref wd, w15, w16, w17, w18, w19, w20, w21, w22, w23, w24, w25, w26, w27, w28, w29, w30, w31, w32, w33, w34, w35, w36, w37, w38, w39, w40, w41, w42, w43, w44, w45, w46, w47, w48, w49, w50, w51, w52, w53, w54, w55, w56, w57, w58, w59, w60])), (ms, .inl (y 1, 30000, .inl (zf tM 64 f1)))] H ∧ va_D A [(wd, .inl (y 1, 80, .inl (zf tW1 k1 f2))), (dg, .inl (y 1, 32, .inl f3)), (h0, .inr (16, [w1, w2, w3, w4, w5, w6, w7, w8, w9, w10, w11, w12, w13, w14, .int (nI 64), .ref ms, .ref dg, .ref wd, w15, w16, w17, w18, w19, w20, w21, w22, w23, w24, w25, w26, w27, w28, w29, w30, w31, w32, w33, w34, w35, w36, w37, w38, w39, w40, w41, w42, w43, w44, w45, w46, w47, w48, w49, w50, w51, w52, w53, w54, w55, w56, w57, w58, w59, w60])), (ms, .inl (y 1, 30000, .inl (zf tM 64 f1)))] ∧ va_S A s.heap H locs ∧ lv_has ls 17 [(13, .int (nI k1)), (12, .int (tC k1)), (11, .int (tC (k1 + 1))), (10, .int (tC (k1 + 2))), (9, .int (tA (k1 + 3))), (8, .int (tA (k1 + 4))), (7, .int 0), (6, .int (-1009589776)), (5, .int 271733878), (4, .int (-1732584194)), (3, .int (-271733879)), (2, .int 1732584193), (1, .int 1), (0, .ref h0)]) 0 16 (by decide) ⟨hP, hD, hS, hl⟩ (fun k1 ls H locs hk10 hk11 hI ih => ?_) (fun ls H locs hI => ?_)
  · obtain ⟨hP, hD, hS, hl⟩ := hI
    have hl : lv_has ls 17 [(13, .int (nI k1)), (12, .int (tC k1)), (11, .int (tC (k1 + 1))), (10, .int (tC (k1 + 2))), (9, .int (tA (k1 + 3))), (8, .int (tA (k1 + 4))), (7, .int 0), (6, .int (-1009589776)), (5, .int 271733878), (4, .int (-1732584194)), (3, .int (-271733879)), (2, .int 1732584193), (1, .int 1), (0, .ref h0)] := hl
    have hP : va_P D vwCl [(wd, .inl (y 1, 80, .inl (zf tW1 k1 f2))), (dg, .inl (y 1, 32, .inl f3)), (h0, .inr (16, [w1, w2, w3, w4, w5, w6, w7, w8, w9, w10, w11, w12, w13, w14, .int (nI 64), .ref ms, .ref dg, .ref wd, w15, w16, w17, w18, w19, w20, w21, w22, w23, w24, w25, w26, w27, w28, w29, w30, w31, w32, w33, w34, w35, w36, w37, w38, w39, w40, w41, w42, w43, w44, w45, w46, w47, w48, w49, w50, w51, w52, w53, w54, w55, w56, w57, w58, w59, w60])), (ms, .inl (y 1, 30000, .inl (zf tM 64 f1)))] H := hP
    have hD : va_D A [(wd, .inl (y 1, 80, .inl (zf tW1 k1 f2))), (dg, .inl (y 1, 32, .inl f3)), (h0, .inr (16, [w1, w2, w3, w4, w5, w6, w7, w8, w9, w10, w11, w12, w13, w14, .int (nI 64), .ref ms, .ref dg, .ref wd, w15, w16, w17, w18, w19, w20, w21, w22, w23, w24, w25, w26, w27, w28, w29, w30, w31, w32, w33, w34, w35, w36, w37, w38, w39, w40, w41, w42, w43, w44, w45, w46, w47, w48, w49, w50, w51, w52, w53, w54, w55, w56, w57, w58, w59, w60])), (ms, .inl (y 1, 30000, .inl (zf tM 64 f1)))] := hD
    refine lv_iload hx hb dX12_firstHash_53 (lv_at hl 0 rfl) ?_
    refine lv_bipush (v := 80) hx hb dX12_firstHash_55 (by decide) ?_
    refine lv_icmp_ge (tgt := 311) hx hb dX12_firstHash_57 (by decide) (fun c9 => absurd c9 (ax_c_M_firstHash_0 k1 hk11 hk10)) (fun _ => ?_)
    refine lv_aload_n hx hb dX12_firstHash_60 rfl (lv_at hl 13 rfl) ?_
    refine va_get (D := D) (ci := 16) (v := .ref wd) (C := RX12) (T := TX12) (N := 64) hx hb hts (by decide +kernel) hown hK hP 2 rfl rfl 17 (by decide) (hts (.fieldLink RX12 46 "SignetRingModel" "words" "[I") (by decide +kernel)) (fun _ h9 => h9) rfl dX12_firstHash_61 ?_
    refine lv_iload hx hb dX12_firstHash_64 (lv_at hl 0 rfl) ?_
    refine lv_iload hx hb dX12_firstHash_66 (lv_at hl 0 rfl) ?_
    refine lv_bipush (v := 16) hx hb dX12_firstHash_68 (by decide) ?_
    refine lv_icmp_ge (tgt := 95) hx hb dX12_firstHash_70 (by decide) (fun c9 => absurd c9 (ax_c_M_firstHash_1 k1 hk11 hk10)) (fun _ => ?_)
    refine lv_aload_n hx hb dX12_firstHash_73 rfl (lv_at hl 13 rfl) ?_
    refine va_get (D := D) (ci := 16) (v := .ref ms) (C := RX12) (T := TX12) (N := 64) hx hb hts (by decide +kernel) hown hK hP 2 rfl rfl 15 (by decide) (hts (.fieldLink RX12 40 "SignetRingModel" "message" "[I") (by decide +kernel)) (fun _ h9 => h9) rfl dX12_firstHash_74 ?_
    refine lv_bipush (v := 64) hx hb dX12_firstHash_77 (by decide) ?_
    refine lv_iload hx hb dX12_firstHash_79 (lv_at hl 6 rfl) ?_
    refine lv_imul hx hb dX12_firstHash_81 ?_
    refine lv_topi (fun v2 ev2 => ?_)
    have ev2 : v2 = 0 := ev2.trans (by decide +kernel)
    subst ev2
    refine lv_iconst (v := 4) hx hb dX12_firstHash_82 (by decide) ?_
    refine lv_iload hx hb dX12_firstHash_83 (lv_at hl 0 rfl) ?_
    refine lv_imul hx hb dX12_firstHash_85 ?_
    refine lv_topi (fun v3 ev3 => ?_)
    have ev3 : v3 = nI (4 * k1) := ev3.trans (ax_c_M_firstHash_2 k1 hk11 hk10)
    subst ev3
    refine lv_iadd hx hb dX12_firstHash_86 ?_
    refine lv_topi (fun v4 ev4 => ?_)
    have ev4 : v4 = nI (4 * k1) := ev4.trans (ax_c_M_firstHash_3 k1 hk11 hk10)
    subst ev4
    refine lv_iconst (v := 4) hx hb dX12_firstHash_87 (by decide) ?_
    have hPc := hP.sub (ws' := [(ms, .inl (y 1, 30000, .inl (zf tM 64 f1)))]) [3] rfl
    have hDc := hD.sub (ws' := [(ms, .inl (y 1, 30000, .inl (zf tM 64 f1)))]) [3] (by decide) rfl
    have hFc := va_free (wc := [(ms, .inl (y 1, 30000, .inl (zf tM 64 f1)))]) hD hS hA [3] rfl
    refine va_calll (va_runS (As := [.ref ms, .int (nI (4 * k1)), .int 4]) (rest := [.int (nI k1), .ref wd]) ⟨hx, hb, hml, hown, hts⟩ (c_M_number l D y H.size ms k1 f1 (by omega)) (va_cwS 3 hts gv_c_M_firstHash_c_M_number_115 rfl rfl rfl (by decide +kernel) ⟨(Nat.le_of_ble_eq_true rfl), (Nat.le_of_ble_eq_true rfl)⟩) (zB.preS hPc hDc hK hN hE hO hT hG hS hFc (fun _ h => nomatch h) (fun _ h => nomatch h) (fun _ h => nomatch h) (fun _ h => nomatch h)) rfl rfl hl.1 rfl (lv_room (Nat.le_of_ble_eq_true rfl)) dX12_firstHash_88 ⟨(Nat.le_of_ble_eq_true rfl), (Nat.le_of_ble_eq_true rfl)⟩) hS (fun q _ h => hFc q h) hFc (fun r5 u t H1 locs ht hvm hw hB hz1 hk1 hS => ?_)
    obtain ⟨hP1, hD1⟩ := hB
    rw [ht] at hP1
    obtain ⟨hP, hD⟩ := va_join (wr := [(wd, .inl (y 1, 80, .inl (zf tW1 k1 f2))), (dg, .inl (y 1, 32, .inl f3)), (h0, .inr (16, [w1, w2, w3, w4, w5, w6, w7, w8, w9, w10, w11, w12, w13, w14, .int (nI 64), .ref ms, .ref dg, .ref wd, w15, w16, w17, w18, w19, w20, w21, w22, w23, w24, w25, w26, w27, w28, w29, w30, w31, w32, w33, w34, w35, w36, w37, w38, w39, w40, w41, w42, w43, w44, w45, w46, w47, w48, w49, w50, w51, w52, w53, w54, w55, w56, w57, w58, w59, w60]))]) (w1 := [(ms, .inl (y 1, 30000, .inl (zf tM 64 f1)))]) hP hD [3] [0, 1, 2] rfl rfl (by decide) (by decide) hk1 hFc hP1 hD1
    generalize H1 = H at hP hS ⊢
    have hP : va_P D vwCl [(wd, .inl (y 1, 80, .inl (zf tW1 k1 f2))), (dg, .inl (y 1, 32, .inl f3)), (h0, .inr (16, [w1, w2, w3, w4, w5, w6, w7, w8, w9, w10, w11, w12, w13, w14, .int (nI 64), .ref ms, .ref dg, .ref wd, w15, w16, w17, w18, w19, w20, w21, w22, w23, w24, w25, w26, w27, w28, w29, w30, w31, w32, w33, w34, w35, w36, w37, w38, w39, w40, w41, w42, w43, w44, w45, w46, w47, w48, w49, w50, w51, w52, w53, w54, w55, w56, w57, w58, w59, w60])), (ms, .inl (y 1, 30000, .inl (zf tM 64 f1)))] H := hP
    have hD : va_D A [(wd, .inl (y 1, 80, .inl (zf tW1 k1 f2))), (dg, .inl (y 1, 32, .inl f3)), (h0, .inr (16, [w1, w2, w3, w4, w5, w6, w7, w8, w9, w10, w11, w12, w13, w14, .int (nI 64), .ref ms, .ref dg, .ref wd, w15, w16, w17, w18, w19, w20, w21, w22, w23, w24, w25, w26, w27, w28, w29, w30, w31, w32, w33, w34, w35, w36, w37, w38, w39, w40, w41, w42, w43, w44, w45, w46, w47, w48, w49, w50, w51, w52, w53, w54, w55, w56, w57, w58, w59, w60])), (ms, .inl (y 1, 30000, .inl (zf tM 64 f1)))] := hD
    have hw : r5 = (((((((0 : Int64) + ((tM ((4 * k1) + 0)).toInt64)) * (256 : Int64)) + ((tM ((4 * k1) + 1)).toInt64)) * (256 : Int64)) + ((tM ((4 * k1) + 2)).toInt64)) * (256 : Int64)) + ((tM ((4 * k1) + 3)).toInt64) := hw
    subst hw
    refine lv_l2i hx hb dX12_firstHash_91 rfl ?_
    refine lv_topi (fun v6 ev6 => ?_)
    have ev6 : v6 = tW1 k1 := ev6.trans (ax_c_M_firstHash_4 k1 hk11 hk10)
    subst ev6
    refine lv_goto (tgt := 141) hx hb dX12_firstHash_92 (by decide) ?_
    refine va_iast hx hb hK hP hD hS 0 1 rfl rfl (vp_in_nI (by omega) (by decide)) dX12_firstHash_141 (fun H locs hP hD hS => ?_)
    have hP : va_P D vwCl [(wd, .inl (y 1, 80, .inl (upd (zf tW1 k1 f2) (nI k1).toNatClampNeg (tW1 k1)))), (dg, .inl (y 1, 32, .inl f3)), (h0, .inr (16, [w1, w2, w3, w4, w5, w6, w7, w8, w9, w10, w11, w12, w13, w14, .int (nI 64), .ref ms, .ref dg, .ref wd, w15, w16, w17, w18, w19, w20, w21, w22, w23, w24, w25, w26, w27, w28, w29, w30, w31, w32, w33, w34, w35, w36, w37, w38, w39, w40, w41, w42, w43, w44, w45, w46, w47, w48, w49, w50, w51, w52, w53, w54, w55, w56, w57, w58, w59, w60])), (ms, .inl (y 1, 30000, .inl (zf tM 64 f1)))] H := hP
    have hD : va_D A [(wd, .inl (y 1, 80, .inl (upd (zf tW1 k1 f2) (nI k1).toNatClampNeg (tW1 k1)))), (dg, .inl (y 1, 32, .inl f3)), (h0, .inr (16, [w1, w2, w3, w4, w5, w6, w7, w8, w9, w10, w11, w12, w13, w14, .int (nI 64), .ref ms, .ref dg, .ref wd, w15, w16, w17, w18, w19, w20, w21, w22, w23, w24, w25, w26, w27, w28, w29, w30, w31, w32, w33, w34, w35, w36, w37, w38, w39, w40, w41, w42, w43, w44, w45, w46, w47, w48, w49, w50, w51, w52, w53, w54, w55, w56, w57, w58, w59, w60])), (ms, .inl (y 1, 30000, .inl (zf tM 64 f1)))] := hD
    have u7 : upd (zf tW1 k1 f2) (nI k1).toNatClampNeg (tW1 k1) = zf tW1 (k1 + 1) f2 := (zf_st (n := k1) (by omega) rfl)
    rw [u7] at hP hD
    have hP : va_P D vwCl [(wd, .inl (y 1, 80, .inl (zf tW1 (k1 + 1) f2))), (dg, .inl (y 1, 32, .inl f3)), (h0, .inr (16, [w1, w2, w3, w4, w5, w6, w7, w8, w9, w10, w11, w12, w13, w14, .int (nI 64), .ref ms, .ref dg, .ref wd, w15, w16, w17, w18, w19, w20, w21, w22, w23, w24, w25, w26, w27, w28, w29, w30, w31, w32, w33, w34, w35, w36, w37, w38, w39, w40, w41, w42, w43, w44, w45, w46, w47, w48, w49, w50, w51, w52, w53, w54, w55, w56, w57, w58, w59, w60])), (ms, .inl (y 1, 30000, .inl (zf tM 64 f1)))] H := hP
    have hD : va_D A [(wd, .inl (y 1, 80, .inl (zf tW1 (k1 + 1) f2))), (dg, .inl (y 1, 32, .inl f3)), (h0, .inr (16, [w1, w2, w3, w4, w5, w6, w7, w8, w9, w10, w11, w12, w13, w14, .int (nI 64), .ref ms, .ref dg, .ref wd, w15, w16, w17, w18, w19, w20, w21, w22, w23, w24, w25, w26, w27, w28, w29, w30, w31, w32, w33, w34, w35, w36, w37, w38, w39, w40, w41, w42, w43, w44, w45, w46, w47, w48, w49, w50, w51, w52, w53, w54, w55, w56, w57, w58, w59, w60])), (ms, .inl (y 1, 30000, .inl (zf tM 64 f1)))] := hD
    refine lv_iload hx hb dX12_firstHash_142 (lv_at hl 0 rfl) ?_
    refine lv_bipush (v := 20) hx hb dX12_firstHash_144 (by decide) ?_
    refine lv_icmp_ge (tgt := 163) hx hb dX12_firstHash_146 (by decide) (fun c9 => absurd c9 (ax_c_M_firstHash_5 k1 hk11 hk10)) (fun _ => ?_)
    refine lv_iload hx hb dX12_firstHash_149 (lv_at hl 2 rfl) ?_
    refine lv_iload hx hb dX12_firstHash_151 (lv_at hl 4 rfl) ?_
    refine lv_iload hx hb dX12_firstHash_153 (lv_at hl 3 rfl) ?_
    refine lv_iload hx hb dX12_firstHash_155 (lv_at hl 2 rfl) ?_
    refine lv_ixor hx hb dX12_firstHash_157 ?_
    refine lv_iand hx hb dX12_firstHash_158 ?_
    refine lv_ixor hx hb dX12_firstHash_159 ?_
    refine lv_goto (tgt := 213) hx hb dX12_firstHash_160 (by decide) ?_
    refine lv_istore (lv' := [(14, .int ((tC (k1 + 1)) ^^^ ((tA (k1 + 3)) &&& ((tC (k1 + 2)) ^^^ (tC (k1 + 1)))))), (13, .int (nI k1)), (12, .int (tC k1)), (11, .int (tC (k1 + 1))), (10, .int (tC (k1 + 2))), (9, .int (tA (k1 + 3))), (8, .int (tA (k1 + 4))), (7, .int 0), (6, .int (-1009589776)), (5, .int 271733878), (4, .int (-1732584194)), (3, .int (-271733879)), (2, .int 1732584193), (1, .int 1), (0, .ref h0)]) hx hb dX12_firstHash_213 hl (by decide) rfl (fun ls hl => ?_)
    refine lv_iload hx hb dX12_firstHash_215 (lv_at hl 1 rfl) ?_
    refine lv_bipush (v := 20) hx hb dX12_firstHash_217 (by decide) ?_
    refine lv_icmp_ge (tgt := 227) hx hb dX12_firstHash_219 (by decide) (fun c9 => absurd c9 (ax_c_M_firstHash_5 k1 hk11 hk10)) (fun _ => ?_)
    refine lv_ldc (v := 1518500249) hx hb hown (hts (.constant RX12 123 1518500249) (by decide +kernel)) dX12_firstHash_222 ?_
    refine lv_goto (tgt := 253) hx hb dX12_firstHash_224 (by decide) ?_
    refine lv_istore (lv' := [(15, .int 1518500249), (14, .int ((tC (k1 + 1)) ^^^ ((tA (k1 + 3)) &&& ((tC (k1 + 2)) ^^^ (tC (k1 + 1)))))), (13, .int (nI k1)), (12, .int (tC k1)), (11, .int (tC (k1 + 1))), (10, .int (tC (k1 + 2))), (9, .int (tA (k1 + 3))), (8, .int (tA (k1 + 4))), (7, .int 0), (6, .int (-1009589776)), (5, .int 271733878), (4, .int (-1732584194)), (3, .int (-271733879)), (2, .int 1732584193), (1, .int 1), (0, .ref h0)]) hx hb dX12_firstHash_253 hl (by decide) rfl (fun ls hl => ?_)
    refine lv_iload hx hb dX12_firstHash_255 (lv_at hl 7 rfl) ?_
    refine lv_iconst (v := 5) hx hb dX12_firstHash_257 (by decide) ?_
    have hPc := hP.sub (ws' := []) [] rfl
    have hDc := hD.sub (ws' := []) [] (by decide) rfl
    have hFc := va_free (wc := []) hD hS hA [] rfl
    refine va_calli (va_runS (As := [.int (tA (k1 + 4)), .int 5]) (rest := []) ⟨hx, hb, hml, hown, hts⟩ (c_M_left l D y H.size (tA (k1 + 4)) 5) (va_cwS 2 hts gv_c_M_firstHash_c_M_left_119 rfl rfl rfl (by decide +kernel) ⟨(Nat.le_of_ble_eq_true rfl), (Nat.le_of_ble_eq_true rfl)⟩) (zB.preS hPc hDc hK hN hE hO hT hG hS hFc (fun _ h => nomatch h) (fun _ h => nomatch h) (fun _ h => nomatch h) (fun _ h => nomatch h)) rfl rfl hl.1 rfl (lv_room (Nat.le_of_ble_eq_true rfl)) dX12_firstHash_258 ⟨(Nat.le_of_ble_eq_true rfl), (Nat.le_of_ble_eq_true rfl)⟩) hS (fun q _ h => hFc q h) hFc (fun r8 u t H1 locs ht hvm hw hB hz1 hk1 hS => ?_)
    obtain ⟨hP1, hD1⟩ := hB
    rw [ht] at hP1
    obtain ⟨hP, hD⟩ := va_join (wr := [(wd, .inl (y 1, 80, .inl (zf tW1 (k1 + 1) f2))), (dg, .inl (y 1, 32, .inl f3)), (h0, .inr (16, [w1, w2, w3, w4, w5, w6, w7, w8, w9, w10, w11, w12, w13, w14, .int (nI 64), .ref ms, .ref dg, .ref wd, w15, w16, w17, w18, w19, w20, w21, w22, w23, w24, w25, w26, w27, w28, w29, w30, w31, w32, w33, w34, w35, w36, w37, w38, w39, w40, w41, w42, w43, w44, w45, w46, w47, w48, w49, w50, w51, w52, w53, w54, w55, w56, w57, w58, w59, w60])), (ms, .inl (y 1, 30000, .inl (zf tM 64 f1)))]) (w1 := []) hP hD [] [0, 1, 2, 3] rfl rfl (by decide) (by decide) hk1 hFc hP1 hD1
    generalize H1 = H at hP hS ⊢
    have hP : va_P D vwCl [(wd, .inl (y 1, 80, .inl (zf tW1 (k1 + 1) f2))), (dg, .inl (y 1, 32, .inl f3)), (h0, .inr (16, [w1, w2, w3, w4, w5, w6, w7, w8, w9, w10, w11, w12, w13, w14, .int (nI 64), .ref ms, .ref dg, .ref wd, w15, w16, w17, w18, w19, w20, w21, w22, w23, w24, w25, w26, w27, w28, w29, w30, w31, w32, w33, w34, w35, w36, w37, w38, w39, w40, w41, w42, w43, w44, w45, w46, w47, w48, w49, w50, w51, w52, w53, w54, w55, w56, w57, w58, w59, w60])), (ms, .inl (y 1, 30000, .inl (zf tM 64 f1)))] H := hP
    have hD : va_D A [(wd, .inl (y 1, 80, .inl (zf tW1 (k1 + 1) f2))), (dg, .inl (y 1, 32, .inl f3)), (h0, .inr (16, [w1, w2, w3, w4, w5, w6, w7, w8, w9, w10, w11, w12, w13, w14, .int (nI 64), .ref ms, .ref dg, .ref wd, w15, w16, w17, w18, w19, w20, w21, w22, w23, w24, w25, w26, w27, w28, w29, w30, w31, w32, w33, w34, w35, w36, w37, w38, w39, w40, w41, w42, w43, w44, w45, w46, w47, w48, w49, w50, w51, w52, w53, w54, w55, w56, w57, w58, w59, w60])), (ms, .inl (y 1, 30000, .inl (zf tM 64 f1)))] := hD
    have hw : r8 = ((tA (k1 + 4)) <<< ((5 : Int32) &&& 31)) ||| (zu (tA (k1 + 4)) ((32 : Int32) - (5 : Int32))) := hw
    subst hw
    refine lv_iload hx hb dX12_firstHash_261 (lv_at hl 1 rfl) ?_
    refine lv_iadd hx hb dX12_firstHash_263 ?_
    refine lv_iload hx hb dX12_firstHash_264 (lv_at hl 3 rfl) ?_
    refine lv_iadd hx hb dX12_firstHash_266 ?_
    refine lv_iload hx hb dX12_firstHash_267 (lv_at hl 0 rfl) ?_
    refine lv_iadd hx hb dX12_firstHash_269 ?_
    refine lv_aload_n hx hb dX12_firstHash_270 rfl (lv_at hl 15 rfl) ?_
    refine va_get (D := D) (ci := 16) (v := .ref wd) (C := RX12) (T := TX12) (N := 64) hx hb hts (by decide +kernel) hown hK hP 2 rfl rfl 17 (by decide) (hts (.fieldLink RX12 46 "SignetRingModel" "words" "[I") (by decide +kernel)) (fun _ h9 => h9) rfl dX12_firstHash_271 ?_
    refine lv_iload hx hb dX12_firstHash_274 (lv_at hl 2 rfl) ?_
    refine va_iald hx hb hK hP 0 1 rfl rfl (vp_in_nI (by omega) (by decide)) dX12_firstHash_276 ?_
    refine lv_topi (fun v9 ev9 => ?_)
    have ev9 : v9 = tW1 k1 := ev9.trans (zf_rd (j := k1) (by omega) (by omega))
    subst ev9
    refine lv_iadd hx hb dX12_firstHash_277 ?_
    refine lv_topi (fun v10 ev10 => ?_)
    have ev10 : v10 = tA (k1 + 5) := ev10.trans (ax_c_M_firstHash_6 k1 hk11 hk10)
    subst ev10
    refine lv_istore (lv' := [(16, .int (tA (k1 + 5))), (15, .int 1518500249), (14, .int ((tC (k1 + 1)) ^^^ ((tA (k1 + 3)) &&& ((tC (k1 + 2)) ^^^ (tC (k1 + 1)))))), (13, .int (nI k1)), (12, .int (tC k1)), (11, .int (tC (k1 + 1))), (10, .int (tC (k1 + 2))), (9, .int (tA (k1 + 3))), (8, .int (tA (k1 + 4))), (7, .int 0), (6, .int (-1009589776)), (5, .int 271733878), (4, .int (-1732584194)), (3, .int (-271733879)), (2, .int 1732584193), (1, .int 1), (0, .ref h0)]) hx hb dX12_firstHash_278 hl (by decide) rfl (fun ls hl => ?_)
    refine lv_iload hx hb dX12_firstHash_280 (lv_at hl 5 rfl) ?_
    refine lv_istore (lv' := [(12, .int (tC (k1 + 1))), (16, .int (tA (k1 + 5))), (15, .int 1518500249), (14, .int ((tC (k1 + 1)) ^^^ ((tA (k1 + 3)) &&& ((tC (k1 + 2)) ^^^ (tC (k1 + 1)))))), (13, .int (nI k1)), (11, .int (tC (k1 + 1))), (10, .int (tC (k1 + 2))), (9, .int (tA (k1 + 3))), (8, .int (tA (k1 + 4))), (7, .int 0), (6, .int (-1009589776)), (5, .int 271733878), (4, .int (-1732584194)), (3, .int (-271733879)), (2, .int 1732584193), (1, .int 1), (0, .ref h0)]) hx hb dX12_firstHash_282 hl (by decide) rfl (fun ls hl => ?_)
    refine lv_iload hx hb dX12_firstHash_284 (lv_at hl 6 rfl) ?_
    refine lv_istore (lv' := [(11, .int (tC (k1 + 2))), (12, .int (tC (k1 + 1))), (16, .int (tA (k1 + 5))), (15, .int 1518500249), (14, .int ((tC (k1 + 1)) ^^^ ((tA (k1 + 3)) &&& ((tC (k1 + 2)) ^^^ (tC (k1 + 1)))))), (13, .int (nI k1)), (10, .int (tC (k1 + 2))), (9, .int (tA (k1 + 3))), (8, .int (tA (k1 + 4))), (7, .int 0), (6, .int (-1009589776)), (5, .int 271733878), (4, .int (-1732584194)), (3, .int (-271733879)), (2, .int 1732584193), (1, .int 1), (0, .ref h0)]) hx hb dX12_firstHash_286 hl (by decide) rfl (fun ls hl => ?_)
    refine lv_iload hx hb dX12_firstHash_288 (lv_at hl 7 rfl) ?_
    refine lv_bipush (v := 30) hx hb dX12_firstHash_290 (by decide) ?_
    have hPc := hP.sub (ws' := []) [] rfl
    have hDc := hD.sub (ws' := []) [] (by decide) rfl
    have hFc := va_free (wc := []) hD hS hA [] rfl
    refine va_calli (va_runS (As := [.int (tA (k1 + 3)), .int 30]) (rest := []) ⟨hx, hb, hml, hown, hts⟩ (c_M_left l D y H.size (tA (k1 + 3)) 30) (va_cwS 2 hts gv_c_M_firstHash_c_M_left_119 rfl rfl rfl (by decide +kernel) ⟨(Nat.le_of_ble_eq_true rfl), (Nat.le_of_ble_eq_true rfl)⟩) (zB.preS hPc hDc hK hN hE hO hT hG hS hFc (fun _ h => nomatch h) (fun _ h => nomatch h) (fun _ h => nomatch h) (fun _ h => nomatch h)) rfl rfl hl.1 rfl (lv_room (Nat.le_of_ble_eq_true rfl)) dX12_firstHash_292 ⟨(Nat.le_of_ble_eq_true rfl), (Nat.le_of_ble_eq_true rfl)⟩) hS (fun q _ h => hFc q h) hFc (fun r11 u t H1 locs ht hvm hw hB hz1 hk1 hS => ?_)
    obtain ⟨hP1, hD1⟩ := hB
    rw [ht] at hP1
    obtain ⟨hP, hD⟩ := va_join (wr := [(wd, .inl (y 1, 80, .inl (zf tW1 (k1 + 1) f2))), (dg, .inl (y 1, 32, .inl f3)), (h0, .inr (16, [w1, w2, w3, w4, w5, w6, w7, w8, w9, w10, w11, w12, w13, w14, .int (nI 64), .ref ms, .ref dg, .ref wd, w15, w16, w17, w18, w19, w20, w21, w22, w23, w24, w25, w26, w27, w28, w29, w30, w31, w32, w33, w34, w35, w36, w37, w38, w39, w40, w41, w42, w43, w44, w45, w46, w47, w48, w49, w50, w51, w52, w53, w54, w55, w56, w57, w58, w59, w60])), (ms, .inl (y 1, 30000, .inl (zf tM 64 f1)))]) (w1 := []) hP hD [] [0, 1, 2, 3] rfl rfl (by decide) (by decide) hk1 hFc hP1 hD1
    generalize H1 = H at hP hS ⊢
    have hP : va_P D vwCl [(wd, .inl (y 1, 80, .inl (zf tW1 (k1 + 1) f2))), (dg, .inl (y 1, 32, .inl f3)), (h0, .inr (16, [w1, w2, w3, w4, w5, w6, w7, w8, w9, w10, w11, w12, w13, w14, .int (nI 64), .ref ms, .ref dg, .ref wd, w15, w16, w17, w18, w19, w20, w21, w22, w23, w24, w25, w26, w27, w28, w29, w30, w31, w32, w33, w34, w35, w36, w37, w38, w39, w40, w41, w42, w43, w44, w45, w46, w47, w48, w49, w50, w51, w52, w53, w54, w55, w56, w57, w58, w59, w60])), (ms, .inl (y 1, 30000, .inl (zf tM 64 f1)))] H := hP
    have hD : va_D A [(wd, .inl (y 1, 80, .inl (zf tW1 (k1 + 1) f2))), (dg, .inl (y 1, 32, .inl f3)), (h0, .inr (16, [w1, w2, w3, w4, w5, w6, w7, w8, w9, w10, w11, w12, w13, w14, .int (nI 64), .ref ms, .ref dg, .ref wd, w15, w16, w17, w18, w19, w20, w21, w22, w23, w24, w25, w26, w27, w28, w29, w30, w31, w32, w33, w34, w35, w36, w37, w38, w39, w40, w41, w42, w43, w44, w45, w46, w47, w48, w49, w50, w51, w52, w53, w54, w55, w56, w57, w58, w59, w60])), (ms, .inl (y 1, 30000, .inl (zf tM 64 f1)))] := hD
    have hw : r11 = ((tA (k1 + 3)) <<< ((30 : Int32) &&& 31)) ||| (zu (tA (k1 + 3)) ((32 : Int32) - (30 : Int32))) := hw
    subst hw
    refine lv_topi (fun v12 ev12 => ?_)
    have ev12 : v12 = tC (k1 + 3) := ev12.trans (ax_c_M_firstHash_7 k1 hk11 hk10)
    subst ev12
    refine lv_istore (lv' := [(10, .int (tC (k1 + 3))), (11, .int (tC (k1 + 2))), (12, .int (tC (k1 + 1))), (16, .int (tA (k1 + 5))), (15, .int 1518500249), (14, .int ((tC (k1 + 1)) ^^^ ((tA (k1 + 3)) &&& ((tC (k1 + 2)) ^^^ (tC (k1 + 1)))))), (13, .int (nI k1)), (9, .int (tA (k1 + 3))), (8, .int (tA (k1 + 4))), (7, .int 0), (6, .int (-1009589776)), (5, .int 271733878), (4, .int (-1732584194)), (3, .int (-271733879)), (2, .int 1732584193), (1, .int 1), (0, .ref h0)]) hx hb dX12_firstHash_295 hl (by decide) rfl (fun ls hl => ?_)
    refine lv_iload hx hb dX12_firstHash_297 (lv_at hl 8 rfl) ?_
    refine lv_istore (lv' := [(9, .int (tA (k1 + 4))), (10, .int (tC (k1 + 3))), (11, .int (tC (k1 + 2))), (12, .int (tC (k1 + 1))), (16, .int (tA (k1 + 5))), (15, .int 1518500249), (14, .int ((tC (k1 + 1)) ^^^ ((tA (k1 + 3)) &&& ((tC (k1 + 2)) ^^^ (tC (k1 + 1)))))), (13, .int (nI k1)), (8, .int (tA (k1 + 4))), (7, .int 0), (6, .int (-1009589776)), (5, .int 271733878), (4, .int (-1732584194)), (3, .int (-271733879)), (2, .int 1732584193), (1, .int 1), (0, .ref h0)]) hx hb dX12_firstHash_299 hl (by decide) rfl (fun ls hl => ?_)
    refine lv_iload hx hb dX12_firstHash_301 (lv_at hl 4 rfl) ?_
    refine lv_istore (lv' := [(8, .int (tA (k1 + 5))), (9, .int (tA (k1 + 4))), (10, .int (tC (k1 + 3))), (11, .int (tC (k1 + 2))), (12, .int (tC (k1 + 1))), (16, .int (tA (k1 + 5))), (15, .int 1518500249), (14, .int ((tC (k1 + 1)) ^^^ ((tA (k1 + 3)) &&& ((tC (k1 + 2)) ^^^ (tC (k1 + 1)))))), (13, .int (nI k1)), (7, .int 0), (6, .int (-1009589776)), (5, .int 271733878), (4, .int (-1732584194)), (3, .int (-271733879)), (2, .int 1732584193), (1, .int 1), (0, .ref h0)]) hx hb dX12_firstHash_303 hl (by decide) rfl (fun ls hl => ?_)
    refine lv_iinc (v := nI (k1 + 1)) (lv' := [(13, .int (nI (k1 + 1))), (8, .int (tA (k1 + 5))), (9, .int (tA (k1 + 4))), (10, .int (tC (k1 + 3))), (11, .int (tC (k1 + 2))), (12, .int (tC (k1 + 1))), (16, .int (tA (k1 + 5))), (15, .int 1518500249), (14, .int ((tC (k1 + 1)) ^^^ ((tA (k1 + 3)) &&& ((tC (k1 + 2)) ^^^ (tC (k1 + 1)))))), (7, .int 0), (6, .int (-1009589776)), (5, .int 271733878), (4, .int (-1732584194)), (3, .int (-271733879)), (2, .int 1732584193), (1, .int 1), (0, .ref h0)]) hx hb dX12_firstHash_305 hl (k := 8) rfl (ax_c_M_firstHash_8 k1 hk11 hk10) (by decide) rfl (fun ls hl => ?_)
    refine lv_goto (tgt := 53) hx hb dX12_firstHash_308 (by decide) ?_
    exact ih ls H locs ⟨hP, hD, hS, lv_sub hl [0, 5, 4, 3, 2, 1, 9, 10, 11, 12, 13, 14, 15, 16] rfl⟩
  · obtain ⟨hP, hD, hS, hl⟩ := hI
    have hl : lv_has ls 17 [(13, .int (nI 16)), (12, .int (tC 16)), (11, .int (tC 17)), (10, .int (tC 18)), (9, .int (tA 19)), (8, .int (tA 20)), (7, .int 0), (6, .int (-1009589776)), (5, .int 271733878), (4, .int (-1732584194)), (3, .int (-271733879)), (2, .int 1732584193), (1, .int 1), (0, .ref h0)] := hl
    have hP : va_P D vwCl [(wd, .inl (y 1, 80, .inl (zf tW1 16 f2))), (dg, .inl (y 1, 32, .inl f3)), (h0, .inr (16, [w1, w2, w3, w4, w5, w6, w7, w8, w9, w10, w11, w12, w13, w14, .int (nI 64), .ref ms, .ref dg, .ref wd, w15, w16, w17, w18, w19, w20, w21, w22, w23, w24, w25, w26, w27, w28, w29, w30, w31, w32, w33, w34, w35, w36, w37, w38, w39, w40, w41, w42, w43, w44, w45, w46, w47, w48, w49, w50, w51, w52, w53, w54, w55, w56, w57, w58, w59, w60])), (ms, .inl (y 1, 30000, .inl (zf tM 64 f1)))] H := hP
    have hD : va_D A [(wd, .inl (y 1, 80, .inl (zf tW1 16 f2))), (dg, .inl (y 1, 32, .inl f3)), (h0, .inr (16, [w1, w2, w3, w4, w5, w6, w7, w8, w9, w10, w11, w12, w13, w14, .int (nI 64), .ref ms, .ref dg, .ref wd, w15, w16, w17, w18, w19, w20, w21, w22, w23, w24, w25, w26, w27, w28, w29, w30, w31, w32, w33, w34, w35, w36, w37, w38, w39, w40, w41, w42, w43, w44, w45, w46, w47, w48, w49, w50, w51, w52, w53, w54, w55, w56, w57, w58, w59, w60])), (ms, .inl (y 1, 30000, .inl (zf tM 64 f1)))] := hD
    have hl : lv_has ls 17 [(13, .int (nI 16)), (12, .int (tC 16)), (11, .int (tC 17)), (10, .int (tC 18)), (9, .int (tA 19)), (8, .int (tA 20)), (7, .int 0), (6, .int (-1009589776)), (5, .int 271733878), (4, .int (-1732584194)), (3, .int (-271733879)), (2, .int 1732584193), (1, .int 1), (0, .ref h0)] := lv_sub hl [0, 1, 2, 3, 4, 5, 6, 7, 8, 9, 10, 11, 12, 13] rfl
    refine zz_loop (I := fun (k2 : Nat) (ls : Array Slot) (H : Heap) (locs : List Loc) => va_P D vwCl [(wd, .inl (y 1, 80, .inl (zf tW1 k2 f2))), (dg, .inl (y 1, 32, .inl f3)), (h0, .inr (16, [w1, w2, w3, w4, w5, w6, w7, w8, w9, w10, w11, w12, w13, w14, .int (nI 64), .ref ms, .ref dg, .ref wd, w15, w16, w17, w18, w19, w20, w21, w22, w23, w24, w25, w26, w27, w28, w29, w30, w31, w32, w33, w34, w35, w36, w37, w38, w39, w40, w41, w42, w43, w44, w45, w46, w47, w48, w49, w50, w51, w52, w53, w54, w55, w56, w57, w58, w59, w60])), (ms, .inl (y 1, 30000, .inl (zf tM 64 f1)))] H ∧ va_D A [(wd, .inl (y 1, 80, .inl (zf tW1 k2 f2))), (dg, .inl (y 1, 32, .inl f3)), (h0, .inr (16, [w1, w2, w3, w4, w5, w6, w7, w8, w9, w10, w11, w12, w13, w14, .int (nI 64), .ref ms, .ref dg, .ref wd, w15, w16, w17, w18, w19, w20, w21, w22, w23, w24, w25, w26, w27, w28, w29, w30, w31, w32, w33, w34, w35, w36, w37, w38, w39, w40, w41, w42, w43, w44, w45, w46, w47, w48, w49, w50, w51, w52, w53, w54, w55, w56, w57, w58, w59, w60])), (ms, .inl (y 1, 30000, .inl (zf tM 64 f1)))] ∧ va_S A s.heap H locs ∧ lv_has ls 17 [(13, .int (nI k2)), (12, .int (tC k2)), (11, .int (tC (k2 + 1))), (10, .int (tC (k2 + 2))), (9, .int (tA (k2 + 3))), (8, .int (tA (k2 + 4))), (7, .int 0), (6, .int (-1009589776)), (5, .int 271733878), (4, .int (-1732584194)), (3, .int (-271733879)), (2, .int 1732584193), (1, .int 1), (0, .ref h0)]) 16 20 (by decide) ⟨hP, hD, hS, hl⟩ (fun k2 ls H locs hk20 hk21 hI ih => ?_) (fun ls H locs hI => ?_)
    · obtain ⟨hP, hD, hS, hl⟩ := hI
      have hl : lv_has ls 17 [(13, .int (nI k2)), (12, .int (tC k2)), (11, .int (tC (k2 + 1))), (10, .int (tC (k2 + 2))), (9, .int (tA (k2 + 3))), (8, .int (tA (k2 + 4))), (7, .int 0), (6, .int (-1009589776)), (5, .int 271733878), (4, .int (-1732584194)), (3, .int (-271733879)), (2, .int 1732584193), (1, .int 1), (0, .ref h0)] := hl
      have hP : va_P D vwCl [(wd, .inl (y 1, 80, .inl (zf tW1 k2 f2))), (dg, .inl (y 1, 32, .inl f3)), (h0, .inr (16, [w1, w2, w3, w4, w5, w6, w7, w8, w9, w10, w11, w12, w13, w14, .int (nI 64), .ref ms, .ref dg, .ref wd, w15, w16, w17, w18, w19, w20, w21, w22, w23, w24, w25, w26, w27, w28, w29, w30, w31, w32, w33, w34, w35, w36, w37, w38, w39, w40, w41, w42, w43, w44, w45, w46, w47, w48, w49, w50, w51, w52, w53, w54, w55, w56, w57, w58, w59, w60])), (ms, .inl (y 1, 30000, .inl (zf tM 64 f1)))] H := hP
      have hD : va_D A [(wd, .inl (y 1, 80, .inl (zf tW1 k2 f2))), (dg, .inl (y 1, 32, .inl f3)), (h0, .inr (16, [w1, w2, w3, w4, w5, w6, w7, w8, w9, w10, w11, w12, w13, w14, .int (nI 64), .ref ms, .ref dg, .ref wd, w15, w16, w17, w18, w19, w20, w21, w22, w23, w24, w25, w26, w27, w28, w29, w30, w31, w32, w33, w34, w35, w36, w37, w38, w39, w40, w41, w42, w43, w44, w45, w46, w47, w48, w49, w50, w51, w52, w53, w54, w55, w56, w57, w58, w59, w60])), (ms, .inl (y 1, 30000, .inl (zf tM 64 f1)))] := hD
      refine lv_iload hx hb dX12_firstHash_53 (lv_at hl 0 rfl) ?_
      refine lv_bipush (v := 80) hx hb dX12_firstHash_55 (by decide) ?_
      refine lv_icmp_ge (tgt := 311) hx hb dX12_firstHash_57 (by decide) (fun c9 => absurd c9 (ax_c_M_firstHash_9 k2 hk21 hk20)) (fun _ => ?_)
      refine lv_aload_n hx hb dX12_firstHash_60 rfl (lv_at hl 13 rfl) ?_
      refine va_get (D := D) (ci := 16) (v := .ref wd) (C := RX12) (T := TX12) (N := 64) hx hb hts (by decide +kernel) hown hK hP 2 rfl rfl 17 (by decide) (hts (.fieldLink RX12 46 "SignetRingModel" "words" "[I") (by decide +kernel)) (fun _ h9 => h9) rfl dX12_firstHash_61 ?_
      refine lv_iload hx hb dX12_firstHash_64 (lv_at hl 0 rfl) ?_
      refine lv_iload hx hb dX12_firstHash_66 (lv_at hl 0 rfl) ?_
      refine lv_bipush (v := 16) hx hb dX12_firstHash_68 (by decide) ?_
      refine lv_icmp_ge (tgt := 95) hx hb dX12_firstHash_70 (by decide) (fun _ => ?_) (fun c9 => absurd (ax_c_M_firstHash_10 k2 hk21 hk20) c9)
      refine lv_aload_n hx hb dX12_firstHash_95 rfl (lv_at hl 13 rfl) ?_
      refine va_get (D := D) (ci := 16) (v := .ref wd) (C := RX12) (T := TX12) (N := 64) hx hb hts (by decide +kernel) hown hK hP 2 rfl rfl 17 (by decide) (hts (.fieldLink RX12 46 "SignetRingModel" "words" "[I") (by decide +kernel)) (fun _ h9 => h9) rfl dX12_firstHash_96 ?_
      refine lv_iload hx hb dX12_firstHash_99 (lv_at hl 0 rfl) ?_
      refine lv_iconst (v := 3) hx hb dX12_firstHash_101 (by decide) ?_
      refine lv_isub hx hb dX12_firstHash_102 ?_
      refine lv_topi (fun v13 ev13 => ?_)
      have ev13 : v13 = nI (k2 - 3) := ev13.trans (ax_c_M_firstHash_11 k2 hk21 hk20)
      subst ev13
      refine va_iald hx hb hK hP 0 1 rfl rfl (vp_in_nI (by omega) (by decide)) dX12_firstHash_103 ?_
      refine lv_topi (fun v14 ev14 => ?_)
      have ev14 : v14 = tW1 (k2 - 3) := ev14.trans (zf_rd (j := (k2 - 3)) (by omega) (by omega))
      subst ev14
      refine lv_aload_n hx hb dX12_firstHash_104 rfl (lv_at hl 13 rfl) ?_
      refine va_get (D := D) (ci := 16) (v := .ref wd) (C := RX12) (T := TX12) (N := 64) hx hb hts (by decide +kernel) hown hK hP 2 rfl rfl 17 (by decide) (hts (.fieldLink RX12 46 "SignetRingModel" "words" "[I") (by decide +kernel)) (fun _ h9 => h9) rfl dX12_firstHash_105 ?_
      refine lv_iload hx hb dX12_firstHash_108 (lv_at hl 0 rfl) ?_
      refine lv_bipush (v := 8) hx hb dX12_firstHash_110 (by decide) ?_
      refine lv_isub hx hb dX12_firstHash_112 ?_
      refine lv_topi (fun v15 ev15 => ?_)
      have ev15 : v15 = nI (k2 - 8) := ev15.trans (ax_c_M_firstHash_12 k2 hk21 hk20)
      subst ev15
      refine va_iald hx hb hK hP 0 1 rfl rfl (vp_in_nI (by omega) (by decide)) dX12_firstHash_113 ?_
      refine lv_topi (fun v16 ev16 => ?_)
      have ev16 : v16 = tW1 (k2 - 8) := ev16.trans (zf_rd (j := (k2 - 8)) (by omega) (by omega))
      subst ev16
      refine lv_ixor hx hb dX12_firstHash_114 ?_
      refine lv_aload_n hx hb dX12_firstHash_115 rfl (lv_at hl 13 rfl) ?_
      refine va_get (D := D) (ci := 16) (v := .ref wd) (C := RX12) (T := TX12) (N := 64) hx hb hts (by decide +kernel) hown hK hP 2 rfl rfl 17 (by decide) (hts (.fieldLink RX12 46 "SignetRingModel" "words" "[I") (by decide +kernel)) (fun _ h9 => h9) rfl dX12_firstHash_116 ?_
      refine lv_iload hx hb dX12_firstHash_119 (lv_at hl 0 rfl) ?_
      refine lv_bipush (v := 14) hx hb dX12_firstHash_121 (by decide) ?_
      refine lv_isub hx hb dX12_firstHash_123 ?_
      refine lv_topi (fun v17 ev17 => ?_)
      have ev17 : v17 = nI (k2 - 14) := ev17.trans (ax_c_M_firstHash_13 k2 hk21 hk20)
      subst ev17
      refine va_iald hx hb hK hP 0 1 rfl rfl (vp_in_nI (by omega) (by decide)) dX12_firstHash_124 ?_
      refine lv_topi (fun v18 ev18 => ?_)
      have ev18 : v18 = tW1 (k2 - 14) := ev18.trans (zf_rd (j := (k2 - 14)) (by omega) (by omega))
      subst ev18
      refine lv_ixor hx hb dX12_firstHash_125 ?_
      refine lv_aload_n hx hb dX12_firstHash_126 rfl (lv_at hl 13 rfl) ?_
      refine va_get (D := D) (ci := 16) (v := .ref wd) (C := RX12) (T := TX12) (N := 64) hx hb hts (by decide +kernel) hown hK hP 2 rfl rfl 17 (by decide) (hts (.fieldLink RX12 46 "SignetRingModel" "words" "[I") (by decide +kernel)) (fun _ h9 => h9) rfl dX12_firstHash_127 ?_
      refine lv_iload hx hb dX12_firstHash_130 (lv_at hl 0 rfl) ?_
      refine lv_bipush (v := 16) hx hb dX12_firstHash_132 (by decide) ?_
      refine lv_isub hx hb dX12_firstHash_134 ?_
      refine lv_topi (fun v19 ev19 => ?_)
      have ev19 : v19 = nI (k2 - 16) := ev19.trans (ax_c_M_firstHash_14 k2 hk21 hk20)
      subst ev19
      refine va_iald hx hb hK hP 0 1 rfl rfl (vp_in_nI (by omega) (by decide)) dX12_firstHash_135 ?_
      refine lv_topi (fun v20 ev20 => ?_)
      have ev20 : v20 = tW1 (k2 - 16) := ev20.trans (zf_rd (j := (k2 - 16)) (by omega) (by omega))
      subst ev20
      refine lv_ixor hx hb dX12_firstHash_136 ?_
      refine lv_iconst (v := 1) hx hb dX12_firstHash_137 (by decide) ?_
      have hPc := hP.sub (ws' := []) [] rfl
      have hDc := hD.sub (ws' := []) [] (by decide) rfl
      have hFc := va_free (wc := []) hD hS hA [] rfl
      refine va_calli (va_runS (As := [.int ((((tW1 (k2 - 3)) ^^^ (tW1 (k2 - 8))) ^^^ (tW1 (k2 - 14))) ^^^ (tW1 (k2 - 16))), .int 1]) (rest := [.int (nI k2), .ref wd]) ⟨hx, hb, hml, hown, hts⟩ (c_M_left l D y H.size ((((tW1 (k2 - 3)) ^^^ (tW1 (k2 - 8))) ^^^ (tW1 (k2 - 14))) ^^^ (tW1 (k2 - 16))) 1) (va_cwS 2 hts gv_c_M_firstHash_c_M_left_119 rfl rfl rfl (by decide +kernel) ⟨(Nat.le_of_ble_eq_true rfl), (Nat.le_of_ble_eq_true rfl)⟩) (zB.preS hPc hDc hK hN hE hO hT hG hS hFc (fun _ h => nomatch h) (fun _ h => nomatch h) (fun _ h => nomatch h) (fun _ h => nomatch h)) rfl rfl hl.1 rfl (lv_room (Nat.le_of_ble_eq_true rfl)) dX12_firstHash_138 ⟨(Nat.le_of_ble_eq_true rfl), (Nat.le_of_ble_eq_true rfl)⟩) hS (fun q _ h => hFc q h) hFc (fun r21 u t H1 locs ht hvm hw hB hz1 hk1 hS => ?_)
      obtain ⟨hP1, hD1⟩ := hB
      rw [ht] at hP1
      obtain ⟨hP, hD⟩ := va_join (wr := [(wd, .inl (y 1, 80, .inl (zf tW1 k2 f2))), (dg, .inl (y 1, 32, .inl f3)), (h0, .inr (16, [w1, w2, w3, w4, w5, w6, w7, w8, w9, w10, w11, w12, w13, w14, .int (nI 64), .ref ms, .ref dg, .ref wd, w15, w16, w17, w18, w19, w20, w21, w22, w23, w24, w25, w26, w27, w28, w29, w30, w31, w32, w33, w34, w35, w36, w37, w38, w39, w40, w41, w42, w43, w44, w45, w46, w47, w48, w49, w50, w51, w52, w53, w54, w55, w56, w57, w58, w59, w60])), (ms, .inl (y 1, 30000, .inl (zf tM 64 f1)))]) (w1 := []) hP hD [] [0, 1, 2, 3] rfl rfl (by decide) (by decide) hk1 hFc hP1 hD1
      generalize H1 = H at hP hS ⊢
      have hP : va_P D vwCl [(wd, .inl (y 1, 80, .inl (zf tW1 k2 f2))), (dg, .inl (y 1, 32, .inl f3)), (h0, .inr (16, [w1, w2, w3, w4, w5, w6, w7, w8, w9, w10, w11, w12, w13, w14, .int (nI 64), .ref ms, .ref dg, .ref wd, w15, w16, w17, w18, w19, w20, w21, w22, w23, w24, w25, w26, w27, w28, w29, w30, w31, w32, w33, w34, w35, w36, w37, w38, w39, w40, w41, w42, w43, w44, w45, w46, w47, w48, w49, w50, w51, w52, w53, w54, w55, w56, w57, w58, w59, w60])), (ms, .inl (y 1, 30000, .inl (zf tM 64 f1)))] H := hP
      have hD : va_D A [(wd, .inl (y 1, 80, .inl (zf tW1 k2 f2))), (dg, .inl (y 1, 32, .inl f3)), (h0, .inr (16, [w1, w2, w3, w4, w5, w6, w7, w8, w9, w10, w11, w12, w13, w14, .int (nI 64), .ref ms, .ref dg, .ref wd, w15, w16, w17, w18, w19, w20, w21, w22, w23, w24, w25, w26, w27, w28, w29, w30, w31, w32, w33, w34, w35, w36, w37, w38, w39, w40, w41, w42, w43, w44, w45, w46, w47, w48, w49, w50, w51, w52, w53, w54, w55, w56, w57, w58, w59, w60])), (ms, .inl (y 1, 30000, .inl (zf tM 64 f1)))] := hD
      have hw : r21 = (((((tW1 (k2 - 3)) ^^^ (tW1 (k2 - 8))) ^^^ (tW1 (k2 - 14))) ^^^ (tW1 (k2 - 16))) <<< ((1 : Int32) &&& 31)) ||| (zu ((((tW1 (k2 - 3)) ^^^ (tW1 (k2 - 8))) ^^^ (tW1 (k2 - 14))) ^^^ (tW1 (k2 - 16))) ((32 : Int32) - (1 : Int32))) := hw
      subst hw
      refine lv_topi (fun v22 ev22 => ?_)
      have ev22 : v22 = tW1 k2 := ev22.trans (ax_c_M_firstHash_15 k2 hk21 hk20)
      subst ev22
      refine va_iast hx hb hK hP hD hS 0 1 rfl rfl (vp_in_nI (by omega) (by decide)) dX12_firstHash_141 (fun H locs hP hD hS => ?_)
      have hP : va_P D vwCl [(wd, .inl (y 1, 80, .inl (upd (zf tW1 k2 f2) (nI k2).toNatClampNeg (tW1 k2)))), (dg, .inl (y 1, 32, .inl f3)), (h0, .inr (16, [w1, w2, w3, w4, w5, w6, w7, w8, w9, w10, w11, w12, w13, w14, .int (nI 64), .ref ms, .ref dg, .ref wd, w15, w16, w17, w18, w19, w20, w21, w22, w23, w24, w25, w26, w27, w28, w29, w30, w31, w32, w33, w34, w35, w36, w37, w38, w39, w40, w41, w42, w43, w44, w45, w46, w47, w48, w49, w50, w51, w52, w53, w54, w55, w56, w57, w58, w59, w60])), (ms, .inl (y 1, 30000, .inl (zf tM 64 f1)))] H := hP
      have hD : va_D A [(wd, .inl (y 1, 80, .inl (upd (zf tW1 k2 f2) (nI k2).toNatClampNeg (tW1 k2)))), (dg, .inl (y 1, 32, .inl f3)), (h0, .inr (16, [w1, w2, w3, w4, w5, w6, w7, w8, w9, w10, w11, w12, w13, w14, .int (nI 64), .ref ms, .ref dg, .ref wd, w15, w16, w17, w18, w19, w20, w21, w22, w23, w24, w25, w26, w27, w28, w29, w30, w31, w32, w33, w34, w35, w36, w37, w38, w39, w40, w41, w42, w43, w44, w45, w46, w47, w48, w49, w50, w51, w52, w53, w54, w55, w56, w57, w58, w59, w60])), (ms, .inl (y 1, 30000, .inl (zf tM 64 f1)))] := hD
      have u23 : upd (zf tW1 k2 f2) (nI k2).toNatClampNeg (tW1 k2) = zf tW1 (k2 + 1) f2 := (zf_st (n := k2) (by omega) rfl)
      rw [u23] at hP hD
      have hP : va_P D vwCl [(wd, .inl (y 1, 80, .inl (zf tW1 (k2 + 1) f2))), (dg, .inl (y 1, 32, .inl f3)), (h0, .inr (16, [w1, w2, w3, w4, w5, w6, w7, w8, w9, w10, w11, w12, w13, w14, .int (nI 64), .ref ms, .ref dg, .ref wd, w15, w16, w17, w18, w19, w20, w21, w22, w23, w24, w25, w26, w27, w28, w29, w30, w31, w32, w33, w34, w35, w36, w37, w38, w39, w40, w41, w42, w43, w44, w45, w46, w47, w48, w49, w50, w51, w52, w53, w54, w55, w56, w57, w58, w59, w60])), (ms, .inl (y 1, 30000, .inl (zf tM 64 f1)))] H := hP
      have hD : va_D A [(wd, .inl (y 1, 80, .inl (zf tW1 (k2 + 1) f2))), (dg, .inl (y 1, 32, .inl f3)), (h0, .inr (16, [w1, w2, w3, w4, w5, w6, w7, w8, w9, w10, w11, w12, w13, w14, .int (nI 64), .ref ms, .ref dg, .ref wd, w15, w16, w17, w18, w19, w20, w21, w22, w23, w24, w25, w26, w27, w28, w29, w30, w31, w32, w33, w34, w35, w36, w37, w38, w39, w40, w41, w42, w43, w44, w45, w46, w47, w48, w49, w50, w51, w52, w53, w54, w55, w56, w57, w58, w59, w60])), (ms, .inl (y 1, 30000, .inl (zf tM 64 f1)))] := hD
      refine lv_iload hx hb dX12_firstHash_142 (lv_at hl 0 rfl) ?_
      refine lv_bipush (v := 20) hx hb dX12_firstHash_144 (by decide) ?_
      refine lv_icmp_ge (tgt := 163) hx hb dX12_firstHash_146 (by decide) (fun c9 => absurd c9 (ax_c_M_firstHash_16 k2 hk21 hk20)) (fun _ => ?_)
      refine lv_iload hx hb dX12_firstHash_149 (lv_at hl 2 rfl) ?_
      refine lv_iload hx hb dX12_firstHash_151 (lv_at hl 4 rfl) ?_
      refine lv_iload hx hb dX12_firstHash_153 (lv_at hl 3 rfl) ?_
      refine lv_iload hx hb dX12_firstHash_155 (lv_at hl 2 rfl) ?_
      refine lv_ixor hx hb dX12_firstHash_157 ?_
      refine lv_iand hx hb dX12_firstHash_158 ?_
      refine lv_ixor hx hb dX12_firstHash_159 ?_
      refine lv_goto (tgt := 213) hx hb dX12_firstHash_160 (by decide) ?_
      refine lv_istore (lv' := [(14, .int ((tC (k2 + 1)) ^^^ ((tA (k2 + 3)) &&& ((tC (k2 + 2)) ^^^ (tC (k2 + 1)))))), (13, .int (nI k2)), (12, .int (tC k2)), (11, .int (tC (k2 + 1))), (10, .int (tC (k2 + 2))), (9, .int (tA (k2 + 3))), (8, .int (tA (k2 + 4))), (7, .int 0), (6, .int (-1009589776)), (5, .int 271733878), (4, .int (-1732584194)), (3, .int (-271733879)), (2, .int 1732584193), (1, .int 1), (0, .ref h0)]) hx hb dX12_firstHash_213 hl (by decide) rfl (fun ls hl => ?_)
      refine lv_iload hx hb dX12_firstHash_215 (lv_at hl 1 rfl) ?_
      refine lv_bipush (v := 20) hx hb dX12_firstHash_217 (by decide) ?_
      refine lv_icmp_ge (tgt := 227) hx hb dX12_firstHash_219 (by decide) (fun c9 => absurd c9 (ax_c_M_firstHash_16 k2 hk21 hk20)) (fun _ => ?_)
      refine lv_ldc (v := 1518500249) hx hb hown (hts (.constant RX12 123 1518500249) (by decide +kernel)) dX12_firstHash_222 ?_
      refine lv_goto (tgt := 253) hx hb dX12_firstHash_224 (by decide) ?_
      refine lv_istore (lv' := [(15, .int 1518500249), (14, .int ((tC (k2 + 1)) ^^^ ((tA (k2 + 3)) &&& ((tC (k2 + 2)) ^^^ (tC (k2 + 1)))))), (13, .int (nI k2)), (12, .int (tC k2)), (11, .int (tC (k2 + 1))), (10, .int (tC (k2 + 2))), (9, .int (tA (k2 + 3))), (8, .int (tA (k2 + 4))), (7, .int 0), (6, .int (-1009589776)), (5, .int 271733878), (4, .int (-1732584194)), (3, .int (-271733879)), (2, .int 1732584193), (1, .int 1), (0, .ref h0)]) hx hb dX12_firstHash_253 hl (by decide) rfl (fun ls hl => ?_)
      refine lv_iload hx hb dX12_firstHash_255 (lv_at hl 7 rfl) ?_
      refine lv_iconst (v := 5) hx hb dX12_firstHash_257 (by decide) ?_
      have hPc := hP.sub (ws' := []) [] rfl
      have hDc := hD.sub (ws' := []) [] (by decide) rfl
      have hFc := va_free (wc := []) hD hS hA [] rfl
      refine va_calli (va_runS (As := [.int (tA (k2 + 4)), .int 5]) (rest := []) ⟨hx, hb, hml, hown, hts⟩ (c_M_left l D y H.size (tA (k2 + 4)) 5) (va_cwS 2 hts gv_c_M_firstHash_c_M_left_119 rfl rfl rfl (by decide +kernel) ⟨(Nat.le_of_ble_eq_true rfl), (Nat.le_of_ble_eq_true rfl)⟩) (zB.preS hPc hDc hK hN hE hO hT hG hS hFc (fun _ h => nomatch h) (fun _ h => nomatch h) (fun _ h => nomatch h) (fun _ h => nomatch h)) rfl rfl hl.1 rfl (lv_room (Nat.le_of_ble_eq_true rfl)) dX12_firstHash_258 ⟨(Nat.le_of_ble_eq_true rfl), (Nat.le_of_ble_eq_true rfl)⟩) hS (fun q _ h => hFc q h) hFc (fun r24 u t H1 locs ht hvm hw hB hz1 hk1 hS => ?_)
      obtain ⟨hP1, hD1⟩ := hB
      rw [ht] at hP1
      obtain ⟨hP, hD⟩ := va_join (wr := [(wd, .inl (y 1, 80, .inl (zf tW1 (k2 + 1) f2))), (dg, .inl (y 1, 32, .inl f3)), (h0, .inr (16, [w1, w2, w3, w4, w5, w6, w7, w8, w9, w10, w11, w12, w13, w14, .int (nI 64), .ref ms, .ref dg, .ref wd, w15, w16, w17, w18, w19, w20, w21, w22, w23, w24, w25, w26, w27, w28, w29, w30, w31, w32, w33, w34, w35, w36, w37, w38, w39, w40, w41, w42, w43, w44, w45, w46, w47, w48, w49, w50, w51, w52, w53, w54, w55, w56, w57, w58, w59, w60])), (ms, .inl (y 1, 30000, .inl (zf tM 64 f1)))]) (w1 := []) hP hD [] [0, 1, 2, 3] rfl rfl (by decide) (by decide) hk1 hFc hP1 hD1
      generalize H1 = H at hP hS ⊢
      have hP : va_P D vwCl [(wd, .inl (y 1, 80, .inl (zf tW1 (k2 + 1) f2))), (dg, .inl (y 1, 32, .inl f3)), (h0, .inr (16, [w1, w2, w3, w4, w5, w6, w7, w8, w9, w10, w11, w12, w13, w14, .int (nI 64), .ref ms, .ref dg, .ref wd, w15, w16, w17, w18, w19, w20, w21, w22, w23, w24, w25, w26, w27, w28, w29, w30, w31, w32, w33, w34, w35, w36, w37, w38, w39, w40, w41, w42, w43, w44, w45, w46, w47, w48, w49, w50, w51, w52, w53, w54, w55, w56, w57, w58, w59, w60])), (ms, .inl (y 1, 30000, .inl (zf tM 64 f1)))] H := hP
      have hD : va_D A [(wd, .inl (y 1, 80, .inl (zf tW1 (k2 + 1) f2))), (dg, .inl (y 1, 32, .inl f3)), (h0, .inr (16, [w1, w2, w3, w4, w5, w6, w7, w8, w9, w10, w11, w12, w13, w14, .int (nI 64), .ref ms, .ref dg, .ref wd, w15, w16, w17, w18, w19, w20, w21, w22, w23, w24, w25, w26, w27, w28, w29, w30, w31, w32, w33, w34, w35, w36, w37, w38, w39, w40, w41, w42, w43, w44, w45, w46, w47, w48, w49, w50, w51, w52, w53, w54, w55, w56, w57, w58, w59, w60])), (ms, .inl (y 1, 30000, .inl (zf tM 64 f1)))] := hD
      have hw : r24 = ((tA (k2 + 4)) <<< ((5 : Int32) &&& 31)) ||| (zu (tA (k2 + 4)) ((32 : Int32) - (5 : Int32))) := hw
      subst hw
      refine lv_iload hx hb dX12_firstHash_261 (lv_at hl 1 rfl) ?_
      refine lv_iadd hx hb dX12_firstHash_263 ?_
      refine lv_iload hx hb dX12_firstHash_264 (lv_at hl 3 rfl) ?_
      refine lv_iadd hx hb dX12_firstHash_266 ?_
      refine lv_iload hx hb dX12_firstHash_267 (lv_at hl 0 rfl) ?_
      refine lv_iadd hx hb dX12_firstHash_269 ?_
      refine lv_aload_n hx hb dX12_firstHash_270 rfl (lv_at hl 15 rfl) ?_
      refine va_get (D := D) (ci := 16) (v := .ref wd) (C := RX12) (T := TX12) (N := 64) hx hb hts (by decide +kernel) hown hK hP 2 rfl rfl 17 (by decide) (hts (.fieldLink RX12 46 "SignetRingModel" "words" "[I") (by decide +kernel)) (fun _ h9 => h9) rfl dX12_firstHash_271 ?_
      refine lv_iload hx hb dX12_firstHash_274 (lv_at hl 2 rfl) ?_
      refine va_iald hx hb hK hP 0 1 rfl rfl (vp_in_nI (by omega) (by decide)) dX12_firstHash_276 ?_
      refine lv_topi (fun v25 ev25 => ?_)
      have ev25 : v25 = tW1 k2 := ev25.trans (zf_rd (j := k2) (by omega) (by omega))
      subst ev25
      refine lv_iadd hx hb dX12_firstHash_277 ?_
      refine lv_topi (fun v26 ev26 => ?_)
      have ev26 : v26 = tA (k2 + 5) := ev26.trans (ax_c_M_firstHash_17 k2 hk21 hk20)
      subst ev26
      refine lv_istore (lv' := [(16, .int (tA (k2 + 5))), (15, .int 1518500249), (14, .int ((tC (k2 + 1)) ^^^ ((tA (k2 + 3)) &&& ((tC (k2 + 2)) ^^^ (tC (k2 + 1)))))), (13, .int (nI k2)), (12, .int (tC k2)), (11, .int (tC (k2 + 1))), (10, .int (tC (k2 + 2))), (9, .int (tA (k2 + 3))), (8, .int (tA (k2 + 4))), (7, .int 0), (6, .int (-1009589776)), (5, .int 271733878), (4, .int (-1732584194)), (3, .int (-271733879)), (2, .int 1732584193), (1, .int 1), (0, .ref h0)]) hx hb dX12_firstHash_278 hl (by decide) rfl (fun ls hl => ?_)
      refine lv_iload hx hb dX12_firstHash_280 (lv_at hl 5 rfl) ?_
      refine lv_istore (lv' := [(12, .int (tC (k2 + 1))), (16, .int (tA (k2 + 5))), (15, .int 1518500249), (14, .int ((tC (k2 + 1)) ^^^ ((tA (k2 + 3)) &&& ((tC (k2 + 2)) ^^^ (tC (k2 + 1)))))), (13, .int (nI k2)), (11, .int (tC (k2 + 1))), (10, .int (tC (k2 + 2))), (9, .int (tA (k2 + 3))), (8, .int (tA (k2 + 4))), (7, .int 0), (6, .int (-1009589776)), (5, .int 271733878), (4, .int (-1732584194)), (3, .int (-271733879)), (2, .int 1732584193), (1, .int 1), (0, .ref h0)]) hx hb dX12_firstHash_282 hl (by decide) rfl (fun ls hl => ?_)
      refine lv_iload hx hb dX12_firstHash_284 (lv_at hl 6 rfl) ?_
      refine lv_istore (lv' := [(11, .int (tC (k2 + 2))), (12, .int (tC (k2 + 1))), (16, .int (tA (k2 + 5))), (15, .int 1518500249), (14, .int ((tC (k2 + 1)) ^^^ ((tA (k2 + 3)) &&& ((tC (k2 + 2)) ^^^ (tC (k2 + 1)))))), (13, .int (nI k2)), (10, .int (tC (k2 + 2))), (9, .int (tA (k2 + 3))), (8, .int (tA (k2 + 4))), (7, .int 0), (6, .int (-1009589776)), (5, .int 271733878), (4, .int (-1732584194)), (3, .int (-271733879)), (2, .int 1732584193), (1, .int 1), (0, .ref h0)]) hx hb dX12_firstHash_286 hl (by decide) rfl (fun ls hl => ?_)
      refine lv_iload hx hb dX12_firstHash_288 (lv_at hl 7 rfl) ?_
      refine lv_bipush (v := 30) hx hb dX12_firstHash_290 (by decide) ?_
      have hPc := hP.sub (ws' := []) [] rfl
      have hDc := hD.sub (ws' := []) [] (by decide) rfl
      have hFc := va_free (wc := []) hD hS hA [] rfl
      refine va_calli (va_runS (As := [.int (tA (k2 + 3)), .int 30]) (rest := []) ⟨hx, hb, hml, hown, hts⟩ (c_M_left l D y H.size (tA (k2 + 3)) 30) (va_cwS 2 hts gv_c_M_firstHash_c_M_left_119 rfl rfl rfl (by decide +kernel) ⟨(Nat.le_of_ble_eq_true rfl), (Nat.le_of_ble_eq_true rfl)⟩) (zB.preS hPc hDc hK hN hE hO hT hG hS hFc (fun _ h => nomatch h) (fun _ h => nomatch h) (fun _ h => nomatch h) (fun _ h => nomatch h)) rfl rfl hl.1 rfl (lv_room (Nat.le_of_ble_eq_true rfl)) dX12_firstHash_292 ⟨(Nat.le_of_ble_eq_true rfl), (Nat.le_of_ble_eq_true rfl)⟩) hS (fun q _ h => hFc q h) hFc (fun r27 u t H1 locs ht hvm hw hB hz1 hk1 hS => ?_)
      obtain ⟨hP1, hD1⟩ := hB
      rw [ht] at hP1
      obtain ⟨hP, hD⟩ := va_join (wr := [(wd, .inl (y 1, 80, .inl (zf tW1 (k2 + 1) f2))), (dg, .inl (y 1, 32, .inl f3)), (h0, .inr (16, [w1, w2, w3, w4, w5, w6, w7, w8, w9, w10, w11, w12, w13, w14, .int (nI 64), .ref ms, .ref dg, .ref wd, w15, w16, w17, w18, w19, w20, w21, w22, w23, w24, w25, w26, w27, w28, w29, w30, w31, w32, w33, w34, w35, w36, w37, w38, w39, w40, w41, w42, w43, w44, w45, w46, w47, w48, w49, w50, w51, w52, w53, w54, w55, w56, w57, w58, w59, w60])), (ms, .inl (y 1, 30000, .inl (zf tM 64 f1)))]) (w1 := []) hP hD [] [0, 1, 2, 3] rfl rfl (by decide) (by decide) hk1 hFc hP1 hD1
      generalize H1 = H at hP hS ⊢
      have hP : va_P D vwCl [(wd, .inl (y 1, 80, .inl (zf tW1 (k2 + 1) f2))), (dg, .inl (y 1, 32, .inl f3)), (h0, .inr (16, [w1, w2, w3, w4, w5, w6, w7, w8, w9, w10, w11, w12, w13, w14, .int (nI 64), .ref ms, .ref dg, .ref wd, w15, w16, w17, w18, w19, w20, w21, w22, w23, w24, w25, w26, w27, w28, w29, w30, w31, w32, w33, w34, w35, w36, w37, w38, w39, w40, w41, w42, w43, w44, w45, w46, w47, w48, w49, w50, w51, w52, w53, w54, w55, w56, w57, w58, w59, w60])), (ms, .inl (y 1, 30000, .inl (zf tM 64 f1)))] H := hP
      have hD : va_D A [(wd, .inl (y 1, 80, .inl (zf tW1 (k2 + 1) f2))), (dg, .inl (y 1, 32, .inl f3)), (h0, .inr (16, [w1, w2, w3, w4, w5, w6, w7, w8, w9, w10, w11, w12, w13, w14, .int (nI 64), .ref ms, .ref dg, .ref wd, w15, w16, w17, w18, w19, w20, w21, w22, w23, w24, w25, w26, w27, w28, w29, w30, w31, w32, w33, w34, w35, w36, w37, w38, w39, w40, w41, w42, w43, w44, w45, w46, w47, w48, w49, w50, w51, w52, w53, w54, w55, w56, w57, w58, w59, w60])), (ms, .inl (y 1, 30000, .inl (zf tM 64 f1)))] := hD
      have hw : r27 = ((tA (k2 + 3)) <<< ((30 : Int32) &&& 31)) ||| (zu (tA (k2 + 3)) ((32 : Int32) - (30 : Int32))) := hw
      subst hw
      refine lv_topi (fun v28 ev28 => ?_)
      have ev28 : v28 = tC (k2 + 3) := ev28.trans (ax_c_M_firstHash_18 k2 hk21 hk20)
      subst ev28
      refine lv_istore (lv' := [(10, .int (tC (k2 + 3))), (11, .int (tC (k2 + 2))), (12, .int (tC (k2 + 1))), (16, .int (tA (k2 + 5))), (15, .int 1518500249), (14, .int ((tC (k2 + 1)) ^^^ ((tA (k2 + 3)) &&& ((tC (k2 + 2)) ^^^ (tC (k2 + 1)))))), (13, .int (nI k2)), (9, .int (tA (k2 + 3))), (8, .int (tA (k2 + 4))), (7, .int 0), (6, .int (-1009589776)), (5, .int 271733878), (4, .int (-1732584194)), (3, .int (-271733879)), (2, .int 1732584193), (1, .int 1), (0, .ref h0)]) hx hb dX12_firstHash_295 hl (by decide) rfl (fun ls hl => ?_)
      refine lv_iload hx hb dX12_firstHash_297 (lv_at hl 8 rfl) ?_
      refine lv_istore (lv' := [(9, .int (tA (k2 + 4))), (10, .int (tC (k2 + 3))), (11, .int (tC (k2 + 2))), (12, .int (tC (k2 + 1))), (16, .int (tA (k2 + 5))), (15, .int 1518500249), (14, .int ((tC (k2 + 1)) ^^^ ((tA (k2 + 3)) &&& ((tC (k2 + 2)) ^^^ (tC (k2 + 1)))))), (13, .int (nI k2)), (8, .int (tA (k2 + 4))), (7, .int 0), (6, .int (-1009589776)), (5, .int 271733878), (4, .int (-1732584194)), (3, .int (-271733879)), (2, .int 1732584193), (1, .int 1), (0, .ref h0)]) hx hb dX12_firstHash_299 hl (by decide) rfl (fun ls hl => ?_)
      refine lv_iload hx hb dX12_firstHash_301 (lv_at hl 4 rfl) ?_
      refine lv_istore (lv' := [(8, .int (tA (k2 + 5))), (9, .int (tA (k2 + 4))), (10, .int (tC (k2 + 3))), (11, .int (tC (k2 + 2))), (12, .int (tC (k2 + 1))), (16, .int (tA (k2 + 5))), (15, .int 1518500249), (14, .int ((tC (k2 + 1)) ^^^ ((tA (k2 + 3)) &&& ((tC (k2 + 2)) ^^^ (tC (k2 + 1)))))), (13, .int (nI k2)), (7, .int 0), (6, .int (-1009589776)), (5, .int 271733878), (4, .int (-1732584194)), (3, .int (-271733879)), (2, .int 1732584193), (1, .int 1), (0, .ref h0)]) hx hb dX12_firstHash_303 hl (by decide) rfl (fun ls hl => ?_)
      refine lv_iinc (v := nI (k2 + 1)) (lv' := [(13, .int (nI (k2 + 1))), (8, .int (tA (k2 + 5))), (9, .int (tA (k2 + 4))), (10, .int (tC (k2 + 3))), (11, .int (tC (k2 + 2))), (12, .int (tC (k2 + 1))), (16, .int (tA (k2 + 5))), (15, .int 1518500249), (14, .int ((tC (k2 + 1)) ^^^ ((tA (k2 + 3)) &&& ((tC (k2 + 2)) ^^^ (tC (k2 + 1)))))), (7, .int 0), (6, .int (-1009589776)), (5, .int 271733878), (4, .int (-1732584194)), (3, .int (-271733879)), (2, .int 1732584193), (1, .int 1), (0, .ref h0)]) hx hb dX12_firstHash_305 hl (k := 8) rfl (ax_c_M_firstHash_19 k2 hk21 hk20) (by decide) rfl (fun ls hl => ?_)
      refine lv_goto (tgt := 53) hx hb dX12_firstHash_308 (by decide) ?_
      exact ih ls H locs ⟨hP, hD, hS, lv_sub hl [0, 5, 4, 3, 2, 1, 9, 10, 11, 12, 13, 14, 15, 16] rfl⟩
    · obtain ⟨hP, hD, hS, hl⟩ := hI
      have hl : lv_has ls 17 [(13, .int (nI 20)), (12, .int (tC 20)), (11, .int (tC 21)), (10, .int (tC 22)), (9, .int (tA 23)), (8, .int (tA 24)), (7, .int 0), (6, .int (-1009589776)), (5, .int 271733878), (4, .int (-1732584194)), (3, .int (-271733879)), (2, .int 1732584193), (1, .int 1), (0, .ref h0)] := hl
      have hP : va_P D vwCl [(wd, .inl (y 1, 80, .inl (zf tW1 20 f2))), (dg, .inl (y 1, 32, .inl f3)), (h0, .inr (16, [w1, w2, w3, w4, w5, w6, w7, w8, w9, w10, w11, w12, w13, w14, .int (nI 64), .ref ms, .ref dg, .ref wd, w15, w16, w17, w18, w19, w20, w21, w22, w23, w24, w25, w26, w27, w28, w29, w30, w31, w32, w33, w34, w35, w36, w37, w38, w39, w40, w41, w42, w43, w44, w45, w46, w47, w48, w49, w50, w51, w52, w53, w54, w55, w56, w57, w58, w59, w60])), (ms, .inl (y 1, 30000, .inl (zf tM 64 f1)))] H := hP
      have hD : va_D A [(wd, .inl (y 1, 80, .inl (zf tW1 20 f2))), (dg, .inl (y 1, 32, .inl f3)), (h0, .inr (16, [w1, w2, w3, w4, w5, w6, w7, w8, w9, w10, w11, w12, w13, w14, .int (nI 64), .ref ms, .ref dg, .ref wd, w15, w16, w17, w18, w19, w20, w21, w22, w23, w24, w25, w26, w27, w28, w29, w30, w31, w32, w33, w34, w35, w36, w37, w38, w39, w40, w41, w42, w43, w44, w45, w46, w47, w48, w49, w50, w51, w52, w53, w54, w55, w56, w57, w58, w59, w60])), (ms, .inl (y 1, 30000, .inl (zf tM 64 f1)))] := hD
      have hl : lv_has ls 17 [(13, .int (nI 20)), (12, .int (tC 20)), (11, .int (tC 21)), (10, .int (tC 22)), (9, .int (tA 23)), (8, .int (tA 24)), (7, .int 0), (6, .int (-1009589776)), (5, .int 271733878), (4, .int (-1732584194)), (3, .int (-271733879)), (2, .int 1732584193), (1, .int 1), (0, .ref h0)] := lv_sub hl [0, 1, 2, 3, 4, 5, 6, 7, 8, 9, 10, 11, 12, 13] rfl
      refine zz_loop (I := fun (k3 : Nat) (ls : Array Slot) (H : Heap) (locs : List Loc) => va_P D vwCl [(wd, .inl (y 1, 80, .inl (zf tW1 k3 f2))), (dg, .inl (y 1, 32, .inl f3)), (h0, .inr (16, [w1, w2, w3, w4, w5, w6, w7, w8, w9, w10, w11, w12, w13, w14, .int (nI 64), .ref ms, .ref dg, .ref wd, w15, w16, w17, w18, w19, w20, w21, w22, w23, w24, w25, w26, w27, w28, w29, w30, w31, w32, w33, w34, w35, w36, w37, w38, w39, w40, w41, w42, w43, w44, w45, w46, w47, w48, w49, w50, w51, w52, w53, w54, w55, w56, w57, w58, w59, w60])), (ms, .inl (y 1, 30000, .inl (zf tM 64 f1)))] H ∧ va_D A [(wd, .inl (y 1, 80, .inl (zf tW1 k3 f2))), (dg, .inl (y 1, 32, .inl f3)), (h0, .inr (16, [w1, w2, w3, w4, w5, w6, w7, w8, w9, w10, w11, w12, w13, w14, .int (nI 64), .ref ms, .ref dg, .ref wd, w15, w16, w17, w18, w19, w20, w21, w22, w23, w24, w25, w26, w27, w28, w29, w30, w31, w32, w33, w34, w35, w36, w37, w38, w39, w40, w41, w42, w43, w44, w45, w46, w47, w48, w49, w50, w51, w52, w53, w54, w55, w56, w57, w58, w59, w60])), (ms, .inl (y 1, 30000, .inl (zf tM 64 f1)))] ∧ va_S A s.heap H locs ∧ lv_has ls 17 [(13, .int (nI k3)), (12, .int (tC k3)), (11, .int (tC (k3 + 1))), (10, .int (tC (k3 + 2))), (9, .int (tA (k3 + 3))), (8, .int (tA (k3 + 4))), (7, .int 0), (6, .int (-1009589776)), (5, .int 271733878), (4, .int (-1732584194)), (3, .int (-271733879)), (2, .int 1732584193), (1, .int 1), (0, .ref h0)]) 20 40 (by decide) ⟨hP, hD, hS, hl⟩ (fun k3 ls H locs hk30 hk31 hI ih => ?_) (fun ls H locs hI => ?_)
      · obtain ⟨hP, hD, hS, hl⟩ := hI
        have hl : lv_has ls 17 [(13, .int (nI k3)), (12, .int (tC k3)), (11, .int (tC (k3 + 1))), (10, .int (tC (k3 + 2))), (9, .int (tA (k3 + 3))), (8, .int (tA (k3 + 4))), (7, .int 0), (6, .int (-1009589776)), (5, .int 271733878), (4, .int (-1732584194)), (3, .int (-271733879)), (2, .int 1732584193), (1, .int 1), (0, .ref h0)] := hl
        have hP : va_P D vwCl [(wd, .inl (y 1, 80, .inl (zf tW1 k3 f2))), (dg, .inl (y 1, 32, .inl f3)), (h0, .inr (16, [w1, w2, w3, w4, w5, w6, w7, w8, w9, w10, w11, w12, w13, w14, .int (nI 64), .ref ms, .ref dg, .ref wd, w15, w16, w17, w18, w19, w20, w21, w22, w23, w24, w25, w26, w27, w28, w29, w30, w31, w32, w33, w34, w35, w36, w37, w38, w39, w40, w41, w42, w43, w44, w45, w46, w47, w48, w49, w50, w51, w52, w53, w54, w55, w56, w57, w58, w59, w60])), (ms, .inl (y 1, 30000, .inl (zf tM 64 f1)))] H := hP
        have hD : va_D A [(wd, .inl (y 1, 80, .inl (zf tW1 k3 f2))), (dg, .inl (y 1, 32, .inl f3)), (h0, .inr (16, [w1, w2, w3, w4, w5, w6, w7, w8, w9, w10, w11, w12, w13, w14, .int (nI 64), .ref ms, .ref dg, .ref wd, w15, w16, w17, w18, w19, w20, w21, w22, w23, w24, w25, w26, w27, w28, w29, w30, w31, w32, w33, w34, w35, w36, w37, w38, w39, w40, w41, w42, w43, w44, w45, w46, w47, w48, w49, w50, w51, w52, w53, w54, w55, w56, w57, w58, w59, w60])), (ms, .inl (y 1, 30000, .inl (zf tM 64 f1)))] := hD
        refine lv_iload hx hb dX12_firstHash_53 (lv_at hl 0 rfl) ?_
        refine lv_bipush (v := 80) hx hb dX12_firstHash_55 (by decide) ?_
        refine lv_icmp_ge (tgt := 311) hx hb dX12_firstHash_57 (by decide) (fun c9 => absurd c9 (ax_c_M_firstHash_20 k3 hk31 hk30)) (fun _ => ?_)
        refine lv_aload_n hx hb dX12_firstHash_60 rfl (lv_at hl 13 rfl) ?_
        refine va_get (D := D) (ci := 16) (v := .ref wd) (C := RX12) (T := TX12) (N := 64) hx hb hts (by decide +kernel) hown hK hP 2 rfl rfl 17 (by decide) (hts (.fieldLink RX12 46 "SignetRingModel" "words" "[I") (by decide +kernel)) (fun _ h9 => h9) rfl dX12_firstHash_61 ?_
        refine lv_iload hx hb dX12_firstHash_64 (lv_at hl 0 rfl) ?_
        refine lv_iload hx hb dX12_firstHash_66 (lv_at hl 0 rfl) ?_
        refine lv_bipush (v := 16) hx hb dX12_firstHash_68 (by decide) ?_
        refine lv_icmp_ge (tgt := 95) hx hb dX12_firstHash_70 (by decide) (fun _ => ?_) (fun c9 => absurd (ax_c_M_firstHash_21 k3 hk31 hk30) c9)
        refine lv_aload_n hx hb dX12_firstHash_95 rfl (lv_at hl 13 rfl) ?_
        refine va_get (D := D) (ci := 16) (v := .ref wd) (C := RX12) (T := TX12) (N := 64) hx hb hts (by decide +kernel) hown hK hP 2 rfl rfl 17 (by decide) (hts (.fieldLink RX12 46 "SignetRingModel" "words" "[I") (by decide +kernel)) (fun _ h9 => h9) rfl dX12_firstHash_96 ?_
        refine lv_iload hx hb dX12_firstHash_99 (lv_at hl 0 rfl) ?_
        refine lv_iconst (v := 3) hx hb dX12_firstHash_101 (by decide) ?_
        refine lv_isub hx hb dX12_firstHash_102 ?_
        refine lv_topi (fun v29 ev29 => ?_)
        have ev29 : v29 = nI (k3 - 3) := ev29.trans (ax_c_M_firstHash_22 k3 hk31 hk30)
        subst ev29
        refine va_iald hx hb hK hP 0 1 rfl rfl (vp_in_nI (by omega) (by decide)) dX12_firstHash_103 ?_
        refine lv_topi (fun v30 ev30 => ?_)
        have ev30 : v30 = tW1 (k3 - 3) := ev30.trans (zf_rd (j := (k3 - 3)) (by omega) (by omega))
        subst ev30
        refine lv_aload_n hx hb dX12_firstHash_104 rfl (lv_at hl 13 rfl) ?_
        refine va_get (D := D) (ci := 16) (v := .ref wd) (C := RX12) (T := TX12) (N := 64) hx hb hts (by decide +kernel) hown hK hP 2 rfl rfl 17 (by decide) (hts (.fieldLink RX12 46 "SignetRingModel" "words" "[I") (by decide +kernel)) (fun _ h9 => h9) rfl dX12_firstHash_105 ?_
        refine lv_iload hx hb dX12_firstHash_108 (lv_at hl 0 rfl) ?_
        refine lv_bipush (v := 8) hx hb dX12_firstHash_110 (by decide) ?_
        refine lv_isub hx hb dX12_firstHash_112 ?_
        refine lv_topi (fun v31 ev31 => ?_)
        have ev31 : v31 = nI (k3 - 8) := ev31.trans (ax_c_M_firstHash_23 k3 hk31 hk30)
        subst ev31
        refine va_iald hx hb hK hP 0 1 rfl rfl (vp_in_nI (by omega) (by decide)) dX12_firstHash_113 ?_
        refine lv_topi (fun v32 ev32 => ?_)
        have ev32 : v32 = tW1 (k3 - 8) := ev32.trans (zf_rd (j := (k3 - 8)) (by omega) (by omega))
        subst ev32
        refine lv_ixor hx hb dX12_firstHash_114 ?_
        refine lv_aload_n hx hb dX12_firstHash_115 rfl (lv_at hl 13 rfl) ?_
        refine va_get (D := D) (ci := 16) (v := .ref wd) (C := RX12) (T := TX12) (N := 64) hx hb hts (by decide +kernel) hown hK hP 2 rfl rfl 17 (by decide) (hts (.fieldLink RX12 46 "SignetRingModel" "words" "[I") (by decide +kernel)) (fun _ h9 => h9) rfl dX12_firstHash_116 ?_
        refine lv_iload hx hb dX12_firstHash_119 (lv_at hl 0 rfl) ?_
        refine lv_bipush (v := 14) hx hb dX12_firstHash_121 (by decide) ?_
        refine lv_isub hx hb dX12_firstHash_123 ?_
        refine lv_topi (fun v33 ev33 => ?_)
        have ev33 : v33 = nI (k3 - 14) := ev33.trans (ax_c_M_firstHash_24 k3 hk31 hk30)
        subst ev33
        refine va_iald hx hb hK hP 0 1 rfl rfl (vp_in_nI (by omega) (by decide)) dX12_firstHash_124 ?_
        refine lv_topi (fun v34 ev34 => ?_)
        have ev34 : v34 = tW1 (k3 - 14) := ev34.trans (zf_rd (j := (k3 - 14)) (by omega) (by omega))
        subst ev34
        refine lv_ixor hx hb dX12_firstHash_125 ?_
        refine lv_aload_n hx hb dX12_firstHash_126 rfl (lv_at hl 13 rfl) ?_
        refine va_get (D := D) (ci := 16) (v := .ref wd) (C := RX12) (T := TX12) (N := 64) hx hb hts (by decide +kernel) hown hK hP 2 rfl rfl 17 (by decide) (hts (.fieldLink RX12 46 "SignetRingModel" "words" "[I") (by decide +kernel)) (fun _ h9 => h9) rfl dX12_firstHash_127 ?_
        refine lv_iload hx hb dX12_firstHash_130 (lv_at hl 0 rfl) ?_
        refine lv_bipush (v := 16) hx hb dX12_firstHash_132 (by decide) ?_
        refine lv_isub hx hb dX12_firstHash_134 ?_
        refine lv_topi (fun v35 ev35 => ?_)
        have ev35 : v35 = nI (k3 - 16) := ev35.trans (ax_c_M_firstHash_25 k3 hk31 hk30)
        subst ev35
        refine va_iald hx hb hK hP 0 1 rfl rfl (vp_in_nI (by omega) (by decide)) dX12_firstHash_135 ?_
        refine lv_topi (fun v36 ev36 => ?_)
        have ev36 : v36 = tW1 (k3 - 16) := ev36.trans (zf_rd (j := (k3 - 16)) (by omega) (by omega))
        subst ev36
        refine lv_ixor hx hb dX12_firstHash_136 ?_
        refine lv_iconst (v := 1) hx hb dX12_firstHash_137 (by decide) ?_
        have hPc := hP.sub (ws' := []) [] rfl
        have hDc := hD.sub (ws' := []) [] (by decide) rfl
        have hFc := va_free (wc := []) hD hS hA [] rfl
        refine va_calli (va_runS (As := [.int ((((tW1 (k3 - 3)) ^^^ (tW1 (k3 - 8))) ^^^ (tW1 (k3 - 14))) ^^^ (tW1 (k3 - 16))), .int 1]) (rest := [.int (nI k3), .ref wd]) ⟨hx, hb, hml, hown, hts⟩ (c_M_left l D y H.size ((((tW1 (k3 - 3)) ^^^ (tW1 (k3 - 8))) ^^^ (tW1 (k3 - 14))) ^^^ (tW1 (k3 - 16))) 1) (va_cwS 2 hts gv_c_M_firstHash_c_M_left_119 rfl rfl rfl (by decide +kernel) ⟨(Nat.le_of_ble_eq_true rfl), (Nat.le_of_ble_eq_true rfl)⟩) (zB.preS hPc hDc hK hN hE hO hT hG hS hFc (fun _ h => nomatch h) (fun _ h => nomatch h) (fun _ h => nomatch h) (fun _ h => nomatch h)) rfl rfl hl.1 rfl (lv_room (Nat.le_of_ble_eq_true rfl)) dX12_firstHash_138 ⟨(Nat.le_of_ble_eq_true rfl), (Nat.le_of_ble_eq_true rfl)⟩) hS (fun q _ h => hFc q h) hFc (fun r37 u t H1 locs ht hvm hw hB hz1 hk1 hS => ?_)
        obtain ⟨hP1, hD1⟩ := hB
        rw [ht] at hP1
        obtain ⟨hP, hD⟩ := va_join (wr := [(wd, .inl (y 1, 80, .inl (zf tW1 k3 f2))), (dg, .inl (y 1, 32, .inl f3)), (h0, .inr (16, [w1, w2, w3, w4, w5, w6, w7, w8, w9, w10, w11, w12, w13, w14, .int (nI 64), .ref ms, .ref dg, .ref wd, w15, w16, w17, w18, w19, w20, w21, w22, w23, w24, w25, w26, w27, w28, w29, w30, w31, w32, w33, w34, w35, w36, w37, w38, w39, w40, w41, w42, w43, w44, w45, w46, w47, w48, w49, w50, w51, w52, w53, w54, w55, w56, w57, w58, w59, w60])), (ms, .inl (y 1, 30000, .inl (zf tM 64 f1)))]) (w1 := []) hP hD [] [0, 1, 2, 3] rfl rfl (by decide) (by decide) hk1 hFc hP1 hD1
        generalize H1 = H at hP hS ⊢
        have hP : va_P D vwCl [(wd, .inl (y 1, 80, .inl (zf tW1 k3 f2))), (dg, .inl (y 1, 32, .inl f3)), (h0, .inr (16, [w1, w2, w3, w4, w5, w6, w7, w8, w9, w10, w11, w12, w13, w14, .int (nI 64), .ref ms, .ref dg, .ref wd, w15, w16, w17, w18, w19, w20, w21, w22, w23, w24, w25, w26, w27, w28, w29, w30, w31, w32, w33, w34, w35, w36, w37, w38, w39, w40, w41, w42, w43, w44, w45, w46, w47, w48, w49, w50, w51, w52, w53, w54, w55, w56, w57, w58, w59, w60])), (ms, .inl (y 1, 30000, .inl (zf tM 64 f1)))] H := hP
        have hD : va_D A [(wd, .inl (y 1, 80, .inl (zf tW1 k3 f2))), (dg, .inl (y 1, 32, .inl f3)), (h0, .inr (16, [w1, w2, w3, w4, w5, w6, w7, w8, w9, w10, w11, w12, w13, w14, .int (nI 64), .ref ms, .ref dg, .ref wd, w15, w16, w17, w18, w19, w20, w21, w22, w23, w24, w25, w26, w27, w28, w29, w30, w31, w32, w33, w34, w35, w36, w37, w38, w39, w40, w41, w42, w43, w44, w45, w46, w47, w48, w49, w50, w51, w52, w53, w54, w55, w56, w57, w58, w59, w60])), (ms, .inl (y 1, 30000, .inl (zf tM 64 f1)))] := hD
        have hw : r37 = (((((tW1 (k3 - 3)) ^^^ (tW1 (k3 - 8))) ^^^ (tW1 (k3 - 14))) ^^^ (tW1 (k3 - 16))) <<< ((1 : Int32) &&& 31)) ||| (zu ((((tW1 (k3 - 3)) ^^^ (tW1 (k3 - 8))) ^^^ (tW1 (k3 - 14))) ^^^ (tW1 (k3 - 16))) ((32 : Int32) - (1 : Int32))) := hw
        subst hw
        refine lv_topi (fun v38 ev38 => ?_)
        have ev38 : v38 = tW1 k3 := ev38.trans (ax_c_M_firstHash_26 k3 hk31 hk30)
        subst ev38
        refine va_iast hx hb hK hP hD hS 0 1 rfl rfl (vp_in_nI (by omega) (by decide)) dX12_firstHash_141 (fun H locs hP hD hS => ?_)
        have hP : va_P D vwCl [(wd, .inl (y 1, 80, .inl (upd (zf tW1 k3 f2) (nI k3).toNatClampNeg (tW1 k3)))), (dg, .inl (y 1, 32, .inl f3)), (h0, .inr (16, [w1, w2, w3, w4, w5, w6, w7, w8, w9, w10, w11, w12, w13, w14, .int (nI 64), .ref ms, .ref dg, .ref wd, w15, w16, w17, w18, w19, w20, w21, w22, w23, w24, w25, w26, w27, w28, w29, w30, w31, w32, w33, w34, w35, w36, w37, w38, w39, w40, w41, w42, w43, w44, w45, w46, w47, w48, w49, w50, w51, w52, w53, w54, w55, w56, w57, w58, w59, w60])), (ms, .inl (y 1, 30000, .inl (zf tM 64 f1)))] H := hP
        have hD : va_D A [(wd, .inl (y 1, 80, .inl (upd (zf tW1 k3 f2) (nI k3).toNatClampNeg (tW1 k3)))), (dg, .inl (y 1, 32, .inl f3)), (h0, .inr (16, [w1, w2, w3, w4, w5, w6, w7, w8, w9, w10, w11, w12, w13, w14, .int (nI 64), .ref ms, .ref dg, .ref wd, w15, w16, w17, w18, w19, w20, w21, w22, w23, w24, w25, w26, w27, w28, w29, w30, w31, w32, w33, w34, w35, w36, w37, w38, w39, w40, w41, w42, w43, w44, w45, w46, w47, w48, w49, w50, w51, w52, w53, w54, w55, w56, w57, w58, w59, w60])), (ms, .inl (y 1, 30000, .inl (zf tM 64 f1)))] := hD
        have u39 : upd (zf tW1 k3 f2) (nI k3).toNatClampNeg (tW1 k3) = zf tW1 (k3 + 1) f2 := (zf_st (n := k3) (by omega) rfl)
        rw [u39] at hP hD
        have hP : va_P D vwCl [(wd, .inl (y 1, 80, .inl (zf tW1 (k3 + 1) f2))), (dg, .inl (y 1, 32, .inl f3)), (h0, .inr (16, [w1, w2, w3, w4, w5, w6, w7, w8, w9, w10, w11, w12, w13, w14, .int (nI 64), .ref ms, .ref dg, .ref wd, w15, w16, w17, w18, w19, w20, w21, w22, w23, w24, w25, w26, w27, w28, w29, w30, w31, w32, w33, w34, w35, w36, w37, w38, w39, w40, w41, w42, w43, w44, w45, w46, w47, w48, w49, w50, w51, w52, w53, w54, w55, w56, w57, w58, w59, w60])), (ms, .inl (y 1, 30000, .inl (zf tM 64 f1)))] H := hP
        have hD : va_D A [(wd, .inl (y 1, 80, .inl (zf tW1 (k3 + 1) f2))), (dg, .inl (y 1, 32, .inl f3)), (h0, .inr (16, [w1, w2, w3, w4, w5, w6, w7, w8, w9, w10, w11, w12, w13, w14, .int (nI 64), .ref ms, .ref dg, .ref wd, w15, w16, w17, w18, w19, w20, w21, w22, w23, w24, w25, w26, w27, w28, w29, w30, w31, w32, w33, w34, w35, w36, w37, w38, w39, w40, w41, w42, w43, w44, w45, w46, w47, w48, w49, w50, w51, w52, w53, w54, w55, w56, w57, w58, w59, w60])), (ms, .inl (y 1, 30000, .inl (zf tM 64 f1)))] := hD
        refine lv_iload hx hb dX12_firstHash_142 (lv_at hl 0 rfl) ?_
        refine lv_bipush (v := 20) hx hb dX12_firstHash_144 (by decide) ?_
        refine lv_icmp_ge (tgt := 163) hx hb dX12_firstHash_146 (by decide) (fun _ => ?_) (fun c9 => absurd (ax_c_M_firstHash_27 k3 hk31 hk30) c9)
        refine lv_iload hx hb dX12_firstHash_163 (lv_at hl 0 rfl) ?_
        refine lv_bipush (v := 40) hx hb dX12_firstHash_165 (by decide) ?_
        refine lv_icmp_ge (tgt := 181) hx hb dX12_firstHash_167 (by decide) (fun c9 => absurd c9 (ax_c_M_firstHash_28 k3 hk31 hk30)) (fun _ => ?_)
        refine lv_iload hx hb dX12_firstHash_170 (lv_at hl 4 rfl) ?_
        refine lv_iload hx hb dX12_firstHash_172 (lv_at hl 3 rfl) ?_
        refine lv_ixor hx hb dX12_firstHash_174 ?_
        refine lv_iload hx hb dX12_firstHash_175 (lv_at hl 2 rfl) ?_
        refine lv_ixor hx hb dX12_firstHash_177 ?_
        refine lv_goto (tgt := 213) hx hb dX12_firstHash_178 (by decide) ?_
        refine lv_istore (lv' := [(14, .int (((tA (k3 + 3)) ^^^ (tC (k3 + 2))) ^^^ (tC (k3 + 1)))), (13, .int (nI k3)), (12, .int (tC k3)), (11, .int (tC (k3 + 1))), (10, .int (tC (k3 + 2))), (9, .int (tA (k3 + 3))), (8, .int (tA (k3 + 4))), (7, .int 0), (6, .int (-1009589776)), (5, .int 271733878), (4, .int (-1732584194)), (3, .int (-271733879)), (2, .int 1732584193), (1, .int 1), (0, .ref h0)]) hx hb dX12_firstHash_213 hl (by decide) rfl (fun ls hl => ?_)
        refine lv_iload hx hb dX12_firstHash_215 (lv_at hl 1 rfl) ?_
        refine lv_bipush (v := 20) hx hb dX12_firstHash_217 (by decide) ?_
        refine lv_icmp_ge (tgt := 227) hx hb dX12_firstHash_219 (by decide) (fun _ => ?_) (fun c9 => absurd (ax_c_M_firstHash_27 k3 hk31 hk30) c9)
        refine lv_iload hx hb dX12_firstHash_227 (lv_at hl 1 rfl) ?_
        refine lv_bipush (v := 40) hx hb dX12_firstHash_229 (by decide) ?_
        refine lv_icmp_ge (tgt := 239) hx hb dX12_firstHash_231 (by decide) (fun c9 => absurd c9 (ax_c_M_firstHash_28 k3 hk31 hk30)) (fun _ => ?_)
        refine lv_ldc (v := 1859775393) hx hb hown (hts (.constant RX12 124 1859775393) (by decide +kernel)) dX12_firstHash_234 ?_
        refine lv_goto (tgt := 253) hx hb dX12_firstHash_236 (by decide) ?_
        refine lv_istore (lv' := [(15, .int 1859775393), (14, .int (((tA (k3 + 3)) ^^^ (tC (k3 + 2))) ^^^ (tC (k3 + 1)))), (13, .int (nI k3)), (12, .int (tC k3)), (11, .int (tC (k3 + 1))), (10, .int (tC (k3 + 2))), (9, .int (tA (k3 + 3))), (8, .int (tA (k3 + 4))), (7, .int 0), (6, .int (-1009589776)), (5, .int 271733878), (4, .int (-1732584194)), (3, .int (-271733879)), (2, .int 1732584193), (1, .int 1), (0, .ref h0)]) hx hb dX12_firstHash_253 hl (by decide) rfl (fun ls hl => ?_)
        refine lv_iload hx hb dX12_firstHash_255 (lv_at hl 7 rfl) ?_
        refine lv_iconst (v := 5) hx hb dX12_firstHash_257 (by decide) ?_
        have hPc := hP.sub (ws' := []) [] rfl
        have hDc := hD.sub (ws' := []) [] (by decide) rfl
        have hFc := va_free (wc := []) hD hS hA [] rfl
        refine va_calli (va_runS (As := [.int (tA (k3 + 4)), .int 5]) (rest := []) ⟨hx, hb, hml, hown, hts⟩ (c_M_left l D y H.size (tA (k3 + 4)) 5) (va_cwS 2 hts gv_c_M_firstHash_c_M_left_119 rfl rfl rfl (by decide +kernel) ⟨(Nat.le_of_ble_eq_true rfl), (Nat.le_of_ble_eq_true rfl)⟩) (zB.preS hPc hDc hK hN hE hO hT hG hS hFc (fun _ h => nomatch h) (fun _ h => nomatch h) (fun _ h => nomatch h) (fun _ h => nomatch h)) rfl rfl hl.1 rfl (lv_room (Nat.le_of_ble_eq_true rfl)) dX12_firstHash_258 ⟨(Nat.le_of_ble_eq_true rfl), (Nat.le_of_ble_eq_true rfl)⟩) hS (fun q _ h => hFc q h) hFc (fun r40 u t H1 locs ht hvm hw hB hz1 hk1 hS => ?_)
        obtain ⟨hP1, hD1⟩ := hB
        rw [ht] at hP1
        obtain ⟨hP, hD⟩ := va_join (wr := [(wd, .inl (y 1, 80, .inl (zf tW1 (k3 + 1) f2))), (dg, .inl (y 1, 32, .inl f3)), (h0, .inr (16, [w1, w2, w3, w4, w5, w6, w7, w8, w9, w10, w11, w12, w13, w14, .int (nI 64), .ref ms, .ref dg, .ref wd, w15, w16, w17, w18, w19, w20, w21, w22, w23, w24, w25, w26, w27, w28, w29, w30, w31, w32, w33, w34, w35, w36, w37, w38, w39, w40, w41, w42, w43, w44, w45, w46, w47, w48, w49, w50, w51, w52, w53, w54, w55, w56, w57, w58, w59, w60])), (ms, .inl (y 1, 30000, .inl (zf tM 64 f1)))]) (w1 := []) hP hD [] [0, 1, 2, 3] rfl rfl (by decide) (by decide) hk1 hFc hP1 hD1
        generalize H1 = H at hP hS ⊢
        have hP : va_P D vwCl [(wd, .inl (y 1, 80, .inl (zf tW1 (k3 + 1) f2))), (dg, .inl (y 1, 32, .inl f3)), (h0, .inr (16, [w1, w2, w3, w4, w5, w6, w7, w8, w9, w10, w11, w12, w13, w14, .int (nI 64), .ref ms, .ref dg, .ref wd, w15, w16, w17, w18, w19, w20, w21, w22, w23, w24, w25, w26, w27, w28, w29, w30, w31, w32, w33, w34, w35, w36, w37, w38, w39, w40, w41, w42, w43, w44, w45, w46, w47, w48, w49, w50, w51, w52, w53, w54, w55, w56, w57, w58, w59, w60])), (ms, .inl (y 1, 30000, .inl (zf tM 64 f1)))] H := hP
        have hD : va_D A [(wd, .inl (y 1, 80, .inl (zf tW1 (k3 + 1) f2))), (dg, .inl (y 1, 32, .inl f3)), (h0, .inr (16, [w1, w2, w3, w4, w5, w6, w7, w8, w9, w10, w11, w12, w13, w14, .int (nI 64), .ref ms, .ref dg, .ref wd, w15, w16, w17, w18, w19, w20, w21, w22, w23, w24, w25, w26, w27, w28, w29, w30, w31, w32, w33, w34, w35, w36, w37, w38, w39, w40, w41, w42, w43, w44, w45, w46, w47, w48, w49, w50, w51, w52, w53, w54, w55, w56, w57, w58, w59, w60])), (ms, .inl (y 1, 30000, .inl (zf tM 64 f1)))] := hD
        have hw : r40 = ((tA (k3 + 4)) <<< ((5 : Int32) &&& 31)) ||| (zu (tA (k3 + 4)) ((32 : Int32) - (5 : Int32))) := hw
        subst hw
        refine lv_iload hx hb dX12_firstHash_261 (lv_at hl 1 rfl) ?_
        refine lv_iadd hx hb dX12_firstHash_263 ?_
        refine lv_iload hx hb dX12_firstHash_264 (lv_at hl 3 rfl) ?_
        refine lv_iadd hx hb dX12_firstHash_266 ?_
        refine lv_iload hx hb dX12_firstHash_267 (lv_at hl 0 rfl) ?_
        refine lv_iadd hx hb dX12_firstHash_269 ?_
        refine lv_aload_n hx hb dX12_firstHash_270 rfl (lv_at hl 15 rfl) ?_
        refine va_get (D := D) (ci := 16) (v := .ref wd) (C := RX12) (T := TX12) (N := 64) hx hb hts (by decide +kernel) hown hK hP 2 rfl rfl 17 (by decide) (hts (.fieldLink RX12 46 "SignetRingModel" "words" "[I") (by decide +kernel)) (fun _ h9 => h9) rfl dX12_firstHash_271 ?_
        refine lv_iload hx hb dX12_firstHash_274 (lv_at hl 2 rfl) ?_
        refine va_iald hx hb hK hP 0 1 rfl rfl (vp_in_nI (by omega) (by decide)) dX12_firstHash_276 ?_
        refine lv_topi (fun v41 ev41 => ?_)
        have ev41 : v41 = tW1 k3 := ev41.trans (zf_rd (j := k3) (by omega) (by omega))
        subst ev41
        refine lv_iadd hx hb dX12_firstHash_277 ?_
        refine lv_topi (fun v42 ev42 => ?_)
        have ev42 : v42 = tA (k3 + 5) := ev42.trans (ax_c_M_firstHash_29 k3 hk31 hk30)
        subst ev42
        refine lv_istore (lv' := [(16, .int (tA (k3 + 5))), (15, .int 1859775393), (14, .int (((tA (k3 + 3)) ^^^ (tC (k3 + 2))) ^^^ (tC (k3 + 1)))), (13, .int (nI k3)), (12, .int (tC k3)), (11, .int (tC (k3 + 1))), (10, .int (tC (k3 + 2))), (9, .int (tA (k3 + 3))), (8, .int (tA (k3 + 4))), (7, .int 0), (6, .int (-1009589776)), (5, .int 271733878), (4, .int (-1732584194)), (3, .int (-271733879)), (2, .int 1732584193), (1, .int 1), (0, .ref h0)]) hx hb dX12_firstHash_278 hl (by decide) rfl (fun ls hl => ?_)
        refine lv_iload hx hb dX12_firstHash_280 (lv_at hl 5 rfl) ?_
        refine lv_istore (lv' := [(12, .int (tC (k3 + 1))), (16, .int (tA (k3 + 5))), (15, .int 1859775393), (14, .int (((tA (k3 + 3)) ^^^ (tC (k3 + 2))) ^^^ (tC (k3 + 1)))), (13, .int (nI k3)), (11, .int (tC (k3 + 1))), (10, .int (tC (k3 + 2))), (9, .int (tA (k3 + 3))), (8, .int (tA (k3 + 4))), (7, .int 0), (6, .int (-1009589776)), (5, .int 271733878), (4, .int (-1732584194)), (3, .int (-271733879)), (2, .int 1732584193), (1, .int 1), (0, .ref h0)]) hx hb dX12_firstHash_282 hl (by decide) rfl (fun ls hl => ?_)
        refine lv_iload hx hb dX12_firstHash_284 (lv_at hl 6 rfl) ?_
        refine lv_istore (lv' := [(11, .int (tC (k3 + 2))), (12, .int (tC (k3 + 1))), (16, .int (tA (k3 + 5))), (15, .int 1859775393), (14, .int (((tA (k3 + 3)) ^^^ (tC (k3 + 2))) ^^^ (tC (k3 + 1)))), (13, .int (nI k3)), (10, .int (tC (k3 + 2))), (9, .int (tA (k3 + 3))), (8, .int (tA (k3 + 4))), (7, .int 0), (6, .int (-1009589776)), (5, .int 271733878), (4, .int (-1732584194)), (3, .int (-271733879)), (2, .int 1732584193), (1, .int 1), (0, .ref h0)]) hx hb dX12_firstHash_286 hl (by decide) rfl (fun ls hl => ?_)
        refine lv_iload hx hb dX12_firstHash_288 (lv_at hl 7 rfl) ?_
        refine lv_bipush (v := 30) hx hb dX12_firstHash_290 (by decide) ?_
        have hPc := hP.sub (ws' := []) [] rfl
        have hDc := hD.sub (ws' := []) [] (by decide) rfl
        have hFc := va_free (wc := []) hD hS hA [] rfl
        refine va_calli (va_runS (As := [.int (tA (k3 + 3)), .int 30]) (rest := []) ⟨hx, hb, hml, hown, hts⟩ (c_M_left l D y H.size (tA (k3 + 3)) 30) (va_cwS 2 hts gv_c_M_firstHash_c_M_left_119 rfl rfl rfl (by decide +kernel) ⟨(Nat.le_of_ble_eq_true rfl), (Nat.le_of_ble_eq_true rfl)⟩) (zB.preS hPc hDc hK hN hE hO hT hG hS hFc (fun _ h => nomatch h) (fun _ h => nomatch h) (fun _ h => nomatch h) (fun _ h => nomatch h)) rfl rfl hl.1 rfl (lv_room (Nat.le_of_ble_eq_true rfl)) dX12_firstHash_292 ⟨(Nat.le_of_ble_eq_true rfl), (Nat.le_of_ble_eq_true rfl)⟩) hS (fun q _ h => hFc q h) hFc (fun r43 u t H1 locs ht hvm hw hB hz1 hk1 hS => ?_)
        obtain ⟨hP1, hD1⟩ := hB
        rw [ht] at hP1
        obtain ⟨hP, hD⟩ := va_join (wr := [(wd, .inl (y 1, 80, .inl (zf tW1 (k3 + 1) f2))), (dg, .inl (y 1, 32, .inl f3)), (h0, .inr (16, [w1, w2, w3, w4, w5, w6, w7, w8, w9, w10, w11, w12, w13, w14, .int (nI 64), .ref ms, .ref dg, .ref wd, w15, w16, w17, w18, w19, w20, w21, w22, w23, w24, w25, w26, w27, w28, w29, w30, w31, w32, w33, w34, w35, w36, w37, w38, w39, w40, w41, w42, w43, w44, w45, w46, w47, w48, w49, w50, w51, w52, w53, w54, w55, w56, w57, w58, w59, w60])), (ms, .inl (y 1, 30000, .inl (zf tM 64 f1)))]) (w1 := []) hP hD [] [0, 1, 2, 3] rfl rfl (by decide) (by decide) hk1 hFc hP1 hD1
        generalize H1 = H at hP hS ⊢
        have hP : va_P D vwCl [(wd, .inl (y 1, 80, .inl (zf tW1 (k3 + 1) f2))), (dg, .inl (y 1, 32, .inl f3)), (h0, .inr (16, [w1, w2, w3, w4, w5, w6, w7, w8, w9, w10, w11, w12, w13, w14, .int (nI 64), .ref ms, .ref dg, .ref wd, w15, w16, w17, w18, w19, w20, w21, w22, w23, w24, w25, w26, w27, w28, w29, w30, w31, w32, w33, w34, w35, w36, w37, w38, w39, w40, w41, w42, w43, w44, w45, w46, w47, w48, w49, w50, w51, w52, w53, w54, w55, w56, w57, w58, w59, w60])), (ms, .inl (y 1, 30000, .inl (zf tM 64 f1)))] H := hP
        have hD : va_D A [(wd, .inl (y 1, 80, .inl (zf tW1 (k3 + 1) f2))), (dg, .inl (y 1, 32, .inl f3)), (h0, .inr (16, [w1, w2, w3, w4, w5, w6, w7, w8, w9, w10, w11, w12, w13, w14, .int (nI 64), .ref ms, .ref dg, .ref wd, w15, w16, w17, w18, w19, w20, w21, w22, w23, w24, w25, w26, w27, w28, w29, w30, w31, w32, w33, w34, w35, w36, w37, w38, w39, w40, w41, w42, w43, w44, w45, w46, w47, w48, w49, w50, w51, w52, w53, w54, w55, w56, w57, w58, w59, w60])), (ms, .inl (y 1, 30000, .inl (zf tM 64 f1)))] := hD
        have hw : r43 = ((tA (k3 + 3)) <<< ((30 : Int32) &&& 31)) ||| (zu (tA (k3 + 3)) ((32 : Int32) - (30 : Int32))) := hw
        subst hw
        refine lv_topi (fun v44 ev44 => ?_)
        have ev44 : v44 = tC (k3 + 3) := ev44.trans (ax_c_M_firstHash_30 k3 hk31 hk30)
        subst ev44
        refine lv_istore (lv' := [(10, .int (tC (k3 + 3))), (11, .int (tC (k3 + 2))), (12, .int (tC (k3 + 1))), (16, .int (tA (k3 + 5))), (15, .int 1859775393), (14, .int (((tA (k3 + 3)) ^^^ (tC (k3 + 2))) ^^^ (tC (k3 + 1)))), (13, .int (nI k3)), (9, .int (tA (k3 + 3))), (8, .int (tA (k3 + 4))), (7, .int 0), (6, .int (-1009589776)), (5, .int 271733878), (4, .int (-1732584194)), (3, .int (-271733879)), (2, .int 1732584193), (1, .int 1), (0, .ref h0)]) hx hb dX12_firstHash_295 hl (by decide) rfl (fun ls hl => ?_)
        refine lv_iload hx hb dX12_firstHash_297 (lv_at hl 8 rfl) ?_
        refine lv_istore (lv' := [(9, .int (tA (k3 + 4))), (10, .int (tC (k3 + 3))), (11, .int (tC (k3 + 2))), (12, .int (tC (k3 + 1))), (16, .int (tA (k3 + 5))), (15, .int 1859775393), (14, .int (((tA (k3 + 3)) ^^^ (tC (k3 + 2))) ^^^ (tC (k3 + 1)))), (13, .int (nI k3)), (8, .int (tA (k3 + 4))), (7, .int 0), (6, .int (-1009589776)), (5, .int 271733878), (4, .int (-1732584194)), (3, .int (-271733879)), (2, .int 1732584193), (1, .int 1), (0, .ref h0)]) hx hb dX12_firstHash_299 hl (by decide) rfl (fun ls hl => ?_)
        refine lv_iload hx hb dX12_firstHash_301 (lv_at hl 4 rfl) ?_
        refine lv_istore (lv' := [(8, .int (tA (k3 + 5))), (9, .int (tA (k3 + 4))), (10, .int (tC (k3 + 3))), (11, .int (tC (k3 + 2))), (12, .int (tC (k3 + 1))), (16, .int (tA (k3 + 5))), (15, .int 1859775393), (14, .int (((tA (k3 + 3)) ^^^ (tC (k3 + 2))) ^^^ (tC (k3 + 1)))), (13, .int (nI k3)), (7, .int 0), (6, .int (-1009589776)), (5, .int 271733878), (4, .int (-1732584194)), (3, .int (-271733879)), (2, .int 1732584193), (1, .int 1), (0, .ref h0)]) hx hb dX12_firstHash_303 hl (by decide) rfl (fun ls hl => ?_)
        refine lv_iinc (v := nI (k3 + 1)) (lv' := [(13, .int (nI (k3 + 1))), (8, .int (tA (k3 + 5))), (9, .int (tA (k3 + 4))), (10, .int (tC (k3 + 3))), (11, .int (tC (k3 + 2))), (12, .int (tC (k3 + 1))), (16, .int (tA (k3 + 5))), (15, .int 1859775393), (14, .int (((tA (k3 + 3)) ^^^ (tC (k3 + 2))) ^^^ (tC (k3 + 1)))), (7, .int 0), (6, .int (-1009589776)), (5, .int 271733878), (4, .int (-1732584194)), (3, .int (-271733879)), (2, .int 1732584193), (1, .int 1), (0, .ref h0)]) hx hb dX12_firstHash_305 hl (k := 8) rfl (ax_c_M_firstHash_31 k3 hk31 hk30) (by decide) rfl (fun ls hl => ?_)
        refine lv_goto (tgt := 53) hx hb dX12_firstHash_308 (by decide) ?_
        exact ih ls H locs ⟨hP, hD, hS, lv_sub hl [0, 5, 4, 3, 2, 1, 9, 10, 11, 12, 13, 14, 15, 16] rfl⟩
      · obtain ⟨hP, hD, hS, hl⟩ := hI
        have hl : lv_has ls 17 [(13, .int (nI 40)), (12, .int (tC 40)), (11, .int (tC 41)), (10, .int (tC 42)), (9, .int (tA 43)), (8, .int (tA 44)), (7, .int 0), (6, .int (-1009589776)), (5, .int 271733878), (4, .int (-1732584194)), (3, .int (-271733879)), (2, .int 1732584193), (1, .int 1), (0, .ref h0)] := hl
        have hP : va_P D vwCl [(wd, .inl (y 1, 80, .inl (zf tW1 40 f2))), (dg, .inl (y 1, 32, .inl f3)), (h0, .inr (16, [w1, w2, w3, w4, w5, w6, w7, w8, w9, w10, w11, w12, w13, w14, .int (nI 64), .ref ms, .ref dg, .ref wd, w15, w16, w17, w18, w19, w20, w21, w22, w23, w24, w25, w26, w27, w28, w29, w30, w31, w32, w33, w34, w35, w36, w37, w38, w39, w40, w41, w42, w43, w44, w45, w46, w47, w48, w49, w50, w51, w52, w53, w54, w55, w56, w57, w58, w59, w60])), (ms, .inl (y 1, 30000, .inl (zf tM 64 f1)))] H := hP
        have hD : va_D A [(wd, .inl (y 1, 80, .inl (zf tW1 40 f2))), (dg, .inl (y 1, 32, .inl f3)), (h0, .inr (16, [w1, w2, w3, w4, w5, w6, w7, w8, w9, w10, w11, w12, w13, w14, .int (nI 64), .ref ms, .ref dg, .ref wd, w15, w16, w17, w18, w19, w20, w21, w22, w23, w24, w25, w26, w27, w28, w29, w30, w31, w32, w33, w34, w35, w36, w37, w38, w39, w40, w41, w42, w43, w44, w45, w46, w47, w48, w49, w50, w51, w52, w53, w54, w55, w56, w57, w58, w59, w60])), (ms, .inl (y 1, 30000, .inl (zf tM 64 f1)))] := hD
        have hl : lv_has ls 17 [(13, .int (nI 40)), (12, .int (tC 40)), (11, .int (tC 41)), (10, .int (tC 42)), (9, .int (tA 43)), (8, .int (tA 44)), (7, .int 0), (6, .int (-1009589776)), (5, .int 271733878), (4, .int (-1732584194)), (3, .int (-271733879)), (2, .int 1732584193), (1, .int 1), (0, .ref h0)] := lv_sub hl [0, 1, 2, 3, 4, 5, 6, 7, 8, 9, 10, 11, 12, 13] rfl
        refine zz_loop (I := fun (k4 : Nat) (ls : Array Slot) (H : Heap) (locs : List Loc) => va_P D vwCl [(wd, .inl (y 1, 80, .inl (zf tW1 k4 f2))), (dg, .inl (y 1, 32, .inl f3)), (h0, .inr (16, [w1, w2, w3, w4, w5, w6, w7, w8, w9, w10, w11, w12, w13, w14, .int (nI 64), .ref ms, .ref dg, .ref wd, w15, w16, w17, w18, w19, w20, w21, w22, w23, w24, w25, w26, w27, w28, w29, w30, w31, w32, w33, w34, w35, w36, w37, w38, w39, w40, w41, w42, w43, w44, w45, w46, w47, w48, w49, w50, w51, w52, w53, w54, w55, w56, w57, w58, w59, w60])), (ms, .inl (y 1, 30000, .inl (zf tM 64 f1)))] H ∧ va_D A [(wd, .inl (y 1, 80, .inl (zf tW1 k4 f2))), (dg, .inl (y 1, 32, .inl f3)), (h0, .inr (16, [w1, w2, w3, w4, w5, w6, w7, w8, w9, w10, w11, w12, w13, w14, .int (nI 64), .ref ms, .ref dg, .ref wd, w15, w16, w17, w18, w19, w20, w21, w22, w23, w24, w25, w26, w27, w28, w29, w30, w31, w32, w33, w34, w35, w36, w37, w38, w39, w40, w41, w42, w43, w44, w45, w46, w47, w48, w49, w50, w51, w52, w53, w54, w55, w56, w57, w58, w59, w60])), (ms, .inl (y 1, 30000, .inl (zf tM 64 f1)))] ∧ va_S A s.heap H locs ∧ lv_has ls 17 [(13, .int (nI k4)), (12, .int (tC k4)), (11, .int (tC (k4 + 1))), (10, .int (tC (k4 + 2))), (9, .int (tA (k4 + 3))), (8, .int (tA (k4 + 4))), (7, .int 0), (6, .int (-1009589776)), (5, .int 271733878), (4, .int (-1732584194)), (3, .int (-271733879)), (2, .int 1732584193), (1, .int 1), (0, .ref h0)]) 40 60 (by decide) ⟨hP, hD, hS, hl⟩ (fun k4 ls H locs hk40 hk41 hI ih => ?_) (fun ls H locs hI => ?_)
        · obtain ⟨hP, hD, hS, hl⟩ := hI
          have hl : lv_has ls 17 [(13, .int (nI k4)), (12, .int (tC k4)), (11, .int (tC (k4 + 1))), (10, .int (tC (k4 + 2))), (9, .int (tA (k4 + 3))), (8, .int (tA (k4 + 4))), (7, .int 0), (6, .int (-1009589776)), (5, .int 271733878), (4, .int (-1732584194)), (3, .int (-271733879)), (2, .int 1732584193), (1, .int 1), (0, .ref h0)] := hl
          have hP : va_P D vwCl [(wd, .inl (y 1, 80, .inl (zf tW1 k4 f2))), (dg, .inl (y 1, 32, .inl f3)), (h0, .inr (16, [w1, w2, w3, w4, w5, w6, w7, w8, w9, w10, w11, w12, w13, w14, .int (nI 64), .ref ms, .ref dg, .ref wd, w15, w16, w17, w18, w19, w20, w21, w22, w23, w24, w25, w26, w27, w28, w29, w30, w31, w32, w33, w34, w35, w36, w37, w38, w39, w40, w41, w42, w43, w44, w45, w46, w47, w48, w49, w50, w51, w52, w53, w54, w55, w56, w57, w58, w59, w60])), (ms, .inl (y 1, 30000, .inl (zf tM 64 f1)))] H := hP
          have hD : va_D A [(wd, .inl (y 1, 80, .inl (zf tW1 k4 f2))), (dg, .inl (y 1, 32, .inl f3)), (h0, .inr (16, [w1, w2, w3, w4, w5, w6, w7, w8, w9, w10, w11, w12, w13, w14, .int (nI 64), .ref ms, .ref dg, .ref wd, w15, w16, w17, w18, w19, w20, w21, w22, w23, w24, w25, w26, w27, w28, w29, w30, w31, w32, w33, w34, w35, w36, w37, w38, w39, w40, w41, w42, w43, w44, w45, w46, w47, w48, w49, w50, w51, w52, w53, w54, w55, w56, w57, w58, w59, w60])), (ms, .inl (y 1, 30000, .inl (zf tM 64 f1)))] := hD
          refine lv_iload hx hb dX12_firstHash_53 (lv_at hl 0 rfl) ?_
          refine lv_bipush (v := 80) hx hb dX12_firstHash_55 (by decide) ?_
          refine lv_icmp_ge (tgt := 311) hx hb dX12_firstHash_57 (by decide) (fun c9 => absurd c9 (ax_c_M_firstHash_32 k4 hk41 hk40)) (fun _ => ?_)
          refine lv_aload_n hx hb dX12_firstHash_60 rfl (lv_at hl 13 rfl) ?_
          refine va_get (D := D) (ci := 16) (v := .ref wd) (C := RX12) (T := TX12) (N := 64) hx hb hts (by decide +kernel) hown hK hP 2 rfl rfl 17 (by decide) (hts (.fieldLink RX12 46 "SignetRingModel" "words" "[I") (by decide +kernel)) (fun _ h9 => h9) rfl dX12_firstHash_61 ?_
          refine lv_iload hx hb dX12_firstHash_64 (lv_at hl 0 rfl) ?_
          refine lv_iload hx hb dX12_firstHash_66 (lv_at hl 0 rfl) ?_
          refine lv_bipush (v := 16) hx hb dX12_firstHash_68 (by decide) ?_
          refine lv_icmp_ge (tgt := 95) hx hb dX12_firstHash_70 (by decide) (fun _ => ?_) (fun c9 => absurd (ax_c_M_firstHash_33 k4 hk41 hk40) c9)
          refine lv_aload_n hx hb dX12_firstHash_95 rfl (lv_at hl 13 rfl) ?_
          refine va_get (D := D) (ci := 16) (v := .ref wd) (C := RX12) (T := TX12) (N := 64) hx hb hts (by decide +kernel) hown hK hP 2 rfl rfl 17 (by decide) (hts (.fieldLink RX12 46 "SignetRingModel" "words" "[I") (by decide +kernel)) (fun _ h9 => h9) rfl dX12_firstHash_96 ?_
          refine lv_iload hx hb dX12_firstHash_99 (lv_at hl 0 rfl) ?_
          refine lv_iconst (v := 3) hx hb dX12_firstHash_101 (by decide) ?_
          refine lv_isub hx hb dX12_firstHash_102 ?_
          refine lv_topi (fun v45 ev45 => ?_)
          have ev45 : v45 = nI (k4 - 3) := ev45.trans (ax_c_M_firstHash_34 k4 hk41 hk40)
          subst ev45
          refine va_iald hx hb hK hP 0 1 rfl rfl (vp_in_nI (by omega) (by decide)) dX12_firstHash_103 ?_
          refine lv_topi (fun v46 ev46 => ?_)
          have ev46 : v46 = tW1 (k4 - 3) := ev46.trans (zf_rd (j := (k4 - 3)) (by omega) (by omega))
          subst ev46
          refine lv_aload_n hx hb dX12_firstHash_104 rfl (lv_at hl 13 rfl) ?_
          refine va_get (D := D) (ci := 16) (v := .ref wd) (C := RX12) (T := TX12) (N := 64) hx hb hts (by decide +kernel) hown hK hP 2 rfl rfl 17 (by decide) (hts (.fieldLink RX12 46 "SignetRingModel" "words" "[I") (by decide +kernel)) (fun _ h9 => h9) rfl dX12_firstHash_105 ?_
          refine lv_iload hx hb dX12_firstHash_108 (lv_at hl 0 rfl) ?_
          refine lv_bipush (v := 8) hx hb dX12_firstHash_110 (by decide) ?_
          refine lv_isub hx hb dX12_firstHash_112 ?_
          refine lv_topi (fun v47 ev47 => ?_)
          have ev47 : v47 = nI (k4 - 8) := ev47.trans (ax_c_M_firstHash_35 k4 hk41 hk40)
          subst ev47
          refine va_iald hx hb hK hP 0 1 rfl rfl (vp_in_nI (by omega) (by decide)) dX12_firstHash_113 ?_
          refine lv_topi (fun v48 ev48 => ?_)
          have ev48 : v48 = tW1 (k4 - 8) := ev48.trans (zf_rd (j := (k4 - 8)) (by omega) (by omega))
          subst ev48
          refine lv_ixor hx hb dX12_firstHash_114 ?_
          refine lv_aload_n hx hb dX12_firstHash_115 rfl (lv_at hl 13 rfl) ?_
          refine va_get (D := D) (ci := 16) (v := .ref wd) (C := RX12) (T := TX12) (N := 64) hx hb hts (by decide +kernel) hown hK hP 2 rfl rfl 17 (by decide) (hts (.fieldLink RX12 46 "SignetRingModel" "words" "[I") (by decide +kernel)) (fun _ h9 => h9) rfl dX12_firstHash_116 ?_
          refine lv_iload hx hb dX12_firstHash_119 (lv_at hl 0 rfl) ?_
          refine lv_bipush (v := 14) hx hb dX12_firstHash_121 (by decide) ?_
          refine lv_isub hx hb dX12_firstHash_123 ?_
          refine lv_topi (fun v49 ev49 => ?_)
          have ev49 : v49 = nI (k4 - 14) := ev49.trans (ax_c_M_firstHash_36 k4 hk41 hk40)
          subst ev49
          refine va_iald hx hb hK hP 0 1 rfl rfl (vp_in_nI (by omega) (by decide)) dX12_firstHash_124 ?_
          refine lv_topi (fun v50 ev50 => ?_)
          have ev50 : v50 = tW1 (k4 - 14) := ev50.trans (zf_rd (j := (k4 - 14)) (by omega) (by omega))
          subst ev50
          refine lv_ixor hx hb dX12_firstHash_125 ?_
          refine lv_aload_n hx hb dX12_firstHash_126 rfl (lv_at hl 13 rfl) ?_
          refine va_get (D := D) (ci := 16) (v := .ref wd) (C := RX12) (T := TX12) (N := 64) hx hb hts (by decide +kernel) hown hK hP 2 rfl rfl 17 (by decide) (hts (.fieldLink RX12 46 "SignetRingModel" "words" "[I") (by decide +kernel)) (fun _ h9 => h9) rfl dX12_firstHash_127 ?_
          refine lv_iload hx hb dX12_firstHash_130 (lv_at hl 0 rfl) ?_
          refine lv_bipush (v := 16) hx hb dX12_firstHash_132 (by decide) ?_
          refine lv_isub hx hb dX12_firstHash_134 ?_
          refine lv_topi (fun v51 ev51 => ?_)
          have ev51 : v51 = nI (k4 - 16) := ev51.trans (ax_c_M_firstHash_37 k4 hk41 hk40)
          subst ev51
          refine va_iald hx hb hK hP 0 1 rfl rfl (vp_in_nI (by omega) (by decide)) dX12_firstHash_135 ?_
          refine lv_topi (fun v52 ev52 => ?_)
          have ev52 : v52 = tW1 (k4 - 16) := ev52.trans (zf_rd (j := (k4 - 16)) (by omega) (by omega))
          subst ev52
          refine lv_ixor hx hb dX12_firstHash_136 ?_
          refine lv_iconst (v := 1) hx hb dX12_firstHash_137 (by decide) ?_
          have hPc := hP.sub (ws' := []) [] rfl
          have hDc := hD.sub (ws' := []) [] (by decide) rfl
          have hFc := va_free (wc := []) hD hS hA [] rfl
          refine va_calli (va_runS (As := [.int ((((tW1 (k4 - 3)) ^^^ (tW1 (k4 - 8))) ^^^ (tW1 (k4 - 14))) ^^^ (tW1 (k4 - 16))), .int 1]) (rest := [.int (nI k4), .ref wd]) ⟨hx, hb, hml, hown, hts⟩ (c_M_left l D y H.size ((((tW1 (k4 - 3)) ^^^ (tW1 (k4 - 8))) ^^^ (tW1 (k4 - 14))) ^^^ (tW1 (k4 - 16))) 1) (va_cwS 2 hts gv_c_M_firstHash_c_M_left_119 rfl rfl rfl (by decide +kernel) ⟨(Nat.le_of_ble_eq_true rfl), (Nat.le_of_ble_eq_true rfl)⟩) (zB.preS hPc hDc hK hN hE hO hT hG hS hFc (fun _ h => nomatch h) (fun _ h => nomatch h) (fun _ h => nomatch h) (fun _ h => nomatch h)) rfl rfl hl.1 rfl (lv_room (Nat.le_of_ble_eq_true rfl)) dX12_firstHash_138 ⟨(Nat.le_of_ble_eq_true rfl), (Nat.le_of_ble_eq_true rfl)⟩) hS (fun q _ h => hFc q h) hFc (fun r53 u t H1 locs ht hvm hw hB hz1 hk1 hS => ?_)
          obtain ⟨hP1, hD1⟩ := hB
          rw [ht] at hP1
          obtain ⟨hP, hD⟩ := va_join (wr := [(wd, .inl (y 1, 80, .inl (zf tW1 k4 f2))), (dg, .inl (y 1, 32, .inl f3)), (h0, .inr (16, [w1, w2, w3, w4, w5, w6, w7, w8, w9, w10, w11, w12, w13, w14, .int (nI 64), .ref ms, .ref dg, .ref wd, w15, w16, w17, w18, w19, w20, w21, w22, w23, w24, w25, w26, w27, w28, w29, w30, w31, w32, w33, w34, w35, w36, w37, w38, w39, w40, w41, w42, w43, w44, w45, w46, w47, w48, w49, w50, w51, w52, w53, w54, w55, w56, w57, w58, w59, w60])), (ms, .inl (y 1, 30000, .inl (zf tM 64 f1)))]) (w1 := []) hP hD [] [0, 1, 2, 3] rfl rfl (by decide) (by decide) hk1 hFc hP1 hD1
          generalize H1 = H at hP hS ⊢
          have hP : va_P D vwCl [(wd, .inl (y 1, 80, .inl (zf tW1 k4 f2))), (dg, .inl (y 1, 32, .inl f3)), (h0, .inr (16, [w1, w2, w3, w4, w5, w6, w7, w8, w9, w10, w11, w12, w13, w14, .int (nI 64), .ref ms, .ref dg, .ref wd, w15, w16, w17, w18, w19, w20, w21, w22, w23, w24, w25, w26, w27, w28, w29, w30, w31, w32, w33, w34, w35, w36, w37, w38, w39, w40, w41, w42, w43, w44, w45, w46, w47, w48, w49, w50, w51, w52, w53, w54, w55, w56, w57, w58, w59, w60])), (ms, .inl (y 1, 30000, .inl (zf tM 64 f1)))] H := hP
          have hD : va_D A [(wd, .inl (y 1, 80, .inl (zf tW1 k4 f2))), (dg, .inl (y 1, 32, .inl f3)), (h0, .inr (16, [w1, w2, w3, w4, w5, w6, w7, w8, w9, w10, w11, w12, w13, w14, .int (nI 64), .ref ms, .ref dg, .ref wd, w15, w16, w17, w18, w19, w20, w21, w22, w23, w24, w25, w26, w27, w28, w29, w30, w31, w32, w33, w34, w35, w36, w37, w38, w39, w40, w41, w42, w43, w44, w45, w46, w47, w48, w49, w50, w51, w52, w53, w54, w55, w56, w57, w58, w59, w60])), (ms, .inl (y 1, 30000, .inl (zf tM 64 f1)))] := hD
          have hw : r53 = (((((tW1 (k4 - 3)) ^^^ (tW1 (k4 - 8))) ^^^ (tW1 (k4 - 14))) ^^^ (tW1 (k4 - 16))) <<< ((1 : Int32) &&& 31)) ||| (zu ((((tW1 (k4 - 3)) ^^^ (tW1 (k4 - 8))) ^^^ (tW1 (k4 - 14))) ^^^ (tW1 (k4 - 16))) ((32 : Int32) - (1 : Int32))) := hw
          subst hw
          refine lv_topi (fun v54 ev54 => ?_)
          have ev54 : v54 = tW1 k4 := ev54.trans (ax_c_M_firstHash_38 k4 hk41 hk40)
          subst ev54
          refine va_iast hx hb hK hP hD hS 0 1 rfl rfl (vp_in_nI (by omega) (by decide)) dX12_firstHash_141 (fun H locs hP hD hS => ?_)
          have hP : va_P D vwCl [(wd, .inl (y 1, 80, .inl (upd (zf tW1 k4 f2) (nI k4).toNatClampNeg (tW1 k4)))), (dg, .inl (y 1, 32, .inl f3)), (h0, .inr (16, [w1, w2, w3, w4, w5, w6, w7, w8, w9, w10, w11, w12, w13, w14, .int (nI 64), .ref ms, .ref dg, .ref wd, w15, w16, w17, w18, w19, w20, w21, w22, w23, w24, w25, w26, w27, w28, w29, w30, w31, w32, w33, w34, w35, w36, w37, w38, w39, w40, w41, w42, w43, w44, w45, w46, w47, w48, w49, w50, w51, w52, w53, w54, w55, w56, w57, w58, w59, w60])), (ms, .inl (y 1, 30000, .inl (zf tM 64 f1)))] H := hP
          have hD : va_D A [(wd, .inl (y 1, 80, .inl (upd (zf tW1 k4 f2) (nI k4).toNatClampNeg (tW1 k4)))), (dg, .inl (y 1, 32, .inl f3)), (h0, .inr (16, [w1, w2, w3, w4, w5, w6, w7, w8, w9, w10, w11, w12, w13, w14, .int (nI 64), .ref ms, .ref dg, .ref wd, w15, w16, w17, w18, w19, w20, w21, w22, w23, w24, w25, w26, w27, w28, w29, w30, w31, w32, w33, w34, w35, w36, w37, w38, w39, w40, w41, w42, w43, w44, w45, w46, w47, w48, w49, w50, w51, w52, w53, w54, w55, w56, w57, w58, w59, w60])), (ms, .inl (y 1, 30000, .inl (zf tM 64 f1)))] := hD
          have u55 : upd (zf tW1 k4 f2) (nI k4).toNatClampNeg (tW1 k4) = zf tW1 (k4 + 1) f2 := (zf_st (n := k4) (by omega) rfl)
          rw [u55] at hP hD
          have hP : va_P D vwCl [(wd, .inl (y 1, 80, .inl (zf tW1 (k4 + 1) f2))), (dg, .inl (y 1, 32, .inl f3)), (h0, .inr (16, [w1, w2, w3, w4, w5, w6, w7, w8, w9, w10, w11, w12, w13, w14, .int (nI 64), .ref ms, .ref dg, .ref wd, w15, w16, w17, w18, w19, w20, w21, w22, w23, w24, w25, w26, w27, w28, w29, w30, w31, w32, w33, w34, w35, w36, w37, w38, w39, w40, w41, w42, w43, w44, w45, w46, w47, w48, w49, w50, w51, w52, w53, w54, w55, w56, w57, w58, w59, w60])), (ms, .inl (y 1, 30000, .inl (zf tM 64 f1)))] H := hP
          have hD : va_D A [(wd, .inl (y 1, 80, .inl (zf tW1 (k4 + 1) f2))), (dg, .inl (y 1, 32, .inl f3)), (h0, .inr (16, [w1, w2, w3, w4, w5, w6, w7, w8, w9, w10, w11, w12, w13, w14, .int (nI 64), .ref ms, .ref dg, .ref wd, w15, w16, w17, w18, w19, w20, w21, w22, w23, w24, w25, w26, w27, w28, w29, w30, w31, w32, w33, w34, w35, w36, w37, w38, w39, w40, w41, w42, w43, w44, w45, w46, w47, w48, w49, w50, w51, w52, w53, w54, w55, w56, w57, w58, w59, w60])), (ms, .inl (y 1, 30000, .inl (zf tM 64 f1)))] := hD
          refine lv_iload hx hb dX12_firstHash_142 (lv_at hl 0 rfl) ?_
          refine lv_bipush (v := 20) hx hb dX12_firstHash_144 (by decide) ?_
          refine lv_icmp_ge (tgt := 163) hx hb dX12_firstHash_146 (by decide) (fun _ => ?_) (fun c9 => absurd (ax_c_M_firstHash_39 k4 hk41 hk40) c9)
          refine lv_iload hx hb dX12_firstHash_163 (lv_at hl 0 rfl) ?_
          refine lv_bipush (v := 40) hx hb dX12_firstHash_165 (by decide) ?_
          refine lv_icmp_ge (tgt := 181) hx hb dX12_firstHash_167 (by decide) (fun _ => ?_) (fun c9 => absurd (ax_c_M_firstHash_40 k4 hk41 hk40) c9)
          refine lv_iload hx hb dX12_firstHash_181 (lv_at hl 0 rfl) ?_
          refine lv_bipush (v := 60) hx hb dX12_firstHash_183 (by decide) ?_
          refine lv_icmp_ge (tgt := 205) hx hb dX12_firstHash_185 (by decide) (fun c9 => absurd c9 (ax_c_M_firstHash_41 k4 hk41 hk40)) (fun _ => ?_)
          refine lv_iload hx hb dX12_firstHash_188 (lv_at hl 4 rfl) ?_
          refine lv_iload hx hb dX12_firstHash_190 (lv_at hl 3 rfl) ?_
          refine lv_iand hx hb dX12_firstHash_192 ?_
          refine lv_iload hx hb dX12_firstHash_193 (lv_at hl 2 rfl) ?_
          refine lv_iload hx hb dX12_firstHash_195 (lv_at hl 4 rfl) ?_
          refine lv_iload hx hb dX12_firstHash_197 (lv_at hl 3 rfl) ?_
          refine lv_ior hx hb dX12_firstHash_199 ?_
          refine lv_iand hx hb dX12_firstHash_200 ?_
          refine lv_ior hx hb dX12_firstHash_201 ?_
          refine lv_goto (tgt := 213) hx hb dX12_firstHash_202 (by decide) ?_
          refine lv_istore (lv' := [(14, .int (((tA (k4 + 3)) &&& (tC (k4 + 2))) ||| ((tC (k4 + 1)) &&& ((tA (k4 + 3)) ||| (tC (k4 + 2)))))), (13, .int (nI k4)), (12, .int (tC k4)), (11, .int (tC (k4 + 1))), (10, .int (tC (k4 + 2))), (9, .int (tA (k4 + 3))), (8, .int (tA (k4 + 4))), (7, .int 0), (6, .int (-1009589776)), (5, .int 271733878), (4, .int (-1732584194)), (3, .int (-271733879)), (2, .int 1732584193), (1, .int 1), (0, .ref h0)]) hx hb dX12_firstHash_213 hl (by decide) rfl (fun ls hl => ?_)
          refine lv_iload hx hb dX12_firstHash_215 (lv_at hl 1 rfl) ?_
          refine lv_bipush (v := 20) hx hb dX12_firstHash_217 (by decide) ?_
          refine lv_icmp_ge (tgt := 227) hx hb dX12_firstHash_219 (by decide) (fun _ => ?_) (fun c9 => absurd (ax_c_M_firstHash_39 k4 hk41 hk40) c9)
          refine lv_iload hx hb dX12_firstHash_227 (lv_at hl 1 rfl) ?_
          refine lv_bipush (v := 40) hx hb dX12_firstHash_229 (by decide) ?_
          refine lv_icmp_ge (tgt := 239) hx hb dX12_firstHash_231 (by decide) (fun _ => ?_) (fun c9 => absurd (ax_c_M_firstHash_40 k4 hk41 hk40) c9)
          refine lv_iload hx hb dX12_firstHash_239 (lv_at hl 1 rfl) ?_
          refine lv_bipush (v := 60) hx hb dX12_firstHash_241 (by decide) ?_
          refine lv_icmp_ge (tgt := 251) hx hb dX12_firstHash_243 (by decide) (fun c9 => absurd c9 (ax_c_M_firstHash_41 k4 hk41 hk40)) (fun _ => ?_)
          refine lv_ldc (v := -1894007588) hx hb hown (hts (.constant RX12 125 (-1894007588)) (by decide +kernel)) dX12_firstHash_246 ?_
          refine lv_goto (tgt := 253) hx hb dX12_firstHash_248 (by decide) ?_
          refine lv_istore (lv' := [(15, .int (-1894007588)), (14, .int (((tA (k4 + 3)) &&& (tC (k4 + 2))) ||| ((tC (k4 + 1)) &&& ((tA (k4 + 3)) ||| (tC (k4 + 2)))))), (13, .int (nI k4)), (12, .int (tC k4)), (11, .int (tC (k4 + 1))), (10, .int (tC (k4 + 2))), (9, .int (tA (k4 + 3))), (8, .int (tA (k4 + 4))), (7, .int 0), (6, .int (-1009589776)), (5, .int 271733878), (4, .int (-1732584194)), (3, .int (-271733879)), (2, .int 1732584193), (1, .int 1), (0, .ref h0)]) hx hb dX12_firstHash_253 hl (by decide) rfl (fun ls hl => ?_)
          refine lv_iload hx hb dX12_firstHash_255 (lv_at hl 7 rfl) ?_
          refine lv_iconst (v := 5) hx hb dX12_firstHash_257 (by decide) ?_
          have hPc := hP.sub (ws' := []) [] rfl
          have hDc := hD.sub (ws' := []) [] (by decide) rfl
          have hFc := va_free (wc := []) hD hS hA [] rfl
          refine va_calli (va_runS (As := [.int (tA (k4 + 4)), .int 5]) (rest := []) ⟨hx, hb, hml, hown, hts⟩ (c_M_left l D y H.size (tA (k4 + 4)) 5) (va_cwS 2 hts gv_c_M_firstHash_c_M_left_119 rfl rfl rfl (by decide +kernel) ⟨(Nat.le_of_ble_eq_true rfl), (Nat.le_of_ble_eq_true rfl)⟩) (zB.preS hPc hDc hK hN hE hO hT hG hS hFc (fun _ h => nomatch h) (fun _ h => nomatch h) (fun _ h => nomatch h) (fun _ h => nomatch h)) rfl rfl hl.1 rfl (lv_room (Nat.le_of_ble_eq_true rfl)) dX12_firstHash_258 ⟨(Nat.le_of_ble_eq_true rfl), (Nat.le_of_ble_eq_true rfl)⟩) hS (fun q _ h => hFc q h) hFc (fun r56 u t H1 locs ht hvm hw hB hz1 hk1 hS => ?_)
          obtain ⟨hP1, hD1⟩ := hB
          rw [ht] at hP1
          obtain ⟨hP, hD⟩ := va_join (wr := [(wd, .inl (y 1, 80, .inl (zf tW1 (k4 + 1) f2))), (dg, .inl (y 1, 32, .inl f3)), (h0, .inr (16, [w1, w2, w3, w4, w5, w6, w7, w8, w9, w10, w11, w12, w13, w14, .int (nI 64), .ref ms, .ref dg, .ref wd, w15, w16, w17, w18, w19, w20, w21, w22, w23, w24, w25, w26, w27, w28, w29, w30, w31, w32, w33, w34, w35, w36, w37, w38, w39, w40, w41, w42, w43, w44, w45, w46, w47, w48, w49, w50, w51, w52, w53, w54, w55, w56, w57, w58, w59, w60])), (ms, .inl (y 1, 30000, .inl (zf tM 64 f1)))]) (w1 := []) hP hD [] [0, 1, 2, 3] rfl rfl (by decide) (by decide) hk1 hFc hP1 hD1
          generalize H1 = H at hP hS ⊢
          have hP : va_P D vwCl [(wd, .inl (y 1, 80, .inl (zf tW1 (k4 + 1) f2))), (dg, .inl (y 1, 32, .inl f3)), (h0, .inr (16, [w1, w2, w3, w4, w5, w6, w7, w8, w9, w10, w11, w12, w13, w14, .int (nI 64), .ref ms, .ref dg, .ref wd, w15, w16, w17, w18, w19, w20, w21, w22, w23, w24, w25, w26, w27, w28, w29, w30, w31, w32, w33, w34, w35, w36, w37, w38, w39, w40, w41, w42, w43, w44, w45, w46, w47, w48, w49, w50, w51, w52, w53, w54, w55, w56, w57, w58, w59, w60])), (ms, .inl (y 1, 30000, .inl (zf tM 64 f1)))] H := hP
          have hD : va_D A [(wd, .inl (y 1, 80, .inl (zf tW1 (k4 + 1) f2))), (dg, .inl (y 1, 32, .inl f3)), (h0, .inr (16, [w1, w2, w3, w4, w5, w6, w7, w8, w9, w10, w11, w12, w13, w14, .int (nI 64), .ref ms, .ref dg, .ref wd, w15, w16, w17, w18, w19, w20, w21, w22, w23, w24, w25, w26, w27, w28, w29, w30, w31, w32, w33, w34, w35, w36, w37, w38, w39, w40, w41, w42, w43, w44, w45, w46, w47, w48, w49, w50, w51, w52, w53, w54, w55, w56, w57, w58, w59, w60])), (ms, .inl (y 1, 30000, .inl (zf tM 64 f1)))] := hD
          have hw : r56 = ((tA (k4 + 4)) <<< ((5 : Int32) &&& 31)) ||| (zu (tA (k4 + 4)) ((32 : Int32) - (5 : Int32))) := hw
          subst hw
          refine lv_iload hx hb dX12_firstHash_261 (lv_at hl 1 rfl) ?_
          refine lv_iadd hx hb dX12_firstHash_263 ?_
          refine lv_iload hx hb dX12_firstHash_264 (lv_at hl 3 rfl) ?_
          refine lv_iadd hx hb dX12_firstHash_266 ?_
          refine lv_iload hx hb dX12_firstHash_267 (lv_at hl 0 rfl) ?_
          refine lv_iadd hx hb dX12_firstHash_269 ?_
          refine lv_aload_n hx hb dX12_firstHash_270 rfl (lv_at hl 15 rfl) ?_
          refine va_get (D := D) (ci := 16) (v := .ref wd) (C := RX12) (T := TX12) (N := 64) hx hb hts (by decide +kernel) hown hK hP 2 rfl rfl 17 (by decide) (hts (.fieldLink RX12 46 "SignetRingModel" "words" "[I") (by decide +kernel)) (fun _ h9 => h9) rfl dX12_firstHash_271 ?_
          refine lv_iload hx hb dX12_firstHash_274 (lv_at hl 2 rfl) ?_
          refine va_iald hx hb hK hP 0 1 rfl rfl (vp_in_nI (by omega) (by decide)) dX12_firstHash_276 ?_
          refine lv_topi (fun v57 ev57 => ?_)
          have ev57 : v57 = tW1 k4 := ev57.trans (zf_rd (j := k4) (by omega) (by omega))
          subst ev57
          refine lv_iadd hx hb dX12_firstHash_277 ?_
          refine lv_topi (fun v58 ev58 => ?_)
          have ev58 : v58 = tA (k4 + 5) := ev58.trans (ax_c_M_firstHash_42 k4 hk41 hk40)
          subst ev58
          refine lv_istore (lv' := [(16, .int (tA (k4 + 5))), (15, .int (-1894007588)), (14, .int (((tA (k4 + 3)) &&& (tC (k4 + 2))) ||| ((tC (k4 + 1)) &&& ((tA (k4 + 3)) ||| (tC (k4 + 2)))))), (13, .int (nI k4)), (12, .int (tC k4)), (11, .int (tC (k4 + 1))), (10, .int (tC (k4 + 2))), (9, .int (tA (k4 + 3))), (8, .int (tA (k4 + 4))), (7, .int 0), (6, .int (-1009589776)), (5, .int 271733878), (4, .int (-1732584194)), (3, .int (-271733879)), (2, .int 1732584193), (1, .int 1), (0, .ref h0)]) hx hb dX12_firstHash_278 hl (by decide) rfl (fun ls hl => ?_)
          refine lv_iload hx hb dX12_firstHash_280 (lv_at hl 5 rfl) ?_
          refine lv_istore (lv' := [(12, .int (tC (k4 + 1))), (16, .int (tA (k4 + 5))), (15, .int (-1894007588)), (14, .int (((tA (k4 + 3)) &&& (tC (k4 + 2))) ||| ((tC (k4 + 1)) &&& ((tA (k4 + 3)) ||| (tC (k4 + 2)))))), (13, .int (nI k4)), (11, .int (tC (k4 + 1))), (10, .int (tC (k4 + 2))), (9, .int (tA (k4 + 3))), (8, .int (tA (k4 + 4))), (7, .int 0), (6, .int (-1009589776)), (5, .int 271733878), (4, .int (-1732584194)), (3, .int (-271733879)), (2, .int 1732584193), (1, .int 1), (0, .ref h0)]) hx hb dX12_firstHash_282 hl (by decide) rfl (fun ls hl => ?_)
          refine lv_iload hx hb dX12_firstHash_284 (lv_at hl 6 rfl) ?_
          refine lv_istore (lv' := [(11, .int (tC (k4 + 2))), (12, .int (tC (k4 + 1))), (16, .int (tA (k4 + 5))), (15, .int (-1894007588)), (14, .int (((tA (k4 + 3)) &&& (tC (k4 + 2))) ||| ((tC (k4 + 1)) &&& ((tA (k4 + 3)) ||| (tC (k4 + 2)))))), (13, .int (nI k4)), (10, .int (tC (k4 + 2))), (9, .int (tA (k4 + 3))), (8, .int (tA (k4 + 4))), (7, .int 0), (6, .int (-1009589776)), (5, .int 271733878), (4, .int (-1732584194)), (3, .int (-271733879)), (2, .int 1732584193), (1, .int 1), (0, .ref h0)]) hx hb dX12_firstHash_286 hl (by decide) rfl (fun ls hl => ?_)
          refine lv_iload hx hb dX12_firstHash_288 (lv_at hl 7 rfl) ?_
          refine lv_bipush (v := 30) hx hb dX12_firstHash_290 (by decide) ?_
          have hPc := hP.sub (ws' := []) [] rfl
          have hDc := hD.sub (ws' := []) [] (by decide) rfl
          have hFc := va_free (wc := []) hD hS hA [] rfl
          refine va_calli (va_runS (As := [.int (tA (k4 + 3)), .int 30]) (rest := []) ⟨hx, hb, hml, hown, hts⟩ (c_M_left l D y H.size (tA (k4 + 3)) 30) (va_cwS 2 hts gv_c_M_firstHash_c_M_left_119 rfl rfl rfl (by decide +kernel) ⟨(Nat.le_of_ble_eq_true rfl), (Nat.le_of_ble_eq_true rfl)⟩) (zB.preS hPc hDc hK hN hE hO hT hG hS hFc (fun _ h => nomatch h) (fun _ h => nomatch h) (fun _ h => nomatch h) (fun _ h => nomatch h)) rfl rfl hl.1 rfl (lv_room (Nat.le_of_ble_eq_true rfl)) dX12_firstHash_292 ⟨(Nat.le_of_ble_eq_true rfl), (Nat.le_of_ble_eq_true rfl)⟩) hS (fun q _ h => hFc q h) hFc (fun r59 u t H1 locs ht hvm hw hB hz1 hk1 hS => ?_)
          obtain ⟨hP1, hD1⟩ := hB
          rw [ht] at hP1
          obtain ⟨hP, hD⟩ := va_join (wr := [(wd, .inl (y 1, 80, .inl (zf tW1 (k4 + 1) f2))), (dg, .inl (y 1, 32, .inl f3)), (h0, .inr (16, [w1, w2, w3, w4, w5, w6, w7, w8, w9, w10, w11, w12, w13, w14, .int (nI 64), .ref ms, .ref dg, .ref wd, w15, w16, w17, w18, w19, w20, w21, w22, w23, w24, w25, w26, w27, w28, w29, w30, w31, w32, w33, w34, w35, w36, w37, w38, w39, w40, w41, w42, w43, w44, w45, w46, w47, w48, w49, w50, w51, w52, w53, w54, w55, w56, w57, w58, w59, w60])), (ms, .inl (y 1, 30000, .inl (zf tM 64 f1)))]) (w1 := []) hP hD [] [0, 1, 2, 3] rfl rfl (by decide) (by decide) hk1 hFc hP1 hD1
          generalize H1 = H at hP hS ⊢
          have hP : va_P D vwCl [(wd, .inl (y 1, 80, .inl (zf tW1 (k4 + 1) f2))), (dg, .inl (y 1, 32, .inl f3)), (h0, .inr (16, [w1, w2, w3, w4, w5, w6, w7, w8, w9, w10, w11, w12, w13, w14, .int (nI 64), .ref ms, .ref dg, .ref wd, w15, w16, w17, w18, w19, w20, w21, w22, w23, w24, w25, w26, w27, w28, w29, w30, w31, w32, w33, w34, w35, w36, w37, w38, w39, w40, w41, w42, w43, w44, w45, w46, w47, w48, w49, w50, w51, w52, w53, w54, w55, w56, w57, w58, w59, w60])), (ms, .inl (y 1, 30000, .inl (zf tM 64 f1)))] H := hP
          have hD : va_D A [(wd, .inl (y 1, 80, .inl (zf tW1 (k4 + 1) f2))), (dg, .inl (y 1, 32, .inl f3)), (h0, .inr (16, [w1, w2, w3, w4, w5, w6, w7, w8, w9, w10, w11, w12, w13, w14, .int (nI 64), .ref ms, .ref dg, .ref wd, w15, w16, w17, w18, w19, w20, w21, w22, w23, w24, w25, w26, w27, w28, w29, w30, w31, w32, w33, w34, w35, w36, w37, w38, w39, w40, w41, w42, w43, w44, w45, w46, w47, w48, w49, w50, w51, w52, w53, w54, w55, w56, w57, w58, w59, w60])), (ms, .inl (y 1, 30000, .inl (zf tM 64 f1)))] := hD
          have hw : r59 = ((tA (k4 + 3)) <<< ((30 : Int32) &&& 31)) ||| (zu (tA (k4 + 3)) ((32 : Int32) - (30 : Int32))) := hw
          subst hw
          refine lv_topi (fun v60 ev60 => ?_)
          have ev60 : v60 = tC (k4 + 3) := ev60.trans (ax_c_M_firstHash_43 k4 hk41 hk40)
          subst ev60
          refine lv_istore (lv' := [(10, .int (tC (k4 + 3))), (11, .int (tC (k4 + 2))), (12, .int (tC (k4 + 1))), (16, .int (tA (k4 + 5))), (15, .int (-1894007588)), (14, .int (((tA (k4 + 3)) &&& (tC (k4 + 2))) ||| ((tC (k4 + 1)) &&& ((tA (k4 + 3)) ||| (tC (k4 + 2)))))), (13, .int (nI k4)), (9, .int (tA (k4 + 3))), (8, .int (tA (k4 + 4))), (7, .int 0), (6, .int (-1009589776)), (5, .int 271733878), (4, .int (-1732584194)), (3, .int (-271733879)), (2, .int 1732584193), (1, .int 1), (0, .ref h0)]) hx hb dX12_firstHash_295 hl (by decide) rfl (fun ls hl => ?_)
          refine lv_iload hx hb dX12_firstHash_297 (lv_at hl 8 rfl) ?_
          refine lv_istore (lv' := [(9, .int (tA (k4 + 4))), (10, .int (tC (k4 + 3))), (11, .int (tC (k4 + 2))), (12, .int (tC (k4 + 1))), (16, .int (tA (k4 + 5))), (15, .int (-1894007588)), (14, .int (((tA (k4 + 3)) &&& (tC (k4 + 2))) ||| ((tC (k4 + 1)) &&& ((tA (k4 + 3)) ||| (tC (k4 + 2)))))), (13, .int (nI k4)), (8, .int (tA (k4 + 4))), (7, .int 0), (6, .int (-1009589776)), (5, .int 271733878), (4, .int (-1732584194)), (3, .int (-271733879)), (2, .int 1732584193), (1, .int 1), (0, .ref h0)]) hx hb dX12_firstHash_299 hl (by decide) rfl (fun ls hl => ?_)
          refine lv_iload hx hb dX12_firstHash_301 (lv_at hl 4 rfl) ?_
          refine lv_istore (lv' := [(8, .int (tA (k4 + 5))), (9, .int (tA (k4 + 4))), (10, .int (tC (k4 + 3))), (11, .int (tC (k4 + 2))), (12, .int (tC (k4 + 1))), (16, .int (tA (k4 + 5))), (15, .int (-1894007588)), (14, .int (((tA (k4 + 3)) &&& (tC (k4 + 2))) ||| ((tC (k4 + 1)) &&& ((tA (k4 + 3)) ||| (tC (k4 + 2)))))), (13, .int (nI k4)), (7, .int 0), (6, .int (-1009589776)), (5, .int 271733878), (4, .int (-1732584194)), (3, .int (-271733879)), (2, .int 1732584193), (1, .int 1), (0, .ref h0)]) hx hb dX12_firstHash_303 hl (by decide) rfl (fun ls hl => ?_)
          refine lv_iinc (v := nI (k4 + 1)) (lv' := [(13, .int (nI (k4 + 1))), (8, .int (tA (k4 + 5))), (9, .int (tA (k4 + 4))), (10, .int (tC (k4 + 3))), (11, .int (tC (k4 + 2))), (12, .int (tC (k4 + 1))), (16, .int (tA (k4 + 5))), (15, .int (-1894007588)), (14, .int (((tA (k4 + 3)) &&& (tC (k4 + 2))) ||| ((tC (k4 + 1)) &&& ((tA (k4 + 3)) ||| (tC (k4 + 2)))))), (7, .int 0), (6, .int (-1009589776)), (5, .int 271733878), (4, .int (-1732584194)), (3, .int (-271733879)), (2, .int 1732584193), (1, .int 1), (0, .ref h0)]) hx hb dX12_firstHash_305 hl (k := 8) rfl (ax_c_M_firstHash_44 k4 hk41 hk40) (by decide) rfl (fun ls hl => ?_)
          refine lv_goto (tgt := 53) hx hb dX12_firstHash_308 (by decide) ?_
          exact ih ls H locs ⟨hP, hD, hS, lv_sub hl [0, 5, 4, 3, 2, 1, 9, 10, 11, 12, 13, 14, 15, 16] rfl⟩
        · obtain ⟨hP, hD, hS, hl⟩ := hI
          have hl : lv_has ls 17 [(13, .int (nI 60)), (12, .int (tC 60)), (11, .int (tC 61)), (10, .int (tC 62)), (9, .int (tA 63)), (8, .int (tA 64)), (7, .int 0), (6, .int (-1009589776)), (5, .int 271733878), (4, .int (-1732584194)), (3, .int (-271733879)), (2, .int 1732584193), (1, .int 1), (0, .ref h0)] := hl
          have hP : va_P D vwCl [(wd, .inl (y 1, 80, .inl (zf tW1 60 f2))), (dg, .inl (y 1, 32, .inl f3)), (h0, .inr (16, [w1, w2, w3, w4, w5, w6, w7, w8, w9, w10, w11, w12, w13, w14, .int (nI 64), .ref ms, .ref dg, .ref wd, w15, w16, w17, w18, w19, w20, w21, w22, w23, w24, w25, w26, w27, w28, w29, w30, w31, w32, w33, w34, w35, w36, w37, w38, w39, w40, w41, w42, w43, w44, w45, w46, w47, w48, w49, w50, w51, w52, w53, w54, w55, w56, w57, w58, w59, w60])), (ms, .inl (y 1, 30000, .inl (zf tM 64 f1)))] H := hP
          have hD : va_D A [(wd, .inl (y 1, 80, .inl (zf tW1 60 f2))), (dg, .inl (y 1, 32, .inl f3)), (h0, .inr (16, [w1, w2, w3, w4, w5, w6, w7, w8, w9, w10, w11, w12, w13, w14, .int (nI 64), .ref ms, .ref dg, .ref wd, w15, w16, w17, w18, w19, w20, w21, w22, w23, w24, w25, w26, w27, w28, w29, w30, w31, w32, w33, w34, w35, w36, w37, w38, w39, w40, w41, w42, w43, w44, w45, w46, w47, w48, w49, w50, w51, w52, w53, w54, w55, w56, w57, w58, w59, w60])), (ms, .inl (y 1, 30000, .inl (zf tM 64 f1)))] := hD
          have hl : lv_has ls 17 [(13, .int (nI 60)), (12, .int (tC 60)), (11, .int (tC 61)), (10, .int (tC 62)), (9, .int (tA 63)), (8, .int (tA 64)), (7, .int 0), (6, .int (-1009589776)), (5, .int 271733878), (4, .int (-1732584194)), (3, .int (-271733879)), (2, .int 1732584193), (1, .int 1), (0, .ref h0)] := lv_sub hl [0, 1, 2, 3, 4, 5, 6, 7, 8, 9, 10, 11, 12, 13] rfl
          refine zz_loop (I := fun (k5 : Nat) (ls : Array Slot) (H : Heap) (locs : List Loc) => va_P D vwCl [(wd, .inl (y 1, 80, .inl (zf tW1 k5 f2))), (dg, .inl (y 1, 32, .inl f3)), (h0, .inr (16, [w1, w2, w3, w4, w5, w6, w7, w8, w9, w10, w11, w12, w13, w14, .int (nI 64), .ref ms, .ref dg, .ref wd, w15, w16, w17, w18, w19, w20, w21, w22, w23, w24, w25, w26, w27, w28, w29, w30, w31, w32, w33, w34, w35, w36, w37, w38, w39, w40, w41, w42, w43, w44, w45, w46, w47, w48, w49, w50, w51, w52, w53, w54, w55, w56, w57, w58, w59, w60])), (ms, .inl (y 1, 30000, .inl (zf tM 64 f1)))] H ∧ va_D A [(wd, .inl (y 1, 80, .inl (zf tW1 k5 f2))), (dg, .inl (y 1, 32, .inl f3)), (h0, .inr (16, [w1, w2, w3, w4, w5, w6, w7, w8, w9, w10, w11, w12, w13, w14, .int (nI 64), .ref ms, .ref dg, .ref wd, w15, w16, w17, w18, w19, w20, w21, w22, w23, w24, w25, w26, w27, w28, w29, w30, w31, w32, w33, w34, w35, w36, w37, w38, w39, w40, w41, w42, w43, w44, w45, w46, w47, w48, w49, w50, w51, w52, w53, w54, w55, w56, w57, w58, w59, w60])), (ms, .inl (y 1, 30000, .inl (zf tM 64 f1)))] ∧ va_S A s.heap H locs ∧ lv_has ls 17 [(13, .int (nI k5)), (12, .int (tC k5)), (11, .int (tC (k5 + 1))), (10, .int (tC (k5 + 2))), (9, .int (tA (k5 + 3))), (8, .int (tA (k5 + 4))), (7, .int 0), (6, .int (-1009589776)), (5, .int 271733878), (4, .int (-1732584194)), (3, .int (-271733879)), (2, .int 1732584193), (1, .int 1), (0, .ref h0)]) 60 80 (by decide) ⟨hP, hD, hS, hl⟩ (fun k5 ls H locs hk50 hk51 hI ih => ?_) (fun ls H locs hI => ?_)
          · obtain ⟨hP, hD, hS, hl⟩ := hI
            have hl : lv_has ls 17 [(13, .int (nI k5)), (12, .int (tC k5)), (11, .int (tC (k5 + 1))), (10, .int (tC (k5 + 2))), (9, .int (tA (k5 + 3))), (8, .int (tA (k5 + 4))), (7, .int 0), (6, .int (-1009589776)), (5, .int 271733878), (4, .int (-1732584194)), (3, .int (-271733879)), (2, .int 1732584193), (1, .int 1), (0, .ref h0)] := hl
            have hP : va_P D vwCl [(wd, .inl (y 1, 80, .inl (zf tW1 k5 f2))), (dg, .inl (y 1, 32, .inl f3)), (h0, .inr (16, [w1, w2, w3, w4, w5, w6, w7, w8, w9, w10, w11, w12, w13, w14, .int (nI 64), .ref ms, .ref dg, .ref wd, w15, w16, w17, w18, w19, w20, w21, w22, w23, w24, w25, w26, w27, w28, w29, w30, w31, w32, w33, w34, w35, w36, w37, w38, w39, w40, w41, w42, w43, w44, w45, w46, w47, w48, w49, w50, w51, w52, w53, w54, w55, w56, w57, w58, w59, w60])), (ms, .inl (y 1, 30000, .inl (zf tM 64 f1)))] H := hP
            have hD : va_D A [(wd, .inl (y 1, 80, .inl (zf tW1 k5 f2))), (dg, .inl (y 1, 32, .inl f3)), (h0, .inr (16, [w1, w2, w3, w4, w5, w6, w7, w8, w9, w10, w11, w12, w13, w14, .int (nI 64), .ref ms, .ref dg, .ref wd, w15, w16, w17, w18, w19, w20, w21, w22, w23, w24, w25, w26, w27, w28, w29, w30, w31, w32, w33, w34, w35, w36, w37, w38, w39, w40, w41, w42, w43, w44, w45, w46, w47, w48, w49, w50, w51, w52, w53, w54, w55, w56, w57, w58, w59, w60])), (ms, .inl (y 1, 30000, .inl (zf tM 64 f1)))] := hD
            refine lv_iload hx hb dX12_firstHash_53 (lv_at hl 0 rfl) ?_
            refine lv_bipush (v := 80) hx hb dX12_firstHash_55 (by decide) ?_
            refine lv_icmp_ge (tgt := 311) hx hb dX12_firstHash_57 (by decide) (fun c9 => absurd c9 (ax_c_M_firstHash_45 k5 hk51 hk50)) (fun _ => ?_)
            refine lv_aload_n hx hb dX12_firstHash_60 rfl (lv_at hl 13 rfl) ?_
            refine va_get (D := D) (ci := 16) (v := .ref wd) (C := RX12) (T := TX12) (N := 64) hx hb hts (by decide +kernel) hown hK hP 2 rfl rfl 17 (by decide) (hts (.fieldLink RX12 46 "SignetRingModel" "words" "[I") (by decide +kernel)) (fun _ h9 => h9) rfl dX12_firstHash_61 ?_
            refine lv_iload hx hb dX12_firstHash_64 (lv_at hl 0 rfl) ?_
            refine lv_iload hx hb dX12_firstHash_66 (lv_at hl 0 rfl) ?_
            refine lv_bipush (v := 16) hx hb dX12_firstHash_68 (by decide) ?_
            refine lv_icmp_ge (tgt := 95) hx hb dX12_firstHash_70 (by decide) (fun _ => ?_) (fun c9 => absurd (ax_c_M_firstHash_46 k5 hk51 hk50) c9)
            refine lv_aload_n hx hb dX12_firstHash_95 rfl (lv_at hl 13 rfl) ?_
            refine va_get (D := D) (ci := 16) (v := .ref wd) (C := RX12) (T := TX12) (N := 64) hx hb hts (by decide +kernel) hown hK hP 2 rfl rfl 17 (by decide) (hts (.fieldLink RX12 46 "SignetRingModel" "words" "[I") (by decide +kernel)) (fun _ h9 => h9) rfl dX12_firstHash_96 ?_
            refine lv_iload hx hb dX12_firstHash_99 (lv_at hl 0 rfl) ?_
            refine lv_iconst (v := 3) hx hb dX12_firstHash_101 (by decide) ?_
            refine lv_isub hx hb dX12_firstHash_102 ?_
            refine lv_topi (fun v61 ev61 => ?_)
            have ev61 : v61 = nI (k5 - 3) := ev61.trans (ax_c_M_firstHash_47 k5 hk51 hk50)
            subst ev61
            refine va_iald hx hb hK hP 0 1 rfl rfl (vp_in_nI (by omega) (by decide)) dX12_firstHash_103 ?_
            refine lv_topi (fun v62 ev62 => ?_)
            have ev62 : v62 = tW1 (k5 - 3) := ev62.trans (zf_rd (j := (k5 - 3)) (by omega) (by omega))
            subst ev62
            refine lv_aload_n hx hb dX12_firstHash_104 rfl (lv_at hl 13 rfl) ?_
            refine va_get (D := D) (ci := 16) (v := .ref wd) (C := RX12) (T := TX12) (N := 64) hx hb hts (by decide +kernel) hown hK hP 2 rfl rfl 17 (by decide) (hts (.fieldLink RX12 46 "SignetRingModel" "words" "[I") (by decide +kernel)) (fun _ h9 => h9) rfl dX12_firstHash_105 ?_
            refine lv_iload hx hb dX12_firstHash_108 (lv_at hl 0 rfl) ?_
            refine lv_bipush (v := 8) hx hb dX12_firstHash_110 (by decide) ?_
            refine lv_isub hx hb dX12_firstHash_112 ?_
            refine lv_topi (fun v63 ev63 => ?_)
            have ev63 : v63 = nI (k5 - 8) := ev63.trans (ax_c_M_firstHash_48 k5 hk51 hk50)
            subst ev63
            refine va_iald hx hb hK hP 0 1 rfl rfl (vp_in_nI (by omega) (by decide)) dX12_firstHash_113 ?_
            refine lv_topi (fun v64 ev64 => ?_)
            have ev64 : v64 = tW1 (k5 - 8) := ev64.trans (zf_rd (j := (k5 - 8)) (by omega) (by omega))
            subst ev64
            refine lv_ixor hx hb dX12_firstHash_114 ?_
            refine lv_aload_n hx hb dX12_firstHash_115 rfl (lv_at hl 13 rfl) ?_
            refine va_get (D := D) (ci := 16) (v := .ref wd) (C := RX12) (T := TX12) (N := 64) hx hb hts (by decide +kernel) hown hK hP 2 rfl rfl 17 (by decide) (hts (.fieldLink RX12 46 "SignetRingModel" "words" "[I") (by decide +kernel)) (fun _ h9 => h9) rfl dX12_firstHash_116 ?_
            refine lv_iload hx hb dX12_firstHash_119 (lv_at hl 0 rfl) ?_
            refine lv_bipush (v := 14) hx hb dX12_firstHash_121 (by decide) ?_
            refine lv_isub hx hb dX12_firstHash_123 ?_
            refine lv_topi (fun v65 ev65 => ?_)
            have ev65 : v65 = nI (k5 - 14) := ev65.trans (ax_c_M_firstHash_49 k5 hk51 hk50)
            subst ev65
            refine va_iald hx hb hK hP 0 1 rfl rfl (vp_in_nI (by omega) (by decide)) dX12_firstHash_124 ?_
            refine lv_topi (fun v66 ev66 => ?_)
            have ev66 : v66 = tW1 (k5 - 14) := ev66.trans (zf_rd (j := (k5 - 14)) (by omega) (by omega))
            subst ev66
            refine lv_ixor hx hb dX12_firstHash_125 ?_
            refine lv_aload_n hx hb dX12_firstHash_126 rfl (lv_at hl 13 rfl) ?_
            refine va_get (D := D) (ci := 16) (v := .ref wd) (C := RX12) (T := TX12) (N := 64) hx hb hts (by decide +kernel) hown hK hP 2 rfl rfl 17 (by decide) (hts (.fieldLink RX12 46 "SignetRingModel" "words" "[I") (by decide +kernel)) (fun _ h9 => h9) rfl dX12_firstHash_127 ?_
            refine lv_iload hx hb dX12_firstHash_130 (lv_at hl 0 rfl) ?_
            refine lv_bipush (v := 16) hx hb dX12_firstHash_132 (by decide) ?_
            refine lv_isub hx hb dX12_firstHash_134 ?_
            refine lv_topi (fun v67 ev67 => ?_)
            have ev67 : v67 = nI (k5 - 16) := ev67.trans (ax_c_M_firstHash_50 k5 hk51 hk50)
            subst ev67
            refine va_iald hx hb hK hP 0 1 rfl rfl (vp_in_nI (by omega) (by decide)) dX12_firstHash_135 ?_
            refine lv_topi (fun v68 ev68 => ?_)
            have ev68 : v68 = tW1 (k5 - 16) := ev68.trans (zf_rd (j := (k5 - 16)) (by omega) (by omega))
            subst ev68
            refine lv_ixor hx hb dX12_firstHash_136 ?_
            refine lv_iconst (v := 1) hx hb dX12_firstHash_137 (by decide) ?_
            have hPc := hP.sub (ws' := []) [] rfl
            have hDc := hD.sub (ws' := []) [] (by decide) rfl
            have hFc := va_free (wc := []) hD hS hA [] rfl
            refine va_calli (va_runS (As := [.int ((((tW1 (k5 - 3)) ^^^ (tW1 (k5 - 8))) ^^^ (tW1 (k5 - 14))) ^^^ (tW1 (k5 - 16))), .int 1]) (rest := [.int (nI k5), .ref wd]) ⟨hx, hb, hml, hown, hts⟩ (c_M_left l D y H.size ((((tW1 (k5 - 3)) ^^^ (tW1 (k5 - 8))) ^^^ (tW1 (k5 - 14))) ^^^ (tW1 (k5 - 16))) 1) (va_cwS 2 hts gv_c_M_firstHash_c_M_left_119 rfl rfl rfl (by decide +kernel) ⟨(Nat.le_of_ble_eq_true rfl), (Nat.le_of_ble_eq_true rfl)⟩) (zB.preS hPc hDc hK hN hE hO hT hG hS hFc (fun _ h => nomatch h) (fun _ h => nomatch h) (fun _ h => nomatch h) (fun _ h => nomatch h)) rfl rfl hl.1 rfl (lv_room (Nat.le_of_ble_eq_true rfl)) dX12_firstHash_138 ⟨(Nat.le_of_ble_eq_true rfl), (Nat.le_of_ble_eq_true rfl)⟩) hS (fun q _ h => hFc q h) hFc (fun r69 u t H1 locs ht hvm hw hB hz1 hk1 hS => ?_)
            obtain ⟨hP1, hD1⟩ := hB
            rw [ht] at hP1
            obtain ⟨hP, hD⟩ := va_join (wr := [(wd, .inl (y 1, 80, .inl (zf tW1 k5 f2))), (dg, .inl (y 1, 32, .inl f3)), (h0, .inr (16, [w1, w2, w3, w4, w5, w6, w7, w8, w9, w10, w11, w12, w13, w14, .int (nI 64), .ref ms, .ref dg, .ref wd, w15, w16, w17, w18, w19, w20, w21, w22, w23, w24, w25, w26, w27, w28, w29, w30, w31, w32, w33, w34, w35, w36, w37, w38, w39, w40, w41, w42, w43, w44, w45, w46, w47, w48, w49, w50, w51, w52, w53, w54, w55, w56, w57, w58, w59, w60])), (ms, .inl (y 1, 30000, .inl (zf tM 64 f1)))]) (w1 := []) hP hD [] [0, 1, 2, 3] rfl rfl (by decide) (by decide) hk1 hFc hP1 hD1
            generalize H1 = H at hP hS ⊢
            have hP : va_P D vwCl [(wd, .inl (y 1, 80, .inl (zf tW1 k5 f2))), (dg, .inl (y 1, 32, .inl f3)), (h0, .inr (16, [w1, w2, w3, w4, w5, w6, w7, w8, w9, w10, w11, w12, w13, w14, .int (nI 64), .ref ms, .ref dg, .ref wd, w15, w16, w17, w18, w19, w20, w21, w22, w23, w24, w25, w26, w27, w28, w29, w30, w31, w32, w33, w34, w35, w36, w37, w38, w39, w40, w41, w42, w43, w44, w45, w46, w47, w48, w49, w50, w51, w52, w53, w54, w55, w56, w57, w58, w59, w60])), (ms, .inl (y 1, 30000, .inl (zf tM 64 f1)))] H := hP
            have hD : va_D A [(wd, .inl (y 1, 80, .inl (zf tW1 k5 f2))), (dg, .inl (y 1, 32, .inl f3)), (h0, .inr (16, [w1, w2, w3, w4, w5, w6, w7, w8, w9, w10, w11, w12, w13, w14, .int (nI 64), .ref ms, .ref dg, .ref wd, w15, w16, w17, w18, w19, w20, w21, w22, w23, w24, w25, w26, w27, w28, w29, w30, w31, w32, w33, w34, w35, w36, w37, w38, w39, w40, w41, w42, w43, w44, w45, w46, w47, w48, w49, w50, w51, w52, w53, w54, w55, w56, w57, w58, w59, w60])), (ms, .inl (y 1, 30000, .inl (zf tM 64 f1)))] := hD
            have hw : r69 = (((((tW1 (k5 - 3)) ^^^ (tW1 (k5 - 8))) ^^^ (tW1 (k5 - 14))) ^^^ (tW1 (k5 - 16))) <<< ((1 : Int32) &&& 31)) ||| (zu ((((tW1 (k5 - 3)) ^^^ (tW1 (k5 - 8))) ^^^ (tW1 (k5 - 14))) ^^^ (tW1 (k5 - 16))) ((32 : Int32) - (1 : Int32))) := hw
            subst hw
            refine lv_topi (fun v70 ev70 => ?_)
            have ev70 : v70 = tW1 k5 := ev70.trans (ax_c_M_firstHash_51 k5 hk51 hk50)
            subst ev70
            refine va_iast hx hb hK hP hD hS 0 1 rfl rfl (vp_in_nI (by omega) (by decide)) dX12_firstHash_141 (fun H locs hP hD hS => ?_)
            have hP : va_P D vwCl [(wd, .inl (y 1, 80, .inl (upd (zf tW1 k5 f2) (nI k5).toNatClampNeg (tW1 k5)))), (dg, .inl (y 1, 32, .inl f3)), (h0, .inr (16, [w1, w2, w3, w4, w5, w6, w7, w8, w9, w10, w11, w12, w13, w14, .int (nI 64), .ref ms, .ref dg, .ref wd, w15, w16, w17, w18, w19, w20, w21, w22, w23, w24, w25, w26, w27, w28, w29, w30, w31, w32, w33, w34, w35, w36, w37, w38, w39, w40, w41, w42, w43, w44, w45, w46, w47, w48, w49, w50, w51, w52, w53, w54, w55, w56, w57, w58, w59, w60])), (ms, .inl (y 1, 30000, .inl (zf tM 64 f1)))] H := hP
            have hD : va_D A [(wd, .inl (y 1, 80, .inl (upd (zf tW1 k5 f2) (nI k5).toNatClampNeg (tW1 k5)))), (dg, .inl (y 1, 32, .inl f3)), (h0, .inr (16, [w1, w2, w3, w4, w5, w6, w7, w8, w9, w10, w11, w12, w13, w14, .int (nI 64), .ref ms, .ref dg, .ref wd, w15, w16, w17, w18, w19, w20, w21, w22, w23, w24, w25, w26, w27, w28, w29, w30, w31, w32, w33, w34, w35, w36, w37, w38, w39, w40, w41, w42, w43, w44, w45, w46, w47, w48, w49, w50, w51, w52, w53, w54, w55, w56, w57, w58, w59, w60])), (ms, .inl (y 1, 30000, .inl (zf tM 64 f1)))] := hD
            have u71 : upd (zf tW1 k5 f2) (nI k5).toNatClampNeg (tW1 k5) = zf tW1 (k5 + 1) f2 := (zf_st (n := k5) (by omega) rfl)
            rw [u71] at hP hD
            have hP : va_P D vwCl [(wd, .inl (y 1, 80, .inl (zf tW1 (k5 + 1) f2))), (dg, .inl (y 1, 32, .inl f3)), (h0, .inr (16, [w1, w2, w3, w4, w5, w6, w7, w8, w9, w10, w11, w12, w13, w14, .int (nI 64), .ref ms, .ref dg, .ref wd, w15, w16, w17, w18, w19, w20, w21, w22, w23, w24, w25, w26, w27, w28, w29, w30, w31, w32, w33, w34, w35, w36, w37, w38, w39, w40, w41, w42, w43, w44, w45, w46, w47, w48, w49, w50, w51, w52, w53, w54, w55, w56, w57, w58, w59, w60])), (ms, .inl (y 1, 30000, .inl (zf tM 64 f1)))] H := hP
            have hD : va_D A [(wd, .inl (y 1, 80, .inl (zf tW1 (k5 + 1) f2))), (dg, .inl (y 1, 32, .inl f3)), (h0, .inr (16, [w1, w2, w3, w4, w5, w6, w7, w8, w9, w10, w11, w12, w13, w14, .int (nI 64), .ref ms, .ref dg, .ref wd, w15, w16, w17, w18, w19, w20, w21, w22, w23, w24, w25, w26, w27, w28, w29, w30, w31, w32, w33, w34, w35, w36, w37, w38, w39, w40, w41, w42, w43, w44, w45, w46, w47, w48, w49, w50, w51, w52, w53, w54, w55, w56, w57, w58, w59, w60])), (ms, .inl (y 1, 30000, .inl (zf tM 64 f1)))] := hD
            refine lv_iload hx hb dX12_firstHash_142 (lv_at hl 0 rfl) ?_
            refine lv_bipush (v := 20) hx hb dX12_firstHash_144 (by decide) ?_
            refine lv_icmp_ge (tgt := 163) hx hb dX12_firstHash_146 (by decide) (fun _ => ?_) (fun c9 => absurd (ax_c_M_firstHash_52 k5 hk51 hk50) c9)
            refine lv_iload hx hb dX12_firstHash_163 (lv_at hl 0 rfl) ?_
            refine lv_bipush (v := 40) hx hb dX12_firstHash_165 (by decide) ?_
            refine lv_icmp_ge (tgt := 181) hx hb dX12_firstHash_167 (by decide) (fun _ => ?_) (fun c9 => absurd (ax_c_M_firstHash_53 k5 hk51 hk50) c9)
            refine lv_iload hx hb dX12_firstHash_181 (lv_at hl 0 rfl) ?_
            refine lv_bipush (v := 60) hx hb dX12_firstHash_183 (by decide) ?_
            refine lv_icmp_ge (tgt := 205) hx hb dX12_firstHash_185 (by decide) (fun _ => ?_) (fun c9 => absurd (ax_c_M_firstHash_54 k5 hk51 hk50) c9)
            refine lv_iload hx hb dX12_firstHash_205 (lv_at hl 4 rfl) ?_
            refine lv_iload hx hb dX12_firstHash_207 (lv_at hl 3 rfl) ?_
            refine lv_ixor hx hb dX12_firstHash_209 ?_
            refine lv_iload hx hb dX12_firstHash_210 (lv_at hl 2 rfl) ?_
            refine lv_ixor hx hb dX12_firstHash_212 ?_
            refine lv_istore (lv' := [(14, .int (((tA (k5 + 3)) ^^^ (tC (k5 + 2))) ^^^ (tC (k5 + 1)))), (13, .int (nI k5)), (12, .int (tC k5)), (11, .int (tC (k5 + 1))), (10, .int (tC (k5 + 2))), (9, .int (tA (k5 + 3))), (8, .int (tA (k5 + 4))), (7, .int 0), (6, .int (-1009589776)), (5, .int 271733878), (4, .int (-1732584194)), (3, .int (-271733879)), (2, .int 1732584193), (1, .int 1), (0, .ref h0)]) hx hb dX12_firstHash_213 hl (by decide) rfl (fun ls hl => ?_)
            refine lv_iload hx hb dX12_firstHash_215 (lv_at hl 1 rfl) ?_
            refine lv_bipush (v := 20) hx hb dX12_firstHash_217 (by decide) ?_
            refine lv_icmp_ge (tgt := 227) hx hb dX12_firstHash_219 (by decide) (fun _ => ?_) (fun c9 => absurd (ax_c_M_firstHash_52 k5 hk51 hk50) c9)
            refine lv_iload hx hb dX12_firstHash_227 (lv_at hl 1 rfl) ?_
            refine lv_bipush (v := 40) hx hb dX12_firstHash_229 (by decide) ?_
            refine lv_icmp_ge (tgt := 239) hx hb dX12_firstHash_231 (by decide) (fun _ => ?_) (fun c9 => absurd (ax_c_M_firstHash_53 k5 hk51 hk50) c9)
            refine lv_iload hx hb dX12_firstHash_239 (lv_at hl 1 rfl) ?_
            refine lv_bipush (v := 60) hx hb dX12_firstHash_241 (by decide) ?_
            refine lv_icmp_ge (tgt := 251) hx hb dX12_firstHash_243 (by decide) (fun _ => ?_) (fun c9 => absurd (ax_c_M_firstHash_54 k5 hk51 hk50) c9)
            refine lv_ldc (v := -899497514) hx hb hown (hts (.constant RX12 126 (-899497514)) (by decide +kernel)) dX12_firstHash_251 ?_
            refine lv_istore (lv' := [(15, .int (-899497514)), (14, .int (((tA (k5 + 3)) ^^^ (tC (k5 + 2))) ^^^ (tC (k5 + 1)))), (13, .int (nI k5)), (12, .int (tC k5)), (11, .int (tC (k5 + 1))), (10, .int (tC (k5 + 2))), (9, .int (tA (k5 + 3))), (8, .int (tA (k5 + 4))), (7, .int 0), (6, .int (-1009589776)), (5, .int 271733878), (4, .int (-1732584194)), (3, .int (-271733879)), (2, .int 1732584193), (1, .int 1), (0, .ref h0)]) hx hb dX12_firstHash_253 hl (by decide) rfl (fun ls hl => ?_)
            refine lv_iload hx hb dX12_firstHash_255 (lv_at hl 7 rfl) ?_
            refine lv_iconst (v := 5) hx hb dX12_firstHash_257 (by decide) ?_
            have hPc := hP.sub (ws' := []) [] rfl
            have hDc := hD.sub (ws' := []) [] (by decide) rfl
            have hFc := va_free (wc := []) hD hS hA [] rfl
            refine va_calli (va_runS (As := [.int (tA (k5 + 4)), .int 5]) (rest := []) ⟨hx, hb, hml, hown, hts⟩ (c_M_left l D y H.size (tA (k5 + 4)) 5) (va_cwS 2 hts gv_c_M_firstHash_c_M_left_119 rfl rfl rfl (by decide +kernel) ⟨(Nat.le_of_ble_eq_true rfl), (Nat.le_of_ble_eq_true rfl)⟩) (zB.preS hPc hDc hK hN hE hO hT hG hS hFc (fun _ h => nomatch h) (fun _ h => nomatch h) (fun _ h => nomatch h) (fun _ h => nomatch h)) rfl rfl hl.1 rfl (lv_room (Nat.le_of_ble_eq_true rfl)) dX12_firstHash_258 ⟨(Nat.le_of_ble_eq_true rfl), (Nat.le_of_ble_eq_true rfl)⟩) hS (fun q _ h => hFc q h) hFc (fun r72 u t H1 locs ht hvm hw hB hz1 hk1 hS => ?_)
            obtain ⟨hP1, hD1⟩ := hB
            rw [ht] at hP1
            obtain ⟨hP, hD⟩ := va_join (wr := [(wd, .inl (y 1, 80, .inl (zf tW1 (k5 + 1) f2))), (dg, .inl (y 1, 32, .inl f3)), (h0, .inr (16, [w1, w2, w3, w4, w5, w6, w7, w8, w9, w10, w11, w12, w13, w14, .int (nI 64), .ref ms, .ref dg, .ref wd, w15, w16, w17, w18, w19, w20, w21, w22, w23, w24, w25, w26, w27, w28, w29, w30, w31, w32, w33, w34, w35, w36, w37, w38, w39, w40, w41, w42, w43, w44, w45, w46, w47, w48, w49, w50, w51, w52, w53, w54, w55, w56, w57, w58, w59, w60])), (ms, .inl (y 1, 30000, .inl (zf tM 64 f1)))]) (w1 := []) hP hD [] [0, 1, 2, 3] rfl rfl (by decide) (by decide) hk1 hFc hP1 hD1
            generalize H1 = H at hP hS ⊢
            have hP : va_P D vwCl [(wd, .inl (y 1, 80, .inl (zf tW1 (k5 + 1) f2))), (dg, .inl (y 1, 32, .inl f3)), (h0, .inr (16, [w1, w2, w3, w4, w5, w6, w7, w8, w9, w10, w11, w12, w13, w14, .int (nI 64), .ref ms, .ref dg, .ref wd, w15, w16, w17, w18, w19, w20, w21, w22, w23, w24, w25, w26, w27, w28, w29, w30, w31, w32, w33, w34, w35, w36, w37, w38, w39, w40, w41, w42, w43, w44, w45, w46, w47, w48, w49, w50, w51, w52, w53, w54, w55, w56, w57, w58, w59, w60])), (ms, .inl (y 1, 30000, .inl (zf tM 64 f1)))] H := hP
            have hD : va_D A [(wd, .inl (y 1, 80, .inl (zf tW1 (k5 + 1) f2))), (dg, .inl (y 1, 32, .inl f3)), (h0, .inr (16, [w1, w2, w3, w4, w5, w6, w7, w8, w9, w10, w11, w12, w13, w14, .int (nI 64), .ref ms, .ref dg, .ref wd, w15, w16, w17, w18, w19, w20, w21, w22, w23, w24, w25, w26, w27, w28, w29, w30, w31, w32, w33, w34, w35, w36, w37, w38, w39, w40, w41, w42, w43, w44, w45, w46, w47, w48, w49, w50, w51, w52, w53, w54, w55, w56, w57, w58, w59, w60])), (ms, .inl (y 1, 30000, .inl (zf tM 64 f1)))] := hD
            have hw : r72 = ((tA (k5 + 4)) <<< ((5 : Int32) &&& 31)) ||| (zu (tA (k5 + 4)) ((32 : Int32) - (5 : Int32))) := hw
            subst hw
            refine lv_iload hx hb dX12_firstHash_261 (lv_at hl 1 rfl) ?_
            refine lv_iadd hx hb dX12_firstHash_263 ?_
            refine lv_iload hx hb dX12_firstHash_264 (lv_at hl 3 rfl) ?_
            refine lv_iadd hx hb dX12_firstHash_266 ?_
            refine lv_iload hx hb dX12_firstHash_267 (lv_at hl 0 rfl) ?_
            refine lv_iadd hx hb dX12_firstHash_269 ?_
            refine lv_aload_n hx hb dX12_firstHash_270 rfl (lv_at hl 15 rfl) ?_
            refine va_get (D := D) (ci := 16) (v := .ref wd) (C := RX12) (T := TX12) (N := 64) hx hb hts (by decide +kernel) hown hK hP 2 rfl rfl 17 (by decide) (hts (.fieldLink RX12 46 "SignetRingModel" "words" "[I") (by decide +kernel)) (fun _ h9 => h9) rfl dX12_firstHash_271 ?_
            refine lv_iload hx hb dX12_firstHash_274 (lv_at hl 2 rfl) ?_
            refine va_iald hx hb hK hP 0 1 rfl rfl (vp_in_nI (by omega) (by decide)) dX12_firstHash_276 ?_
            refine lv_topi (fun v73 ev73 => ?_)
            have ev73 : v73 = tW1 k5 := ev73.trans (zf_rd (j := k5) (by omega) (by omega))
            subst ev73
            refine lv_iadd hx hb dX12_firstHash_277 ?_
            refine lv_topi (fun v74 ev74 => ?_)
            have ev74 : v74 = tA (k5 + 5) := ev74.trans (ax_c_M_firstHash_55 k5 hk51 hk50)
            subst ev74
            refine lv_istore (lv' := [(16, .int (tA (k5 + 5))), (15, .int (-899497514)), (14, .int (((tA (k5 + 3)) ^^^ (tC (k5 + 2))) ^^^ (tC (k5 + 1)))), (13, .int (nI k5)), (12, .int (tC k5)), (11, .int (tC (k5 + 1))), (10, .int (tC (k5 + 2))), (9, .int (tA (k5 + 3))), (8, .int (tA (k5 + 4))), (7, .int 0), (6, .int (-1009589776)), (5, .int 271733878), (4, .int (-1732584194)), (3, .int (-271733879)), (2, .int 1732584193), (1, .int 1), (0, .ref h0)]) hx hb dX12_firstHash_278 hl (by decide) rfl (fun ls hl => ?_)
            refine lv_iload hx hb dX12_firstHash_280 (lv_at hl 5 rfl) ?_
            refine lv_istore (lv' := [(12, .int (tC (k5 + 1))), (16, .int (tA (k5 + 5))), (15, .int (-899497514)), (14, .int (((tA (k5 + 3)) ^^^ (tC (k5 + 2))) ^^^ (tC (k5 + 1)))), (13, .int (nI k5)), (11, .int (tC (k5 + 1))), (10, .int (tC (k5 + 2))), (9, .int (tA (k5 + 3))), (8, .int (tA (k5 + 4))), (7, .int 0), (6, .int (-1009589776)), (5, .int 271733878), (4, .int (-1732584194)), (3, .int (-271733879)), (2, .int 1732584193), (1, .int 1), (0, .ref h0)]) hx hb dX12_firstHash_282 hl (by decide) rfl (fun ls hl => ?_)
            refine lv_iload hx hb dX12_firstHash_284 (lv_at hl 6 rfl) ?_
            refine lv_istore (lv' := [(11, .int (tC (k5 + 2))), (12, .int (tC (k5 + 1))), (16, .int (tA (k5 + 5))), (15, .int (-899497514)), (14, .int (((tA (k5 + 3)) ^^^ (tC (k5 + 2))) ^^^ (tC (k5 + 1)))), (13, .int (nI k5)), (10, .int (tC (k5 + 2))), (9, .int (tA (k5 + 3))), (8, .int (tA (k5 + 4))), (7, .int 0), (6, .int (-1009589776)), (5, .int 271733878), (4, .int (-1732584194)), (3, .int (-271733879)), (2, .int 1732584193), (1, .int 1), (0, .ref h0)]) hx hb dX12_firstHash_286 hl (by decide) rfl (fun ls hl => ?_)
            refine lv_iload hx hb dX12_firstHash_288 (lv_at hl 7 rfl) ?_
            refine lv_bipush (v := 30) hx hb dX12_firstHash_290 (by decide) ?_
            have hPc := hP.sub (ws' := []) [] rfl
            have hDc := hD.sub (ws' := []) [] (by decide) rfl
            have hFc := va_free (wc := []) hD hS hA [] rfl
            refine va_calli (va_runS (As := [.int (tA (k5 + 3)), .int 30]) (rest := []) ⟨hx, hb, hml, hown, hts⟩ (c_M_left l D y H.size (tA (k5 + 3)) 30) (va_cwS 2 hts gv_c_M_firstHash_c_M_left_119 rfl rfl rfl (by decide +kernel) ⟨(Nat.le_of_ble_eq_true rfl), (Nat.le_of_ble_eq_true rfl)⟩) (zB.preS hPc hDc hK hN hE hO hT hG hS hFc (fun _ h => nomatch h) (fun _ h => nomatch h) (fun _ h => nomatch h) (fun _ h => nomatch h)) rfl rfl hl.1 rfl (lv_room (Nat.le_of_ble_eq_true rfl)) dX12_firstHash_292 ⟨(Nat.le_of_ble_eq_true rfl), (Nat.le_of_ble_eq_true rfl)⟩) hS (fun q _ h => hFc q h) hFc (fun r75 u t H1 locs ht hvm hw hB hz1 hk1 hS => ?_)
            obtain ⟨hP1, hD1⟩ := hB
            rw [ht] at hP1
            obtain ⟨hP, hD⟩ := va_join (wr := [(wd, .inl (y 1, 80, .inl (zf tW1 (k5 + 1) f2))), (dg, .inl (y 1, 32, .inl f3)), (h0, .inr (16, [w1, w2, w3, w4, w5, w6, w7, w8, w9, w10, w11, w12, w13, w14, .int (nI 64), .ref ms, .ref dg, .ref wd, w15, w16, w17, w18, w19, w20, w21, w22, w23, w24, w25, w26, w27, w28, w29, w30, w31, w32, w33, w34, w35, w36, w37, w38, w39, w40, w41, w42, w43, w44, w45, w46, w47, w48, w49, w50, w51, w52, w53, w54, w55, w56, w57, w58, w59, w60])), (ms, .inl (y 1, 30000, .inl (zf tM 64 f1)))]) (w1 := []) hP hD [] [0, 1, 2, 3] rfl rfl (by decide) (by decide) hk1 hFc hP1 hD1
            generalize H1 = H at hP hS ⊢
            have hP : va_P D vwCl [(wd, .inl (y 1, 80, .inl (zf tW1 (k5 + 1) f2))), (dg, .inl (y 1, 32, .inl f3)), (h0, .inr (16, [w1, w2, w3, w4, w5, w6, w7, w8, w9, w10, w11, w12, w13, w14, .int (nI 64), .ref ms, .ref dg, .ref wd, w15, w16, w17, w18, w19, w20, w21, w22, w23, w24, w25, w26, w27, w28, w29, w30, w31, w32, w33, w34, w35, w36, w37, w38, w39, w40, w41, w42, w43, w44, w45, w46, w47, w48, w49, w50, w51, w52, w53, w54, w55, w56, w57, w58, w59, w60])), (ms, .inl (y 1, 30000, .inl (zf tM 64 f1)))] H := hP
            have hD : va_D A [(wd, .inl (y 1, 80, .inl (zf tW1 (k5 + 1) f2))), (dg, .inl (y 1, 32, .inl f3)), (h0, .inr (16, [w1, w2, w3, w4, w5, w6, w7, w8, w9, w10, w11, w12, w13, w14, .int (nI 64), .ref ms, .ref dg, .ref wd, w15, w16, w17, w18, w19, w20, w21, w22, w23, w24, w25, w26, w27, w28, w29, w30, w31, w32, w33, w34, w35, w36, w37, w38, w39, w40, w41, w42, w43, w44, w45, w46, w47, w48, w49, w50, w51, w52, w53, w54, w55, w56, w57, w58, w59, w60])), (ms, .inl (y 1, 30000, .inl (zf tM 64 f1)))] := hD
            have hw : r75 = ((tA (k5 + 3)) <<< ((30 : Int32) &&& 31)) ||| (zu (tA (k5 + 3)) ((32 : Int32) - (30 : Int32))) := hw
            subst hw
            refine lv_topi (fun v76 ev76 => ?_)
            have ev76 : v76 = tC (k5 + 3) := ev76.trans (ax_c_M_firstHash_56 k5 hk51 hk50)
            subst ev76
            refine lv_istore (lv' := [(10, .int (tC (k5 + 3))), (11, .int (tC (k5 + 2))), (12, .int (tC (k5 + 1))), (16, .int (tA (k5 + 5))), (15, .int (-899497514)), (14, .int (((tA (k5 + 3)) ^^^ (tC (k5 + 2))) ^^^ (tC (k5 + 1)))), (13, .int (nI k5)), (9, .int (tA (k5 + 3))), (8, .int (tA (k5 + 4))), (7, .int 0), (6, .int (-1009589776)), (5, .int 271733878), (4, .int (-1732584194)), (3, .int (-271733879)), (2, .int 1732584193), (1, .int 1), (0, .ref h0)]) hx hb dX12_firstHash_295 hl (by decide) rfl (fun ls hl => ?_)
            refine lv_iload hx hb dX12_firstHash_297 (lv_at hl 8 rfl) ?_
            refine lv_istore (lv' := [(9, .int (tA (k5 + 4))), (10, .int (tC (k5 + 3))), (11, .int (tC (k5 + 2))), (12, .int (tC (k5 + 1))), (16, .int (tA (k5 + 5))), (15, .int (-899497514)), (14, .int (((tA (k5 + 3)) ^^^ (tC (k5 + 2))) ^^^ (tC (k5 + 1)))), (13, .int (nI k5)), (8, .int (tA (k5 + 4))), (7, .int 0), (6, .int (-1009589776)), (5, .int 271733878), (4, .int (-1732584194)), (3, .int (-271733879)), (2, .int 1732584193), (1, .int 1), (0, .ref h0)]) hx hb dX12_firstHash_299 hl (by decide) rfl (fun ls hl => ?_)
            refine lv_iload hx hb dX12_firstHash_301 (lv_at hl 4 rfl) ?_
            refine lv_istore (lv' := [(8, .int (tA (k5 + 5))), (9, .int (tA (k5 + 4))), (10, .int (tC (k5 + 3))), (11, .int (tC (k5 + 2))), (12, .int (tC (k5 + 1))), (16, .int (tA (k5 + 5))), (15, .int (-899497514)), (14, .int (((tA (k5 + 3)) ^^^ (tC (k5 + 2))) ^^^ (tC (k5 + 1)))), (13, .int (nI k5)), (7, .int 0), (6, .int (-1009589776)), (5, .int 271733878), (4, .int (-1732584194)), (3, .int (-271733879)), (2, .int 1732584193), (1, .int 1), (0, .ref h0)]) hx hb dX12_firstHash_303 hl (by decide) rfl (fun ls hl => ?_)
            refine lv_iinc (v := nI (k5 + 1)) (lv' := [(13, .int (nI (k5 + 1))), (8, .int (tA (k5 + 5))), (9, .int (tA (k5 + 4))), (10, .int (tC (k5 + 3))), (11, .int (tC (k5 + 2))), (12, .int (tC (k5 + 1))), (16, .int (tA (k5 + 5))), (15, .int (-899497514)), (14, .int (((tA (k5 + 3)) ^^^ (tC (k5 + 2))) ^^^ (tC (k5 + 1)))), (7, .int 0), (6, .int (-1009589776)), (5, .int 271733878), (4, .int (-1732584194)), (3, .int (-271733879)), (2, .int 1732584193), (1, .int 1), (0, .ref h0)]) hx hb dX12_firstHash_305 hl (k := 8) rfl (ax_c_M_firstHash_57 k5 hk51 hk50) (by decide) rfl (fun ls hl => ?_)
            refine lv_goto (tgt := 53) hx hb dX12_firstHash_308 (by decide) ?_
            exact ih ls H locs ⟨hP, hD, hS, lv_sub hl [0, 5, 4, 3, 2, 1, 9, 10, 11, 12, 13, 14, 15, 16] rfl⟩
          · obtain ⟨hP, hD, hS, hl⟩ := hI
            have hl : lv_has ls 17 [(13, .int (nI 80)), (12, .int (tC 80)), (11, .int (tC 81)), (10, .int (tC 82)), (9, .int (tA 83)), (8, .int (tA 84)), (7, .int 0), (6, .int (-1009589776)), (5, .int 271733878), (4, .int (-1732584194)), (3, .int (-271733879)), (2, .int 1732584193), (1, .int 1), (0, .ref h0)] := hl
            have hP : va_P D vwCl [(wd, .inl (y 1, 80, .inl (zf tW1 80 f2))), (dg, .inl (y 1, 32, .inl f3)), (h0, .inr (16, [w1, w2, w3, w4, w5, w6, w7, w8, w9, w10, w11, w12, w13, w14, .int (nI 64), .ref ms, .ref dg, .ref wd, w15, w16, w17, w18, w19, w20, w21, w22, w23, w24, w25, w26, w27, w28, w29, w30, w31, w32, w33, w34, w35, w36, w37, w38, w39, w40, w41, w42, w43, w44, w45, w46, w47, w48, w49, w50, w51, w52, w53, w54, w55, w56, w57, w58, w59, w60])), (ms, .inl (y 1, 30000, .inl (zf tM 64 f1)))] H := hP
            have hD : va_D A [(wd, .inl (y 1, 80, .inl (zf tW1 80 f2))), (dg, .inl (y 1, 32, .inl f3)), (h0, .inr (16, [w1, w2, w3, w4, w5, w6, w7, w8, w9, w10, w11, w12, w13, w14, .int (nI 64), .ref ms, .ref dg, .ref wd, w15, w16, w17, w18, w19, w20, w21, w22, w23, w24, w25, w26, w27, w28, w29, w30, w31, w32, w33, w34, w35, w36, w37, w38, w39, w40, w41, w42, w43, w44, w45, w46, w47, w48, w49, w50, w51, w52, w53, w54, w55, w56, w57, w58, w59, w60])), (ms, .inl (y 1, 30000, .inl (zf tM 64 f1)))] := hD
            refine lv_iload hx hb dX12_firstHash_53 (lv_at hl 0 rfl) ?_
            refine lv_bipush (v := 80) hx hb dX12_firstHash_55 (by decide) ?_
            refine lv_icmp_ge (tgt := 311) hx hb dX12_firstHash_57 (by decide) (fun _ => ?_) (fun c9 => absurd (by decide) c9)
            refine lv_iload_n hx hb dX12_firstHash_311 rfl (lv_at hl 11 rfl) ?_
            refine lv_iload hx hb dX12_firstHash_312 (lv_at hl 5 rfl) ?_
            refine lv_iadd hx hb dX12_firstHash_314 ?_
            refine lv_topi (fun v77 ev77 => ?_)
            have ev77 : v77 = -633756690 := ev77.trans (by decide +kernel)
            subst ev77
            refine lv_istore_n (lv' := [(2, .int (-633756690)), (13, .int (nI 80)), (12, .int (tC 80)), (11, .int (tC 81)), (10, .int (tC 82)), (9, .int (tA 83)), (8, .int (tA 84)), (7, .int 0), (6, .int (-1009589776)), (5, .int 271733878), (4, .int (-1732584194)), (3, .int (-271733879)), (1, .int 1), (0, .ref h0)]) hx hb dX12_firstHash_315 rfl hl (by decide) rfl (fun ls hl => ?_)
            refine lv_iload_n hx hb dX12_firstHash_316 rfl (lv_at hl 11 rfl) ?_
            refine lv_iload hx hb dX12_firstHash_317 (lv_at hl 5 rfl) ?_
            refine lv_iadd hx hb dX12_firstHash_319 ?_
            refine lv_topi (fun v78 ev78 => ?_)
            have ev78 : v78 = 1584089869 := ev78.trans (by decide +kernel)
            subst ev78
            refine lv_istore_n (lv' := [(3, .int 1584089869), (2, .int (-633756690)), (13, .int (nI 80)), (12, .int (tC 80)), (11, .int (tC 81)), (10, .int (tC 82)), (9, .int (tA 83)), (8, .int (tA 84)), (7, .int 0), (6, .int (-1009589776)), (5, .int 271733878), (4, .int (-1732584194)), (1, .int 1), (0, .ref h0)]) hx hb dX12_firstHash_320 rfl hl (by decide) rfl (fun ls hl => ?_)
            refine lv_iload hx hb dX12_firstHash_321 (lv_at hl 11 rfl) ?_
            refine lv_iload hx hb dX12_firstHash_323 (lv_at hl 5 rfl) ?_
            refine lv_iadd hx hb dX12_firstHash_325 ?_
            refine lv_topi (fun v79 ev79 => ?_)
            have ev79 : v79 = 844480495 := ev79.trans (by decide +kernel)
            subst ev79
            refine lv_istore (lv' := [(4, .int 844480495), (3, .int 1584089869), (2, .int (-633756690)), (13, .int (nI 80)), (12, .int (tC 80)), (11, .int (tC 81)), (10, .int (tC 82)), (9, .int (tA 83)), (8, .int (tA 84)), (7, .int 0), (6, .int (-1009589776)), (5, .int 271733878), (1, .int 1), (0, .ref h0)]) hx hb dX12_firstHash_326 hl (by decide) rfl (fun ls hl => ?_)
            refine lv_iload hx hb dX12_firstHash_328 (lv_at hl 11 rfl) ?_
            refine lv_iload hx hb dX12_firstHash_330 (lv_at hl 5 rfl) ?_
            refine lv_iadd hx hb dX12_firstHash_332 ?_
            refine lv_topi (fun v80 ev80 => ?_)
            have ev80 : v80 = -1788864368 := ev80.trans (by decide +kernel)
            subst ev80
            refine lv_istore (lv' := [(5, .int (-1788864368)), (4, .int 844480495), (3, .int 1584089869), (2, .int (-633756690)), (13, .int (nI 80)), (12, .int (tC 80)), (11, .int (tC 81)), (10, .int (tC 82)), (9, .int (tA 83)), (8, .int (tA 84)), (7, .int 0), (6, .int (-1009589776)), (1, .int 1), (0, .ref h0)]) hx hb dX12_firstHash_333 hl (by decide) rfl (fun ls hl => ?_)
            refine lv_iload hx hb dX12_firstHash_335 (lv_at hl 11 rfl) ?_
            refine lv_iload hx hb dX12_firstHash_337 (lv_at hl 5 rfl) ?_
            refine lv_iadd hx hb dX12_firstHash_339 ?_
            refine lv_topi (fun v81 ev81 => ?_)
            have ev81 : v81 = -1344796919 := ev81.trans (by decide +kernel)
            subst ev81
            refine lv_istore (lv' := [(6, .int (-1344796919)), (5, .int (-1788864368)), (4, .int 844480495), (3, .int 1584089869), (2, .int (-633756690)), (13, .int (nI 80)), (12, .int (tC 80)), (11, .int (tC 81)), (10, .int (tC 82)), (9, .int (tA 83)), (8, .int (tA 84)), (7, .int 0), (1, .int 1), (0, .ref h0)]) hx hb dX12_firstHash_340 hl (by decide) rfl (fun ls hl => ?_)
            refine lv_iinc (v := 1) (lv' := [(7, .int 1), (6, .int (-1344796919)), (5, .int (-1788864368)), (4, .int 844480495), (3, .int 1584089869), (2, .int (-633756690)), (13, .int (nI 80)), (12, .int (tC 80)), (11, .int (tC 81)), (10, .int (tC 82)), (9, .int (tA 83)), (8, .int (tA 84)), (1, .int 1), (0, .ref h0)]) hx hb dX12_firstHash_342 hl (k := 11) rfl (by decide) (by decide) rfl (fun ls hl => ?_)
            refine lv_goto (tgt := 26) hx hb dX12_firstHash_345 (by decide) ?_
            refine lv_iload hx hb dX12_firstHash_26 (lv_at hl 0 rfl) ?_
            refine lv_iload_n hx hb dX12_firstHash_28 rfl (lv_at hl 12 rfl) ?_
            refine lv_icmp_ge (tgt := 348) hx hb dX12_firstHash_29 (by decide) (fun _ => ?_) (fun c9 => absurd (by decide) c9)
            refine lv_aload_n hx hb dX12_firstHash_348 rfl (lv_at hl 13 rfl) ?_
            refine lv_iconst (v := 0) hx hb dX12_firstHash_349 (by decide) ?_
            refine lv_iload_n hx hb dX12_firstHash_350 rfl (lv_at hl 5 rfl) ?_
            have hPc := hP.sub (ws' := [(h0, .inr (16, [w1, w2, w3, w4, w5, w6, w7, w8, w9, w10, w11, w12, w13, w14, .int (nI 64), .ref ms, .ref dg, .ref wd, w15, w16, w17, w18, w19, w20, w21, w22, w23, w24, w25, w26, w27, w28, w29, w30, w31, w32, w33, w34, w35, w36, w37, w38, w39, w40, w41, w42, w43, w44, w45, w46, w47, w48, w49, w50, w51, w52, w53, w54, w55, w56, w57, w58, w59, w60])), (dg, .inl (y 1, 32, .inl f3))]) [2, 1] rfl
            have hDc := hD.sub (ws' := [(h0, .inr (16, [w1, w2, w3, w4, w5, w6, w7, w8, w9, w10, w11, w12, w13, w14, .int (nI 64), .ref ms, .ref dg, .ref wd, w15, w16, w17, w18, w19, w20, w21, w22, w23, w24, w25, w26, w27, w28, w29, w30, w31, w32, w33, w34, w35, w36, w37, w38, w39, w40, w41, w42, w43, w44, w45, w46, w47, w48, w49, w50, w51, w52, w53, w54, w55, w56, w57, w58, w59, w60])), (dg, .inl (y 1, 32, .inl f3))]) [2, 1] (by decide) rfl
            have hFc := va_free (wc := [(h0, .inr (16, [w1, w2, w3, w4, w5, w6, w7, w8, w9, w10, w11, w12, w13, w14, .int (nI 64), .ref ms, .ref dg, .ref wd, w15, w16, w17, w18, w19, w20, w21, w22, w23, w24, w25, w26, w27, w28, w29, w30, w31, w32, w33, w34, w35, w36, w37, w38, w39, w40, w41, w42, w43, w44, w45, w46, w47, w48, w49, w50, w51, w52, w53, w54, w55, w56, w57, w58, w59, w60])), (dg, .inl (y 1, 32, .inl f3))]) hD hS hA [2, 1] rfl
            refine va_callv (va_runV (As := [.int 0, .int (-633756690)]) (rest := []) ⟨hx, hb, hml, hown, hts⟩ (c_M_keep_1_0 l D y H.size h0 dg w1 w2 w3 w4 w5 w6 w7 w8 w9 w10 w11 w12 w13 w14 ((.int (nI 64))) ((.ref ms)) ((.ref wd)) w15 w16 w17 w18 w19 w20 w21 w22 w23 w24 w25 w26 w27 w28 w29 w30 w31 w32 w33 w34 w35 w36 w37 w38 w39 w40 w41 w42 w43 w44 w45 w46 w47 w48 w49 w50 w51 w52 w53 w54 w55 w56 w57 w58 w59 w60 f3) (cwV 2 hts gv_c_M_firstHash_c_M_keep_1_0_127 rfl rfl rfl (by decide +kernel) ⟨(Nat.le_of_ble_eq_true rfl), (Nat.le_of_ble_eq_true rfl)⟩) (zB.preV hPc hDc hK hN hE hO hT hG hS hFc (fun _ h => nomatch h) (fun _ h => nomatch h) (fun _ h => nomatch h) (fun _ h => nomatch h) (va_recv hK hPc (ci := 16) (q0 := 0) rfl rfl)) rfl rfl hl.1 rfl (lv_room (Nat.le_of_ble_eq_true rfl)) dX12_firstHash_351 ⟨(Nat.le_of_ble_eq_true rfl), (Nat.le_of_ble_eq_true rfl)⟩) hS (fun q _ h => hFc q h) hFc (fun u t H1 locs ht hvm hw hB hz1 hk1 hS => ?_)
            obtain ⟨hP1, hD1⟩ := hB
            rw [ht] at hP1
            obtain ⟨hP, hD⟩ := va_join (wr := [(wd, .inl (y 1, 80, .inl (zf tW1 80 f2))), (ms, .inl (y 1, 30000, .inl (zf tM 64 f1)))]) (w1 := [(h0, .inr (16, [w1, w2, w3, w4, w5, w6, w7, w8, w9, w10, w11, w12, w13, w14, .int (nI 64), .ref ms, .ref dg, .ref wd, w15, w16, w17, w18, w19, w20, w21, w22, w23, w24, w25, w26, w27, w28, w29, w30, w31, w32, w33, w34, w35, w36, w37, w38, w39, w40, w41, w42, w43, w44, w45, w46, w47, w48, w49, w50, w51, w52, w53, w54, w55, w56, w57, w58, w59, w60])), (dg, .inl (y 1, 32, .inl (zf tO1 4 f3)))]) hP hD [2, 1] [0, 3] rfl rfl (by decide) (by decide) hk1 hFc hP1 hD1
            generalize H1 = H at hP hS ⊢
            have hP : va_P D vwCl [(wd, .inl (y 1, 80, .inl (zf tW1 80 f2))), (ms, .inl (y 1, 30000, .inl (zf tM 64 f1))), (h0, .inr (16, [w1, w2, w3, w4, w5, w6, w7, w8, w9, w10, w11, w12, w13, w14, .int (nI 64), .ref ms, .ref dg, .ref wd, w15, w16, w17, w18, w19, w20, w21, w22, w23, w24, w25, w26, w27, w28, w29, w30, w31, w32, w33, w34, w35, w36, w37, w38, w39, w40, w41, w42, w43, w44, w45, w46, w47, w48, w49, w50, w51, w52, w53, w54, w55, w56, w57, w58, w59, w60])), (dg, .inl (y 1, 32, .inl (zf tO1 4 f3)))] H := hP
            have hD : va_D A [(wd, .inl (y 1, 80, .inl (zf tW1 80 f2))), (ms, .inl (y 1, 30000, .inl (zf tM 64 f1))), (h0, .inr (16, [w1, w2, w3, w4, w5, w6, w7, w8, w9, w10, w11, w12, w13, w14, .int (nI 64), .ref ms, .ref dg, .ref wd, w15, w16, w17, w18, w19, w20, w21, w22, w23, w24, w25, w26, w27, w28, w29, w30, w31, w32, w33, w34, w35, w36, w37, w38, w39, w40, w41, w42, w43, w44, w45, w46, w47, w48, w49, w50, w51, w52, w53, w54, w55, w56, w57, w58, w59, w60])), (dg, .inl (y 1, 32, .inl (zf tO1 4 f3)))] := hD
            refine lv_aload_n hx hb dX12_firstHash_354 rfl (lv_at hl 13 rfl) ?_
            refine lv_iconst (v := 1) hx hb dX12_firstHash_355 (by decide) ?_
            refine lv_iload_n hx hb dX12_firstHash_356 rfl (lv_at hl 4 rfl) ?_
            have hPc := hP.sub (ws' := [(h0, .inr (16, [w1, w2, w3, w4, w5, w6, w7, w8, w9, w10, w11, w12, w13, w14, .int (nI 64), .ref ms, .ref dg, .ref wd, w15, w16, w17, w18, w19, w20, w21, w22, w23, w24, w25, w26, w27, w28, w29, w30, w31, w32, w33, w34, w35, w36, w37, w38, w39, w40, w41, w42, w43, w44, w45, w46, w47, w48, w49, w50, w51, w52, w53, w54, w55, w56, w57, w58, w59, w60])), (dg, .inl (y 1, 32, .inl (zf tO1 4 f3)))]) [2, 3] rfl
            have hDc := hD.sub (ws' := [(h0, .inr (16, [w1, w2, w3, w4, w5, w6, w7, w8, w9, w10, w11, w12, w13, w14, .int (nI 64), .ref ms, .ref dg, .ref wd, w15, w16, w17, w18, w19, w20, w21, w22, w23, w24, w25, w26, w27, w28, w29, w30, w31, w32, w33, w34, w35, w36, w37, w38, w39, w40, w41, w42, w43, w44, w45, w46, w47, w48, w49, w50, w51, w52, w53, w54, w55, w56, w57, w58, w59, w60])), (dg, .inl (y 1, 32, .inl (zf tO1 4 f3)))]) [2, 3] (by decide) rfl
            have hFc := va_free (wc := [(h0, .inr (16, [w1, w2, w3, w4, w5, w6, w7, w8, w9, w10, w11, w12, w13, w14, .int (nI 64), .ref ms, .ref dg, .ref wd, w15, w16, w17, w18, w19, w20, w21, w22, w23, w24, w25, w26, w27, w28, w29, w30, w31, w32, w33, w34, w35, w36, w37, w38, w39, w40, w41, w42, w43, w44, w45, w46, w47, w48, w49, w50, w51, w52, w53, w54, w55, w56, w57, w58, w59, w60])), (dg, .inl (y 1, 32, .inl (zf tO1 4 f3)))]) hD hS hA [2, 3] rfl
            refine va_callv (va_runV (As := [.int 1, .int 1584089869]) (rest := []) ⟨hx, hb, hml, hown, hts⟩ (c_M_keep_1_1 l D y H.size h0 dg w1 w2 w3 w4 w5 w6 w7 w8 w9 w10 w11 w12 w13 w14 ((.int (nI 64))) ((.ref ms)) ((.ref wd)) w15 w16 w17 w18 w19 w20 w21 w22 w23 w24 w25 w26 w27 w28 w29 w30 w31 w32 w33 w34 w35 w36 w37 w38 w39 w40 w41 w42 w43 w44 w45 w46 w47 w48 w49 w50 w51 w52 w53 w54 w55 w56 w57 w58 w59 w60 f3) (cwV 2 hts gv_c_M_firstHash_c_M_keep_1_1_127 rfl rfl rfl (by decide +kernel) ⟨(Nat.le_of_ble_eq_true rfl), (Nat.le_of_ble_eq_true rfl)⟩) (zB.preV hPc hDc hK hN hE hO hT hG hS hFc (fun _ h => nomatch h) (fun _ h => nomatch h) (fun _ h => nomatch h) (fun _ h => nomatch h) (va_recv hK hPc (ci := 16) (q0 := 0) rfl rfl)) rfl rfl hl.1 rfl (lv_room (Nat.le_of_ble_eq_true rfl)) dX12_firstHash_357 ⟨(Nat.le_of_ble_eq_true rfl), (Nat.le_of_ble_eq_true rfl)⟩) hS (fun q _ h => hFc q h) hFc (fun u t H1 locs ht hvm hw hB hz1 hk1 hS => ?_)
            obtain ⟨hP1, hD1⟩ := hB
            rw [ht] at hP1
            obtain ⟨hP, hD⟩ := va_join (wr := [(wd, .inl (y 1, 80, .inl (zf tW1 80 f2))), (ms, .inl (y 1, 30000, .inl (zf tM 64 f1)))]) (w1 := [(h0, .inr (16, [w1, w2, w3, w4, w5, w6, w7, w8, w9, w10, w11, w12, w13, w14, .int (nI 64), .ref ms, .ref dg, .ref wd, w15, w16, w17, w18, w19, w20, w21, w22, w23, w24, w25, w26, w27, w28, w29, w30, w31, w32, w33, w34, w35, w36, w37, w38, w39, w40, w41, w42, w43, w44, w45, w46, w47, w48, w49, w50, w51, w52, w53, w54, w55, w56, w57, w58, w59, w60])), (dg, .inl (y 1, 32, .inl (zf tO1 8 f3)))]) hP hD [2, 3] [0, 1] rfl rfl (by decide) (by decide) hk1 hFc hP1 hD1
            generalize H1 = H at hP hS ⊢
            have hP : va_P D vwCl [(wd, .inl (y 1, 80, .inl (zf tW1 80 f2))), (ms, .inl (y 1, 30000, .inl (zf tM 64 f1))), (h0, .inr (16, [w1, w2, w3, w4, w5, w6, w7, w8, w9, w10, w11, w12, w13, w14, .int (nI 64), .ref ms, .ref dg, .ref wd, w15, w16, w17, w18, w19, w20, w21, w22, w23, w24, w25, w26, w27, w28, w29, w30, w31, w32, w33, w34, w35, w36, w37, w38, w39, w40, w41, w42, w43, w44, w45, w46, w47, w48, w49, w50, w51, w52, w53, w54, w55, w56, w57, w58, w59, w60])), (dg, .inl (y 1, 32, .inl (zf tO1 8 f3)))] H := hP
            have hD : va_D A [(wd, .inl (y 1, 80, .inl (zf tW1 80 f2))), (ms, .inl (y 1, 30000, .inl (zf tM 64 f1))), (h0, .inr (16, [w1, w2, w3, w4, w5, w6, w7, w8, w9, w10, w11, w12, w13, w14, .int (nI 64), .ref ms, .ref dg, .ref wd, w15, w16, w17, w18, w19, w20, w21, w22, w23, w24, w25, w26, w27, w28, w29, w30, w31, w32, w33, w34, w35, w36, w37, w38, w39, w40, w41, w42, w43, w44, w45, w46, w47, w48, w49, w50, w51, w52, w53, w54, w55, w56, w57, w58, w59, w60])), (dg, .inl (y 1, 32, .inl (zf tO1 8 f3)))] := hD
            refine lv_aload_n hx hb dX12_firstHash_360 rfl (lv_at hl 13 rfl) ?_
            refine lv_iconst (v := 2) hx hb dX12_firstHash_361 (by decide) ?_
            refine lv_iload hx hb dX12_firstHash_362 (lv_at hl 3 rfl) ?_
            have hPc := hP.sub (ws' := [(h0, .inr (16, [w1, w2, w3, w4, w5, w6, w7, w8, w9, w10, w11, w12, w13, w14, .int (nI 64), .ref ms, .ref dg, .ref wd, w15, w16, w17, w18, w19, w20, w21, w22, w23, w24, w25, w26, w27, w28, w29, w30, w31, w32, w33, w34, w35, w36, w37, w38, w39, w40, w41, w42, w43, w44, w45, w46, w47, w48, w49, w50, w51, w52, w53, w54, w55, w56, w57, w58, w59, w60])), (dg, .inl (y 1, 32, .inl (zf tO1 8 f3)))]) [2, 3] rfl
            have hDc := hD.sub (ws' := [(h0, .inr (16, [w1, w2, w3, w4, w5, w6, w7, w8, w9, w10, w11, w12, w13, w14, .int (nI 64), .ref ms, .ref dg, .ref wd, w15, w16, w17, w18, w19, w20, w21, w22, w23, w24, w25, w26, w27, w28, w29, w30, w31, w32, w33, w34, w35, w36, w37, w38, w39, w40, w41, w42, w43, w44, w45, w46, w47, w48, w49, w50, w51, w52, w53, w54, w55, w56, w57, w58, w59, w60])), (dg, .inl (y 1, 32, .inl (zf tO1 8 f3)))]) [2, 3] (by decide) rfl
            have hFc := va_free (wc := [(h0, .inr (16, [w1, w2, w3, w4, w5, w6, w7, w8, w9, w10, w11, w12, w13, w14, .int (nI 64), .ref ms, .ref dg, .ref wd, w15, w16, w17, w18, w19, w20, w21, w22, w23, w24, w25, w26, w27, w28, w29, w30, w31, w32, w33, w34, w35, w36, w37, w38, w39, w40, w41, w42, w43, w44, w45, w46, w47, w48, w49, w50, w51, w52, w53, w54, w55, w56, w57, w58, w59, w60])), (dg, .inl (y 1, 32, .inl (zf tO1 8 f3)))]) hD hS hA [2, 3] rfl
            refine va_callv (va_runV (As := [.int 2, .int 844480495]) (rest := []) ⟨hx, hb, hml, hown, hts⟩ (c_M_keep_1_2 l D y H.size h0 dg w1 w2 w3 w4 w5 w6 w7 w8 w9 w10 w11 w12 w13 w14 ((.int (nI 64))) ((.ref ms)) ((.ref wd)) w15 w16 w17 w18 w19 w20 w21 w22 w23 w24 w25 w26 w27 w28 w29 w30 w31 w32 w33 w34 w35 w36 w37 w38 w39 w40 w41 w42 w43 w44 w45 w46 w47 w48 w49 w50 w51 w52 w53 w54 w55 w56 w57 w58 w59 w60 f3) (cwV 2 hts gv_c_M_firstHash_c_M_keep_1_2_127 rfl rfl rfl (by decide +kernel) ⟨(Nat.le_of_ble_eq_true rfl), (Nat.le_of_ble_eq_true rfl)⟩) (zB.preV hPc hDc hK hN hE hO hT hG hS hFc (fun _ h => nomatch h) (fun _ h => nomatch h) (fun _ h => nomatch h) (fun _ h => nomatch h) (va_recv hK hPc (ci := 16) (q0 := 0) rfl rfl)) rfl rfl hl.1 rfl (lv_room (Nat.le_of_ble_eq_true rfl)) dX12_firstHash_364 ⟨(Nat.le_of_ble_eq_true rfl), (Nat.le_of_ble_eq_true rfl)⟩) hS (fun q _ h => hFc q h) hFc (fun u t H1 locs ht hvm hw hB hz1 hk1 hS => ?_)
            obtain ⟨hP1, hD1⟩ := hB
            rw [ht] at hP1
            obtain ⟨hP, hD⟩ := va_join (wr := [(wd, .inl (y 1, 80, .inl (zf tW1 80 f2))), (ms, .inl (y 1, 30000, .inl (zf tM 64 f1)))]) (w1 := [(h0, .inr (16, [w1, w2, w3, w4, w5, w6, w7, w8, w9, w10, w11, w12, w13, w14, .int (nI 64), .ref ms, .ref dg, .ref wd, w15, w16, w17, w18, w19, w20, w21, w22, w23, w24, w25, w26, w27, w28, w29, w30, w31, w32, w33, w34, w35, w36, w37, w38, w39, w40, w41, w42, w43, w44, w45, w46, w47, w48, w49, w50, w51, w52, w53, w54, w55, w56, w57, w58, w59, w60])), (dg, .inl (y 1, 32, .inl (zf tO1 12 f3)))]) hP hD [2, 3] [0, 1] rfl rfl (by decide) (by decide) hk1 hFc hP1 hD1
            generalize H1 = H at hP hS ⊢
            have hP : va_P D vwCl [(wd, .inl (y 1, 80, .inl (zf tW1 80 f2))), (ms, .inl (y 1, 30000, .inl (zf tM 64 f1))), (h0, .inr (16, [w1, w2, w3, w4, w5, w6, w7, w8, w9, w10, w11, w12, w13, w14, .int (nI 64), .ref ms, .ref dg, .ref wd, w15, w16, w17, w18, w19, w20, w21, w22, w23, w24, w25, w26, w27, w28, w29, w30, w31, w32, w33, w34, w35, w36, w37, w38, w39, w40, w41, w42, w43, w44, w45, w46, w47, w48, w49, w50, w51, w52, w53, w54, w55, w56, w57, w58, w59, w60])), (dg, .inl (y 1, 32, .inl (zf tO1 12 f3)))] H := hP
            have hD : va_D A [(wd, .inl (y 1, 80, .inl (zf tW1 80 f2))), (ms, .inl (y 1, 30000, .inl (zf tM 64 f1))), (h0, .inr (16, [w1, w2, w3, w4, w5, w6, w7, w8, w9, w10, w11, w12, w13, w14, .int (nI 64), .ref ms, .ref dg, .ref wd, w15, w16, w17, w18, w19, w20, w21, w22, w23, w24, w25, w26, w27, w28, w29, w30, w31, w32, w33, w34, w35, w36, w37, w38, w39, w40, w41, w42, w43, w44, w45, w46, w47, w48, w49, w50, w51, w52, w53, w54, w55, w56, w57, w58, w59, w60])), (dg, .inl (y 1, 32, .inl (zf tO1 12 f3)))] := hD
            refine lv_aload_n hx hb dX12_firstHash_367 rfl (lv_at hl 13 rfl) ?_
            refine lv_iconst (v := 3) hx hb dX12_firstHash_368 (by decide) ?_
            refine lv_iload hx hb dX12_firstHash_369 (lv_at hl 2 rfl) ?_
            have hPc := hP.sub (ws' := [(h0, .inr (16, [w1, w2, w3, w4, w5, w6, w7, w8, w9, w10, w11, w12, w13, w14, .int (nI 64), .ref ms, .ref dg, .ref wd, w15, w16, w17, w18, w19, w20, w21, w22, w23, w24, w25, w26, w27, w28, w29, w30, w31, w32, w33, w34, w35, w36, w37, w38, w39, w40, w41, w42, w43, w44, w45, w46, w47, w48, w49, w50, w51, w52, w53, w54, w55, w56, w57, w58, w59, w60])), (dg, .inl (y 1, 32, .inl (zf tO1 12 f3)))]) [2, 3] rfl
            have hDc := hD.sub (ws' := [(h0, .inr (16, [w1, w2, w3, w4, w5, w6, w7, w8, w9, w10, w11, w12, w13, w14, .int (nI 64), .ref ms, .ref dg, .ref wd, w15, w16, w17, w18, w19, w20, w21, w22, w23, w24, w25, w26, w27, w28, w29, w30, w31, w32, w33, w34, w35, w36, w37, w38, w39, w40, w41, w42, w43, w44, w45, w46, w47, w48, w49, w50, w51, w52, w53, w54, w55, w56, w57, w58, w59, w60])), (dg, .inl (y 1, 32, .inl (zf tO1 12 f3)))]) [2, 3] (by decide) rfl
            have hFc := va_free (wc := [(h0, .inr (16, [w1, w2, w3, w4, w5, w6, w7, w8, w9, w10, w11, w12, w13, w14, .int (nI 64), .ref ms, .ref dg, .ref wd, w15, w16, w17, w18, w19, w20, w21, w22, w23, w24, w25, w26, w27, w28, w29, w30, w31, w32, w33, w34, w35, w36, w37, w38, w39, w40, w41, w42, w43, w44, w45, w46, w47, w48, w49, w50, w51, w52, w53, w54, w55, w56, w57, w58, w59, w60])), (dg, .inl (y 1, 32, .inl (zf tO1 12 f3)))]) hD hS hA [2, 3] rfl
            refine va_callv (va_runV (As := [.int 3, .int (-1788864368)]) (rest := []) ⟨hx, hb, hml, hown, hts⟩ (c_M_keep_1_3 l D y H.size h0 dg w1 w2 w3 w4 w5 w6 w7 w8 w9 w10 w11 w12 w13 w14 ((.int (nI 64))) ((.ref ms)) ((.ref wd)) w15 w16 w17 w18 w19 w20 w21 w22 w23 w24 w25 w26 w27 w28 w29 w30 w31 w32 w33 w34 w35 w36 w37 w38 w39 w40 w41 w42 w43 w44 w45 w46 w47 w48 w49 w50 w51 w52 w53 w54 w55 w56 w57 w58 w59 w60 f3) (cwV 2 hts gv_c_M_firstHash_c_M_keep_1_3_127 rfl rfl rfl (by decide +kernel) ⟨(Nat.le_of_ble_eq_true rfl), (Nat.le_of_ble_eq_true rfl)⟩) (zB.preV hPc hDc hK hN hE hO hT hG hS hFc (fun _ h => nomatch h) (fun _ h => nomatch h) (fun _ h => nomatch h) (fun _ h => nomatch h) (va_recv hK hPc (ci := 16) (q0 := 0) rfl rfl)) rfl rfl hl.1 rfl (lv_room (Nat.le_of_ble_eq_true rfl)) dX12_firstHash_371 ⟨(Nat.le_of_ble_eq_true rfl), (Nat.le_of_ble_eq_true rfl)⟩) hS (fun q _ h => hFc q h) hFc (fun u t H1 locs ht hvm hw hB hz1 hk1 hS => ?_)
            obtain ⟨hP1, hD1⟩ := hB
            rw [ht] at hP1
            obtain ⟨hP, hD⟩ := va_join (wr := [(wd, .inl (y 1, 80, .inl (zf tW1 80 f2))), (ms, .inl (y 1, 30000, .inl (zf tM 64 f1)))]) (w1 := [(h0, .inr (16, [w1, w2, w3, w4, w5, w6, w7, w8, w9, w10, w11, w12, w13, w14, .int (nI 64), .ref ms, .ref dg, .ref wd, w15, w16, w17, w18, w19, w20, w21, w22, w23, w24, w25, w26, w27, w28, w29, w30, w31, w32, w33, w34, w35, w36, w37, w38, w39, w40, w41, w42, w43, w44, w45, w46, w47, w48, w49, w50, w51, w52, w53, w54, w55, w56, w57, w58, w59, w60])), (dg, .inl (y 1, 32, .inl (zf tO1 16 f3)))]) hP hD [2, 3] [0, 1] rfl rfl (by decide) (by decide) hk1 hFc hP1 hD1
            generalize H1 = H at hP hS ⊢
            have hP : va_P D vwCl [(wd, .inl (y 1, 80, .inl (zf tW1 80 f2))), (ms, .inl (y 1, 30000, .inl (zf tM 64 f1))), (h0, .inr (16, [w1, w2, w3, w4, w5, w6, w7, w8, w9, w10, w11, w12, w13, w14, .int (nI 64), .ref ms, .ref dg, .ref wd, w15, w16, w17, w18, w19, w20, w21, w22, w23, w24, w25, w26, w27, w28, w29, w30, w31, w32, w33, w34, w35, w36, w37, w38, w39, w40, w41, w42, w43, w44, w45, w46, w47, w48, w49, w50, w51, w52, w53, w54, w55, w56, w57, w58, w59, w60])), (dg, .inl (y 1, 32, .inl (zf tO1 16 f3)))] H := hP
            have hD : va_D A [(wd, .inl (y 1, 80, .inl (zf tW1 80 f2))), (ms, .inl (y 1, 30000, .inl (zf tM 64 f1))), (h0, .inr (16, [w1, w2, w3, w4, w5, w6, w7, w8, w9, w10, w11, w12, w13, w14, .int (nI 64), .ref ms, .ref dg, .ref wd, w15, w16, w17, w18, w19, w20, w21, w22, w23, w24, w25, w26, w27, w28, w29, w30, w31, w32, w33, w34, w35, w36, w37, w38, w39, w40, w41, w42, w43, w44, w45, w46, w47, w48, w49, w50, w51, w52, w53, w54, w55, w56, w57, w58, w59, w60])), (dg, .inl (y 1, 32, .inl (zf tO1 16 f3)))] := hD
            refine lv_aload_n hx hb dX12_firstHash_374 rfl (lv_at hl 13 rfl) ?_
            refine lv_iconst (v := 4) hx hb dX12_firstHash_375 (by decide) ?_
            refine lv_iload hx hb dX12_firstHash_376 (lv_at hl 1 rfl) ?_
            have hPc := hP.sub (ws' := [(h0, .inr (16, [w1, w2, w3, w4, w5, w6, w7, w8, w9, w10, w11, w12, w13, w14, .int (nI 64), .ref ms, .ref dg, .ref wd, w15, w16, w17, w18, w19, w20, w21, w22, w23, w24, w25, w26, w27, w28, w29, w30, w31, w32, w33, w34, w35, w36, w37, w38, w39, w40, w41, w42, w43, w44, w45, w46, w47, w48, w49, w50, w51, w52, w53, w54, w55, w56, w57, w58, w59, w60])), (dg, .inl (y 1, 32, .inl (zf tO1 16 f3)))]) [2, 3] rfl
            have hDc := hD.sub (ws' := [(h0, .inr (16, [w1, w2, w3, w4, w5, w6, w7, w8, w9, w10, w11, w12, w13, w14, .int (nI 64), .ref ms, .ref dg, .ref wd, w15, w16, w17, w18, w19, w20, w21, w22, w23, w24, w25, w26, w27, w28, w29, w30, w31, w32, w33, w34, w35, w36, w37, w38, w39, w40, w41, w42, w43, w44, w45, w46, w47, w48, w49, w50, w51, w52, w53, w54, w55, w56, w57, w58, w59, w60])), (dg, .inl (y 1, 32, .inl (zf tO1 16 f3)))]) [2, 3] (by decide) rfl
            have hFc := va_free (wc := [(h0, .inr (16, [w1, w2, w3, w4, w5, w6, w7, w8, w9, w10, w11, w12, w13, w14, .int (nI 64), .ref ms, .ref dg, .ref wd, w15, w16, w17, w18, w19, w20, w21, w22, w23, w24, w25, w26, w27, w28, w29, w30, w31, w32, w33, w34, w35, w36, w37, w38, w39, w40, w41, w42, w43, w44, w45, w46, w47, w48, w49, w50, w51, w52, w53, w54, w55, w56, w57, w58, w59, w60])), (dg, .inl (y 1, 32, .inl (zf tO1 16 f3)))]) hD hS hA [2, 3] rfl
            refine va_callv (va_runV (As := [.int 4, .int (-1344796919)]) (rest := []) ⟨hx, hb, hml, hown, hts⟩ (c_M_keep_1_4 l D y H.size h0 dg w1 w2 w3 w4 w5 w6 w7 w8 w9 w10 w11 w12 w13 w14 ((.int (nI 64))) ((.ref ms)) ((.ref wd)) w15 w16 w17 w18 w19 w20 w21 w22 w23 w24 w25 w26 w27 w28 w29 w30 w31 w32 w33 w34 w35 w36 w37 w38 w39 w40 w41 w42 w43 w44 w45 w46 w47 w48 w49 w50 w51 w52 w53 w54 w55 w56 w57 w58 w59 w60 f3) (cwV 2 hts gv_c_M_firstHash_c_M_keep_1_4_127 rfl rfl rfl (by decide +kernel) ⟨(Nat.le_of_ble_eq_true rfl), (Nat.le_of_ble_eq_true rfl)⟩) (zB.preV hPc hDc hK hN hE hO hT hG hS hFc (fun _ h => nomatch h) (fun _ h => nomatch h) (fun _ h => nomatch h) (fun _ h => nomatch h) (va_recv hK hPc (ci := 16) (q0 := 0) rfl rfl)) rfl rfl hl.1 rfl (lv_room (Nat.le_of_ble_eq_true rfl)) dX12_firstHash_378 ⟨(Nat.le_of_ble_eq_true rfl), (Nat.le_of_ble_eq_true rfl)⟩) hS (fun q _ h => hFc q h) hFc (fun u t H1 locs ht hvm hw hB hz1 hk1 hS => ?_)
            obtain ⟨hP1, hD1⟩ := hB
            rw [ht] at hP1
            obtain ⟨hP, hD⟩ := va_join (wr := [(wd, .inl (y 1, 80, .inl (zf tW1 80 f2))), (ms, .inl (y 1, 30000, .inl (zf tM 64 f1)))]) (w1 := [(h0, .inr (16, [w1, w2, w3, w4, w5, w6, w7, w8, w9, w10, w11, w12, w13, w14, .int (nI 64), .ref ms, .ref dg, .ref wd, w15, w16, w17, w18, w19, w20, w21, w22, w23, w24, w25, w26, w27, w28, w29, w30, w31, w32, w33, w34, w35, w36, w37, w38, w39, w40, w41, w42, w43, w44, w45, w46, w47, w48, w49, w50, w51, w52, w53, w54, w55, w56, w57, w58, w59, w60])), (dg, .inl (y 1, 32, .inl (zf tO1 20 f3)))]) hP hD [2, 3] [0, 1] rfl rfl (by decide) (by decide) hk1 hFc hP1 hD1
            generalize H1 = H at hP hS ⊢
            have hP : va_P D vwCl [(wd, .inl (y 1, 80, .inl (zf tW1 80 f2))), (ms, .inl (y 1, 30000, .inl (zf tM 64 f1))), (h0, .inr (16, [w1, w2, w3, w4, w5, w6, w7, w8, w9, w10, w11, w12, w13, w14, .int (nI 64), .ref ms, .ref dg, .ref wd, w15, w16, w17, w18, w19, w20, w21, w22, w23, w24, w25, w26, w27, w28, w29, w30, w31, w32, w33, w34, w35, w36, w37, w38, w39, w40, w41, w42, w43, w44, w45, w46, w47, w48, w49, w50, w51, w52, w53, w54, w55, w56, w57, w58, w59, w60])), (dg, .inl (y 1, 32, .inl (zf tO1 20 f3)))] H := hP
            have hD : va_D A [(wd, .inl (y 1, 80, .inl (zf tW1 80 f2))), (ms, .inl (y 1, 30000, .inl (zf tM 64 f1))), (h0, .inr (16, [w1, w2, w3, w4, w5, w6, w7, w8, w9, w10, w11, w12, w13, w14, .int (nI 64), .ref ms, .ref dg, .ref wd, w15, w16, w17, w18, w19, w20, w21, w22, w23, w24, w25, w26, w27, w28, w29, w30, w31, w32, w33, w34, w35, w36, w37, w38, w39, w40, w41, w42, w43, w44, w45, w46, w47, w48, w49, w50, w51, w52, w53, w54, w55, w56, w57, w58, w59, w60])), (dg, .inl (y 1, 32, .inl (zf tO1 20 f3)))] := hD
            have hP9 := hP.sub (ws' := [(h0, .inr (16, [w1, w2, w3, w4, w5, w6, w7, w8, w9, w10, w11, w12, w13, w14, .int (nI 64), .ref ms, .ref dg, .ref wd, w15, w16, w17, w18, w19, w20, w21, w22, w23, w24, w25, w26, w27, w28, w29, w30, w31, w32, w33, w34, w35, w36, w37, w38, w39, w40, w41, w42, w43, w44, w45, w46, w47, w48, w49, w50, w51, w52, w53, w54, w55, w56, w57, w58, w59, w60])), (ms, .inl (y 1, 30000, .inl (zf tM 64 f1))), (wd, .inl (y 1, 80, .inl (zf tW1 80 f2))), (dg, .inl (y 1, 32, .inl (zf tO1 20 f3)))]) [2, 1, 0, 3] rfl
            have hD9 := hD.sub (ws' := [(h0, .inr (16, [w1, w2, w3, w4, w5, w6, w7, w8, w9, w10, w11, w12, w13, w14, .int (nI 64), .ref ms, .ref dg, .ref wd, w15, w16, w17, w18, w19, w20, w21, w22, w23, w24, w25, w26, w27, w28, w29, w30, w31, w32, w33, w34, w35, w36, w37, w38, w39, w40, w41, w42, w43, w44, w45, w46, w47, w48, w49, w50, w51, w52, w53, w54, w55, w56, w57, w58, w59, w60])), (ms, .inl (y 1, 30000, .inl (zf tM 64 f1))), (wd, .inl (y 1, 80, .inl (zf tW1 80 f2))), (dg, .inl (y 1, 32, .inl (zf tO1 20 f3)))]) [2, 1, 0, 3] (by decide) rfl
            refine W.widen (k := 0) (n := 0) (Nat.le_of_ble_eq_true rfl) (Nat.le_of_ble_eq_true rfl) ?_
            exact W.vret hx hb hr (fun t ht hW => ⟨⟨(), rfl, trivial, by rw [ht]; exact hP9, hD9⟩, hS.F ht⟩) hS.2.2 dX12_firstHash_381

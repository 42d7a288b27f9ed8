/-! What the premises say of the statics' arrays and of the String constants. -/
theorem zz_seg {L S : List Cond} {p n : Nat} (h : (L.drop p).take n = S) : ∀ w ∈ S, w ∈ L := fun w hw => List.mem_of_mem_drop (List.mem_of_mem_take (h ▸ hw))
set_option maxHeartbeats 4000000 in
set_option maxRecDepth 100000 in
theorem nr_e1 : ((flatC narrow_1).drop 231).take 10 = Cond.arrayOf (.static "SignetRing$Digest" "START_FIRST" "[I") .int :: Cond.eq (.length (.static "SignetRing$Digest" "START_FIRST" "[I")) (.int (Int32.ofNat 8)) :: (List.range 8).map (fun j => Cond.eq (.elem (.static "SignetRing$Digest" "START_FIRST" "[I") (.int (Int32.ofNat j))) (.int (tS1 j))) := by decide +kernel
theorem nr_e1_0 : Cond.arrayOf (.static "SignetRing$Digest" "START_FIRST" "[I") .int ∈ flatC narrow_1 := zz_seg nr_e1 _ (List.mem_of_getElem? (i := 0) rfl)
theorem nr_e1_1 : Cond.eq (.length (.static "SignetRing$Digest" "START_FIRST" "[I")) (.int (Int32.ofNat 8)) ∈ flatC narrow_1 := zz_seg nr_e1 _ (List.mem_of_getElem? (i := 1) rfl)
theorem nr_e1_e : ∀ j : Nat, j < 8 → Cond.eq (.elem (.static "SignetRing$Digest" "START_FIRST" "[I") (.int (Int32.ofNat j))) (.int (tS1 j)) ∈ flatC narrow_1 := fun j hj => zz_seg nr_e1 _ (List.mem_cons_of_mem _ (List.mem_cons_of_mem _ (List.mem_map.mpr ⟨j, List.mem_range.mpr hj, rfl⟩)))
set_option maxHeartbeats 4000000 in
set_option maxRecDepth 100000 in
theorem nr_e2 : ((flatC narrow_1).drop 220).take 10 = Cond.arrayOf (.static "SignetRing$Digest" "START_SECOND" "[I") .int :: Cond.eq (.length (.static "SignetRing$Digest" "START_SECOND" "[I")) (.int (Int32.ofNat 8)) :: (List.range 8).map (fun j => Cond.eq (.elem (.static "SignetRing$Digest" "START_SECOND" "[I") (.int (Int32.ofNat j))) (.int (tS2 j))) := by decide +kernel
theorem nr_e2_0 : Cond.arrayOf (.static "SignetRing$Digest" "START_SECOND" "[I") .int ∈ flatC narrow_1 := zz_seg nr_e2 _ (List.mem_of_getElem? (i := 0) rfl)
theorem nr_e2_1 : Cond.eq (.length (.static "SignetRing$Digest" "START_SECOND" "[I")) (.int (Int32.ofNat 8)) ∈ flatC narrow_1 := zz_seg nr_e2 _ (List.mem_of_getElem? (i := 1) rfl)
theorem nr_e2_e : ∀ j : Nat, j < 8 → Cond.eq (.elem (.static "SignetRing$Digest" "START_SECOND" "[I") (.int (Int32.ofNat j))) (.int (tS2 j)) ∈ flatC narrow_1 := fun j hj => zz_seg nr_e2 _ (List.mem_cons_of_mem _ (List.mem_cons_of_mem _ (List.mem_map.mpr ⟨j, List.mem_range.mpr hj, rfl⟩)))
set_option maxHeartbeats 4000000 in
set_option maxRecDepth 100000 in
theorem nr_e3 : ((flatC narrow_1).drop 242).take 66 = Cond.arrayOf (.static "SignetRing$Digest" "ROUNDS" "[I") .int :: Cond.eq (.length (.static "SignetRing$Digest" "ROUNDS" "[I")) (.int (Int32.ofNat 64)) :: (List.range 64).map (fun j => Cond.eq (.elem (.static "SignetRing$Digest" "ROUNDS" "[I") (.int (Int32.ofNat j))) (.int (tK j))) := by decide +kernel
theorem nr_e3_0 : Cond.arrayOf (.static "SignetRing$Digest" "ROUNDS" "[I") .int ∈ flatC narrow_1 := zz_seg nr_e3 _ (List.mem_of_getElem? (i := 0) rfl)
theorem nr_e3_1 : Cond.eq (.length (.static "SignetRing$Digest" "ROUNDS" "[I")) (.int (Int32.ofNat 64)) ∈ flatC narrow_1 := zz_seg nr_e3 _ (List.mem_of_getElem? (i := 1) rfl)
theorem nr_e3_e : ∀ j : Nat, j < 64 → Cond.eq (.elem (.static "SignetRing$Digest" "ROUNDS" "[I") (.int (Int32.ofNat j))) (.int (tK j)) ∈ flatC narrow_1 := fun j hj => zz_seg nr_e3 _ (List.mem_cons_of_mem _ (List.mem_cons_of_mem _ (List.mem_map.mpr ⟨j, List.mem_range.mpr hj, rfl⟩)))
set_option maxHeartbeats 4000000 in
set_option maxRecDepth 100000 in
theorem nr_e4 : ((flatC narrow_1).drop 349).take 66 = Cond.arrayOf (.static "SignetRingModel" "ROUNDS" "[I") .int :: Cond.eq (.length (.static "SignetRingModel" "ROUNDS" "[I")) (.int (Int32.ofNat 64)) :: (List.range 64).map (fun j => Cond.eq (.elem (.static "SignetRingModel" "ROUNDS" "[I") (.int (Int32.ofNat j))) (.int (tK j))) := by decide +kernel
theorem nr_e4_0 : Cond.arrayOf (.static "SignetRingModel" "ROUNDS" "[I") .int ∈ flatC narrow_1 := zz_seg nr_e4 _ (List.mem_of_getElem? (i := 0) rfl)
theorem nr_e4_1 : Cond.eq (.length (.static "SignetRingModel" "ROUNDS" "[I")) (.int (Int32.ofNat 64)) ∈ flatC narrow_1 := zz_seg nr_e4 _ (List.mem_of_getElem? (i := 1) rfl)
theorem nr_e4_e : ∀ j : Nat, j < 64 → Cond.eq (.elem (.static "SignetRingModel" "ROUNDS" "[I") (.int (Int32.ofNat j))) (.int (tK j)) ∈ flatC narrow_1 := fun j hj => zz_seg nr_e4 _ (List.mem_cons_of_mem _ (List.mem_cons_of_mem _ (List.mem_map.mpr ⟨j, List.mem_range.mpr hj, rfl⟩)))
set_option maxHeartbeats 4000000 in
set_option maxRecDepth 100000 in
theorem nr_s0 : ((flatC narrow_1).drop 515).take 15 = Cond.exactly (.string "SignetRing$Signs" 82) "java/lang/String" :: Cond.eq (.field (.string "SignetRing$Signs" 82) "java/lang/String" "coder" "B") (.int 0) :: Cond.arrayOf (.field (.string "SignetRing$Signs" 82) "java/lang/String" "value" "[B") .byte :: Cond.eq (.length (.field (.string "SignetRing$Signs" 82) "java/lang/String" "value" "[B")) (.int (Int32.ofNat 11)) :: (List.range 11).map (fun j => Cond.eq (.elem (.field (.string "SignetRing$Signs" 82) "java/lang/String" "value" "[B") (.int (Int32.ofNat j))) (.int (zs0 j))) := by decide +kernel
theorem nr_s0_0 : Cond.exactly (.string "SignetRing$Signs" 82) "java/lang/String" ∈ flatC narrow_1 := zz_seg nr_s0 _ (List.mem_of_getElem? (i := 0) rfl)
theorem nr_s0_1 : Cond.eq (.field (.string "SignetRing$Signs" 82) "java/lang/String" "coder" "B") (.int 0) ∈ flatC narrow_1 := zz_seg nr_s0 _ (List.mem_of_getElem? (i := 1) rfl)
theorem nr_s0_2 : Cond.arrayOf (.field (.string "SignetRing$Signs" 82) "java/lang/String" "value" "[B") .byte ∈ flatC narrow_1 := zz_seg nr_s0 _ (List.mem_of_getElem? (i := 2) rfl)
theorem nr_s0_3 : Cond.eq (.length (.field (.string "SignetRing$Signs" 82) "java/lang/String" "value" "[B")) (.int (Int32.ofNat 11)) ∈ flatC narrow_1 := zz_seg nr_s0 _ (List.mem_of_getElem? (i := 3) rfl)
theorem nr_s0_e : ∀ j : Nat, j < 11 → Cond.eq (.elem (.field (.string "SignetRing$Signs" 82) "java/lang/String" "value" "[B") (.int (Int32.ofNat j))) (.int (zs0 j)) ∈ flatC narrow_1 := fun j hj => zz_seg nr_s0 _ (List.mem_cons_of_mem _ (List.mem_cons_of_mem _ (List.mem_cons_of_mem _ (List.mem_cons_of_mem _ (List.mem_map.mpr ⟨j, List.mem_range.mpr hj, rfl⟩)))))
set_option maxHeartbeats 4000000 in
set_option maxRecDepth 100000 in
theorem nr_s1 : ((flatC narrow_1).drop 530).take 15 = Cond.exactly (.string "SignetRing$Signs" 24) "java/lang/String" :: Cond.eq (.field (.string "SignetRing$Signs" 24) "java/lang/String" "coder" "B") (.int 0) :: Cond.arrayOf (.field (.string "SignetRing$Signs" 24) "java/lang/String" "value" "[B") .byte :: Cond.eq (.length (.field (.string "SignetRing$Signs" 24) "java/lang/String" "value" "[B")) (.int (Int32.ofNat 11)) :: (List.range 11).map (fun j => Cond.eq (.elem (.field (.string "SignetRing$Signs" 24) "java/lang/String" "value" "[B") (.int (Int32.ofNat j))) (.int (zs1 j))) := by decide +kernel
theorem nr_s1_0 : Cond.exactly (.string "SignetRing$Signs" 24) "java/lang/String" ∈ flatC narrow_1 := zz_seg nr_s1 _ (List.mem_of_getElem? (i := 0) rfl)
theorem nr_s1_1 : Cond.eq (.field (.string "SignetRing$Signs" 24) "java/lang/String" "coder" "B") (.int 0) ∈ flatC narrow_1 := zz_seg nr_s1 _ (List.mem_of_getElem? (i := 1) rfl)
theorem nr_s1_2 : Cond.arrayOf (.field (.string "SignetRing$Signs" 24) "java/lang/String" "value" "[B") .byte ∈ flatC narrow_1 := zz_seg nr_s1 _ (List.mem_of_getElem? (i := 2) rfl)
theorem nr_s1_3 : Cond.eq (.length (.field (.string "SignetRing$Signs" 24) "java/lang/String" "value" "[B")) (.int (Int32.ofNat 11)) ∈ flatC narrow_1 := zz_seg nr_s1 _ (List.mem_of_getElem? (i := 3) rfl)
theorem nr_s1_e : ∀ j : Nat, j < 11 → Cond.eq (.elem (.field (.string "SignetRing$Signs" 24) "java/lang/String" "value" "[B") (.int (Int32.ofNat j))) (.int (zs1 j)) ∈ flatC narrow_1 := fun j hj => zz_seg nr_s1 _ (List.mem_cons_of_mem _ (List.mem_cons_of_mem _ (List.mem_cons_of_mem _ (List.mem_cons_of_mem _ (List.mem_map.mpr ⟨j, List.mem_range.mpr hj, rfl⟩)))))
set_option maxHeartbeats 4000000 in
set_option maxRecDepth 100000 in
theorem nr_s2 : ((flatC narrow_1).drop 546).take 8 = Cond.exactly (.string "SignetRing$Signs" 26) "java/lang/String" :: Cond.eq (.field (.string "SignetRing$Signs" 26) "java/lang/String" "coder" "B") (.int 0) :: Cond.arrayOf (.field (.string "SignetRing$Signs" 26) "java/lang/String" "value" "[B") .byte :: Cond.eq (.length (.field (.string "SignetRing$Signs" 26) "java/lang/String" "value" "[B")) (.int (Int32.ofNat 4)) :: (List.range 4).map (fun j => Cond.eq (.elem (.field (.string "SignetRing$Signs" 26) "java/lang/String" "value" "[B") (.int (Int32.ofNat j))) (.int (zs2 j))) := by decide +kernel
theorem nr_s2_0 : Cond.exactly (.string "SignetRing$Signs" 26) "java/lang/String" ∈ flatC narrow_1 := zz_seg nr_s2 _ (List.mem_of_getElem? (i := 0) rfl)
theorem nr_s2_1 : Cond.eq (.field (.string "SignetRing$Signs" 26) "java/lang/String" "coder" "B") (.int 0) ∈ flatC narrow_1 := zz_seg nr_s2 _ (List.mem_of_getElem? (i := 1) rfl)
theorem nr_s2_2 : Cond.arrayOf (.field (.string "SignetRing$Signs" 26) "java/lang/String" "value" "[B") .byte ∈ flatC narrow_1 := zz_seg nr_s2 _ (List.mem_of_getElem? (i := 2) rfl)
theorem nr_s2_3 : Cond.eq (.length (.field (.string "SignetRing$Signs" 26) "java/lang/String" "value" "[B")) (.int (Int32.ofNat 4)) ∈ flatC narrow_1 := zz_seg nr_s2 _ (List.mem_of_getElem? (i := 3) rfl)
theorem nr_s2_e : ∀ j : Nat, j < 4 → Cond.eq (.elem (.field (.string "SignetRing$Signs" 26) "java/lang/String" "value" "[B") (.int (Int32.ofNat j))) (.int (zs2 j)) ∈ flatC narrow_1 := fun j hj => zz_seg nr_s2 _ (List.mem_cons_of_mem _ (List.mem_cons_of_mem _ (List.mem_cons_of_mem _ (List.mem_cons_of_mem _ (List.mem_map.mpr ⟨j, List.mem_range.mpr hj, rfl⟩)))))
set_option maxHeartbeats 4000000 in
set_option maxRecDepth 100000 in
theorem nr_s3 : ((flatC narrow_1).drop 556).take 17 = Cond.exactly (.string "SignetRing$Signs" 28) "java/lang/String" :: Cond.eq (.field (.string "SignetRing$Signs" 28) "java/lang/String" "coder" "B") (.int 0) :: Cond.arrayOf (.field (.string "SignetRing$Signs" 28) "java/lang/String" "value" "[B") .byte :: Cond.eq (.length (.field (.string "SignetRing$Signs" 28) "java/lang/String" "value" "[B")) (.int (Int32.ofNat 13)) :: (List.range 13).map (fun j => Cond.eq (.elem (.field (.string "SignetRing$Signs" 28) "java/lang/String" "value" "[B") (.int (Int32.ofNat j))) (.int (zs3 j))) := by decide +kernel
theorem nr_s3_0 : Cond.exactly (.string "SignetRing$Signs" 28) "java/lang/String" ∈ flatC narrow_1 := zz_seg nr_s3 _ (List.mem_of_getElem? (i := 0) rfl)
theorem nr_s3_1 : Cond.eq (.field (.string "SignetRing$Signs" 28) "java/lang/String" "coder" "B") (.int 0) ∈ flatC narrow_1 := zz_seg nr_s3 _ (List.mem_of_getElem? (i := 1) rfl)
theorem nr_s3_2 : Cond.arrayOf (.field (.string "SignetRing$Signs" 28) "java/lang/String" "value" "[B") .byte ∈ flatC narrow_1 := zz_seg nr_s3 _ (List.mem_of_getElem? (i := 2) rfl)
theorem nr_s3_3 : Cond.eq (.length (.field (.string "SignetRing$Signs" 28) "java/lang/String" "value" "[B")) (.int (Int32.ofNat 13)) ∈ flatC narrow_1 := zz_seg nr_s3 _ (List.mem_of_getElem? (i := 3) rfl)
theorem nr_s3_e : ∀ j : Nat, j < 13 → Cond.eq (.elem (.field (.string "SignetRing$Signs" 28) "java/lang/String" "value" "[B") (.int (Int32.ofNat j))) (.int (zs3 j)) ∈ flatC narrow_1 := fun j hj => zz_seg nr_s3 _ (List.mem_cons_of_mem _ (List.mem_cons_of_mem _ (List.mem_cons_of_mem _ (List.mem_cons_of_mem _ (List.mem_map.mpr ⟨j, List.mem_range.mpr hj, rfl⟩)))))
set_option maxHeartbeats 4000000 in
set_option maxRecDepth 100000 in
theorem nr_s4 : ((flatC narrow_1).drop 576).take 9 = Cond.exactly (.string "SignetRing$Signs" 80) "java/lang/String" :: Cond.eq (.field (.string "SignetRing$Signs" 80) "java/lang/String" "coder" "B") (.int 0) :: Cond.arrayOf (.field (.string "SignetRing$Signs" 80) "java/lang/String" "value" "[B") .byte :: Cond.eq (.length (.field (.string "SignetRing$Signs" 80) "java/lang/String" "value" "[B")) (.int (Int32.ofNat 5)) :: (List.range 5).map (fun j => Cond.eq (.elem (.field (.string "SignetRing$Signs" 80) "java/lang/String" "value" "[B") (.int (Int32.ofNat j))) (.int (zs4 j))) := by decide +kernel
theorem nr_s4_0 : Cond.exactly (.string "SignetRing$Signs" 80) "java/lang/String" ∈ flatC narrow_1 := zz_seg nr_s4 _ (List.mem_of_getElem? (i := 0) rfl)
theorem nr_s4_1 : Cond.eq (.field (.string "SignetRing$Signs" 80) "java/lang/String" "coder" "B") (.int 0) ∈ flatC narrow_1 := zz_seg nr_s4 _ (List.mem_of_getElem? (i := 1) rfl)
theorem nr_s4_2 : Cond.arrayOf (.field (.string "SignetRing$Signs" 80) "java/lang/String" "value" "[B") .byte ∈ flatC narrow_1 := zz_seg nr_s4 _ (List.mem_of_getElem? (i := 2) rfl)
theorem nr_s4_3 : Cond.eq (.length (.field (.string "SignetRing$Signs" 80) "java/lang/String" "value" "[B")) (.int (Int32.ofNat 5)) ∈ flatC narrow_1 := zz_seg nr_s4 _ (List.mem_of_getElem? (i := 3) rfl)
theorem nr_s4_e : ∀ j : Nat, j < 5 → Cond.eq (.elem (.field (.string "SignetRing$Signs" 80) "java/lang/String" "value" "[B") (.int (Int32.ofNat j))) (.int (zs4 j)) ∈ flatC narrow_1 := fun j hj => zz_seg nr_s4 _ (List.mem_cons_of_mem _ (List.mem_cons_of_mem _ (List.mem_cons_of_mem _ (List.mem_cons_of_mem _ (List.mem_map.mpr ⟨j, List.mem_range.mpr hj, rfl⟩)))))
set_option maxHeartbeats 4000000 in
set_option maxRecDepth 100000 in
theorem nr_s5 : ((flatC narrow_1).drop 599).take 13 = Cond.exactly (.string "SignetRing$Signs" 113) "java/lang/String" :: Cond.eq (.field (.string "SignetRing$Signs" 113) "java/lang/String" "coder" "B") (.int 0) :: Cond.arrayOf (.field (.string "SignetRing$Signs" 113) "java/lang/String" "value" "[B") .byte :: Cond.eq (.length (.field (.string "SignetRing$Signs" 113) "java/lang/String" "value" "[B")) (.int (Int32.ofNat 9)) :: (List.range 9).map (fun j => Cond.eq (.elem (.field (.string "SignetRing$Signs" 113) "java/lang/String" "value" "[B") (.int (Int32.ofNat j))) (.int (zs5 j))) := by decide +kernel
theorem nr_s5_0 : Cond.exactly (.string "SignetRing$Signs" 113) "java/lang/String" ∈ flatC narrow_1 := zz_seg nr_s5 _ (List.mem_of_getElem? (i := 0) rfl)
theorem nr_s5_1 : Cond.eq (.field (.string "SignetRing$Signs" 113) "java/lang/String" "coder" "B") (.int 0) ∈ flatC narrow_1 := zz_seg nr_s5 _ (List.mem_of_getElem? (i := 1) rfl)
theorem nr_s5_2 : Cond.arrayOf (.field (.string "SignetRing$Signs" 113) "java/lang/String" "value" "[B") .byte ∈ flatC narrow_1 := zz_seg nr_s5 _ (List.mem_of_getElem? (i := 2) rfl)
theorem nr_s5_3 : Cond.eq (.length (.field (.string "SignetRing$Signs" 113) "java/lang/String" "value" "[B")) (.int (Int32.ofNat 9)) ∈ flatC narrow_1 := zz_seg nr_s5 _ (List.mem_of_getElem? (i := 3) rfl)
theorem nr_s5_e : ∀ j : Nat, j < 9 → Cond.eq (.elem (.field (.string "SignetRing$Signs" 113) "java/lang/String" "value" "[B") (.int (Int32.ofNat j))) (.int (zs5 j)) ∈ flatC narrow_1 := fun j hj => zz_seg nr_s5 _ (List.mem_cons_of_mem _ (List.mem_cons_of_mem _ (List.mem_cons_of_mem _ (List.mem_cons_of_mem _ (List.mem_map.mpr ⟨j, List.mem_range.mpr hj, rfl⟩)))))
set_option maxHeartbeats 4000000 in
set_option maxRecDepth 100000 in
theorem nr_s6 : ((flatC narrow_1).drop 725).take 15 = Cond.exactly (.string "SignetRingModel" 259) "java/lang/String" :: Cond.eq (.field (.string "SignetRingModel" 259) "java/lang/String" "coder" "B") (.int 0) :: Cond.arrayOf (.field (.string "SignetRingModel" 259) "java/lang/String" "value" "[B") .byte :: Cond.eq (.length (.field (.string "SignetRingModel" 259) "java/lang/String" "value" "[B")) (.int (Int32.ofNat 11)) :: (List.range 11).map (fun j => Cond.eq (.elem (.field (.string "SignetRingModel" 259) "java/lang/String" "value" "[B") (.int (Int32.ofNat j))) (.int (zs6 j))) := by decide +kernel
theorem nr_s6_0 : Cond.exactly (.string "SignetRingModel" 259) "java/lang/String" ∈ flatC narrow_1 := zz_seg nr_s6 _ (List.mem_of_getElem? (i := 0) rfl)
theorem nr_s6_1 : Cond.eq (.field (.string "SignetRingModel" 259) "java/lang/String" "coder" "B") (.int 0) ∈ flatC narrow_1 := zz_seg nr_s6 _ (List.mem_of_getElem? (i := 1) rfl)
theorem nr_s6_2 : Cond.arrayOf (.field (.string "SignetRingModel" 259) "java/lang/String" "value" "[B") .byte ∈ flatC narrow_1 := zz_seg nr_s6 _ (List.mem_of_getElem? (i := 2) rfl)
theorem nr_s6_3 : Cond.eq (.length (.field (.string "SignetRingModel" 259) "java/lang/String" "value" "[B")) (.int (Int32.ofNat 11)) ∈ flatC narrow_1 := zz_seg nr_s6 _ (List.mem_of_getElem? (i := 3) rfl)
theorem nr_s6_e : ∀ j : Nat, j < 11 → Cond.eq (.elem (.field (.string "SignetRingModel" 259) "java/lang/String" "value" "[B") (.int (Int32.ofNat j))) (.int (zs6 j)) ∈ flatC narrow_1 := fun j hj => zz_seg nr_s6 _ (List.mem_cons_of_mem _ (List.mem_cons_of_mem _ (List.mem_cons_of_mem _ (List.mem_cons_of_mem _ (List.mem_map.mpr ⟨j, List.mem_range.mpr hj, rfl⟩)))))
set_option maxHeartbeats 4000000 in
set_option maxRecDepth 100000 in
theorem nr_s7 : ((flatC narrow_1).drop 752).take 15 = Cond.exactly (.string "SignetRingModel" 204) "java/lang/String" :: Cond.eq (.field (.string "SignetRingModel" 204) "java/lang/String" "coder" "B") (.int 0) :: Cond.arrayOf (.field (.string "SignetRingModel" 204) "java/lang/String" "value" "[B") .byte :: Cond.eq (.length (.field (.string "SignetRingModel" 204) "java/lang/String" "value" "[B")) (.int (Int32.ofNat 11)) :: (List.range 11).map (fun j => Cond.eq (.elem (.field (.string "SignetRingModel" 204) "java/lang/String" "value" "[B") (.int (Int32.ofNat j))) (.int (zs7 j))) := by decide +kernel
theorem nr_s7_0 : Cond.exactly (.string "SignetRingModel" 204) "java/lang/String" ∈ flatC narrow_1 := zz_seg nr_s7 _ (List.mem_of_getElem? (i := 0) rfl)
theorem nr_s7_1 : Cond.eq (.field (.string "SignetRingModel" 204) "java/lang/String" "coder" "B") (.int 0) ∈ flatC narrow_1 := zz_seg nr_s7 _ (List.mem_of_getElem? (i := 1) rfl)
theorem nr_s7_2 : Cond.arrayOf (.field (.string "SignetRingModel" 204) "java/lang/String" "value" "[B") .byte ∈ flatC narrow_1 := zz_seg nr_s7 _ (List.mem_of_getElem? (i := 2) rfl)
theorem nr_s7_3 : Cond.eq (.length (.field (.string "SignetRingModel" 204) "java/lang/String" "value" "[B")) (.int (Int32.ofNat 11)) ∈ flatC narrow_1 := zz_seg nr_s7 _ (List.mem_of_getElem? (i := 3) rfl)
theorem nr_s7_e : ∀ j : Nat, j < 11 → Cond.eq (.elem (.field (.string "SignetRingModel" 204) "java/lang/String" "value" "[B") (.int (Int32.ofNat j))) (.int (zs7 j)) ∈ flatC narrow_1 := fun j hj => zz_seg nr_s7 _ (List.mem_cons_of_mem _ (List.mem_cons_of_mem _ (List.mem_cons_of_mem _ (List.mem_cons_of_mem _ (List.mem_map.mpr ⟨j, List.mem_range.mpr hj, rfl⟩)))))
set_option maxHeartbeats 4000000 in
set_option maxRecDepth 100000 in
theorem nr_s8 : ((flatC narrow_1).drop 780).take 8 = Cond.exactly (.string "SignetRingModel" 206) "java/lang/String" :: Cond.eq (.field (.string "SignetRingModel" 206) "java/lang/String" "coder" "B") (.int 0) :: Cond.arrayOf (.field (.string "SignetRingModel" 206) "java/lang/String" "value" "[B") .byte :: Cond.eq (.length (.field (.string "SignetRingModel" 206) "java/lang/String" "value" "[B")) (.int (Int32.ofNat 4)) :: (List.range 4).map (fun j => Cond.eq (.elem (.field (.string "SignetRingModel" 206) "java/lang/String" "value" "[B") (.int (Int32.ofNat j))) (.int (zs8 j))) := by decide +kernel
theorem nr_s8_0 : Cond.exactly (.string "SignetRingModel" 206) "java/lang/String" ∈ flatC narrow_1 := zz_seg nr_s8 _ (List.mem_of_getElem? (i := 0) rfl)
theorem nr_s8_1 : Cond.eq (.field (.string "SignetRingModel" 206) "java/lang/String" "coder" "B") (.int 0) ∈ flatC narrow_1 := zz_seg nr_s8 _ (List.mem_of_getElem? (i := 1) rfl)
theorem nr_s8_2 : Cond.arrayOf (.field (.string "SignetRingModel" 206) "java/lang/String" "value" "[B") .byte ∈ flatC narrow_1 := zz_seg nr_s8 _ (List.mem_of_getElem? (i := 2) rfl)
theorem nr_s8_3 : Cond.eq (.length (.field (.string "SignetRingModel" 206) "java/lang/String" "value" "[B")) (.int (Int32.ofNat 4)) ∈ flatC narrow_1 := zz_seg nr_s8 _ (List.mem_of_getElem? (i := 3) rfl)
theorem nr_s8_e : ∀ j : Nat, j < 4 → Cond.eq (.elem (.field (.string "SignetRingModel" 206) "java/lang/String" "value" "[B") (.int (Int32.ofNat j))) (.int (zs8 j)) ∈ flatC narrow_1 := fun j hj => zz_seg nr_s8 _ (List.mem_cons_of_mem _ (List.mem_cons_of_mem _ (List.mem_cons_of_mem _ (List.mem_cons_of_mem _ (List.mem_map.mpr ⟨j, List.mem_range.mpr hj, rfl⟩)))))
set_option maxHeartbeats 4000000 in
set_option maxRecDepth 100000 in
theorem nr_s9 : ((flatC narrow_1).drop 802).take 17 = Cond.exactly (.string "SignetRingModel" 208) "java/lang/String" :: Cond.eq (.field (.string "SignetRingModel" 208) "java/lang/String" "coder" "B") (.int 0) :: Cond.arrayOf (.field (.string "SignetRingModel" 208) "java/lang/String" "value" "[B") .byte :: Cond.eq (.length (.field (.string "SignetRingModel" 208) "java/lang/String" "value" "[B")) (.int (Int32.ofNat 13)) :: (List.range 13).map (fun j => Cond.eq (.elem (.field (.string "SignetRingModel" 208) "java/lang/String" "value" "[B") (.int (Int32.ofNat j))) (.int (zs9 j))) := by decide +kernel
theorem nr_s9_0 : Cond.exactly (.string "SignetRingModel" 208) "java/lang/String" ∈ flatC narrow_1 := zz_seg nr_s9 _ (List.mem_of_getElem? (i := 0) rfl)
theorem nr_s9_1 : Cond.eq (.field (.string "SignetRingModel" 208) "java/lang/String" "coder" "B") (.int 0) ∈ flatC narrow_1 := zz_seg nr_s9 _ (List.mem_of_getElem? (i := 1) rfl)
theorem nr_s9_2 : Cond.arrayOf (.field (.string "SignetRingModel" 208) "java/lang/String" "value" "[B") .byte ∈ flatC narrow_1 := zz_seg nr_s9 _ (List.mem_of_getElem? (i := 2) rfl)
theorem nr_s9_3 : Cond.eq (.length (.field (.string "SignetRingModel" 208) "java/lang/String" "value" "[B")) (.int (Int32.ofNat 13)) ∈ flatC narrow_1 := zz_seg nr_s9 _ (List.mem_of_getElem? (i := 3) rfl)
theorem nr_s9_e : ∀ j : Nat, j < 13 → Cond.eq (.elem (.field (.string "SignetRingModel" 208) "java/lang/String" "value" "[B") (.int (Int32.ofNat j))) (.int (zs9 j)) ∈ flatC narrow_1 := fun j hj => zz_seg nr_s9 _ (List.mem_cons_of_mem _ (List.mem_cons_of_mem _ (List.mem_cons_of_mem _ (List.mem_cons_of_mem _ (List.mem_map.mpr ⟨j, List.mem_range.mpr hj, rfl⟩)))))
set_option maxHeartbeats 4000000 in
set_option maxRecDepth 100000 in
theorem nr_s10 : ((flatC narrow_1).drop 834).take 9 = Cond.exactly (.string "SignetRingModel" 249) "java/lang/String" :: Cond.eq (.field (.string "SignetRingModel" 249) "java/lang/String" "coder" "B") (.int 0) :: Cond.arrayOf (.field (.string "SignetRingModel" 249) "java/lang/String" "value" "[B") .byte :: Cond.eq (.length (.field (.string "SignetRingModel" 249) "java/lang/String" "value" "[B")) (.int (Int32.ofNat 5)) :: (List.range 5).map (fun j => Cond.eq (.elem (.field (.string "SignetRingModel" 249) "java/lang/String" "value" "[B") (.int (Int32.ofNat j))) (.int (zs10 j))) := by decide +kernel
theorem nr_s10_0 : Cond.exactly (.string "SignetRingModel" 249) "java/lang/String" ∈ flatC narrow_1 := zz_seg nr_s10 _ (List.mem_of_getElem? (i := 0) rfl)
theorem nr_s10_1 : Cond.eq (.field (.string "SignetRingModel" 249) "java/lang/String" "coder" "B") (.int 0) ∈ flatC narrow_1 := zz_seg nr_s10 _ (List.mem_of_getElem? (i := 1) rfl)
theorem nr_s10_2 : Cond.arrayOf (.field (.string "SignetRingModel" 249) "java/lang/String" "value" "[B") .byte ∈ flatC narrow_1 := zz_seg nr_s10 _ (List.mem_of_getElem? (i := 2) rfl)
theorem nr_s10_3 : Cond.eq (.length (.field (.string "SignetRingModel" 249) "java/lang/String" "value" "[B")) (.int (Int32.ofNat 5)) ∈ flatC narrow_1 := zz_seg nr_s10 _ (List.mem_of_getElem? (i := 3) rfl)
theorem nr_s10_e : ∀ j : Nat, j < 5 → Cond.eq (.elem (.field (.string "SignetRingModel" 249) "java/lang/String" "value" "[B") (.int (Int32.ofNat j))) (.int (zs10 j)) ∈ flatC narrow_1 := fun j hj => zz_seg nr_s10 _ (List.mem_cons_of_mem _ (List.mem_cons_of_mem _ (List.mem_cons_of_mem _ (List.mem_cons_of_mem _ (List.mem_map.mpr ⟨j, List.mem_range.mpr hj, rfl⟩)))))
set_option maxHeartbeats 4000000 in
set_option maxRecDepth 100000 in
theorem nr_s11 : ((flatC narrow_1).drop 859).take 13 = Cond.exactly (.string "SignetRingModel" 243) "java/lang/String" :: Cond.eq (.field (.string "SignetRingModel" 243) "java/lang/String" "coder" "B") (.int 0) :: Cond.arrayOf (.field (.string "SignetRingModel" 243) "java/lang/String" "value" "[B") .byte :: Cond.eq (.length (.field (.string "SignetRingModel" 243) "java/lang/String" "value" "[B")) (.int (Int32.ofNat 9)) :: (List.range 9).map (fun j => Cond.eq (.elem (.field (.string "SignetRingModel" 243) "java/lang/String" "value" "[B") (.int (Int32.ofNat j))) (.int (zs11 j))) := by decide +kernel
theorem nr_s11_0 : Cond.exactly (.string "SignetRingModel" 243) "java/lang/String" ∈ flatC narrow_1 := zz_seg nr_s11 _ (List.mem_of_getElem? (i := 0) rfl)
theorem nr_s11_1 : Cond.eq (.field (.string "SignetRingModel" 243) "java/lang/String" "coder" "B") (.int 0) ∈ flatC narrow_1 := zz_seg nr_s11 _ (List.mem_of_getElem? (i := 1) rfl)
theorem nr_s11_2 : Cond.arrayOf (.field (.string "SignetRingModel" 243) "java/lang/String" "value" "[B") .byte ∈ flatC narrow_1 := zz_seg nr_s11 _ (List.mem_of_getElem? (i := 2) rfl)
theorem nr_s11_3 : Cond.eq (.length (.field (.string "SignetRingModel" 243) "java/lang/String" "value" "[B")) (.int (Int32.ofNat 9)) ∈ flatC narrow_1 := zz_seg nr_s11 _ (List.mem_of_getElem? (i := 3) rfl)
theorem nr_s11_e : ∀ j : Nat, j < 9 → Cond.eq (.elem (.field (.string "SignetRingModel" 243) "java/lang/String" "value" "[B") (.int (Int32.ofNat j))) (.int (zs11 j)) ∈ flatC narrow_1 := fun j hj => zz_seg nr_s11 _ (List.mem_cons_of_mem _ (List.mem_cons_of_mem _ (List.mem_cons_of_mem _ (List.mem_cons_of_mem _ (List.mem_map.mpr ⟨j, List.mem_range.mpr hj, rfl⟩)))))
set_option maxHeartbeats 4000000 in
set_option maxRecDepth 100000 in
theorem nr_cs : Cond.eq (.static "java/lang/String" "COMPACT_STRINGS" "Z") (.int 1) ∈ flatC narrow_1 := by decide +kernel
set_option maxHeartbeats 4000000 in
set_option maxRecDepth 100000 in
theorem nr_nc : Cond.not (.castable "java/lang/IndexOutOfBoundsException" "java/lang/IllegalArgumentException") ∈ flatC narrow_1 := by decide +kernel
set_option maxHeartbeats 4000000 in
set_option maxRecDepth 100000 in
theorem nr_zq : Cond.isRef (.static "jdk/internal/util/Preconditions" "SIOOBE_FORMATTER" "Ljava/util/function/BiFunction;") ∈ flatC narrow_1 := by decide +kernel
theorem zz_strOf {args : Array Value} {s : State} {own : String} {k n : Nat} {f : Nat → Int32} {A : Nat → Prop} (B : ∀ w ∈ flatC narrow_1, w.before args s = true) (hn : n < 2 ^ 31) (hex : Cond.exactly (.string own k) "java/lang/String" ∈ flatC narrow_1) (hco : Cond.eq (.field (.string own k) "java/lang/String" "coder" "B") (.int 0) ∈ flatC narrow_1)
    (har : Cond.arrayOf (.field (.string own k) "java/lang/String" "value" "[B") .byte ∈ flatC narrow_1) (hle : Cond.eq (.length (.field (.string own k) "java/lang/String" "value" "[B")) (.int (Int32.ofNat n)) ∈ flatC narrow_1) (hel : ∀ j : Nat, j < n → Cond.eq (.elem (.field (.string own k) "java/lang/String" "value" "[B") (.int (Int32.ofNat j))) (.int (f j)) ∈ flatC narrow_1) (hA : ∀ a : Nat, a < s.heap.size → ¬ A a) :
    ∃ a t : Nat, (Term.string own k).eval args s none [] s = some (.ref a) ∧ zStr a t n f A s s.heap := by
  obtain ⟨a, c, cA, kA, q1, q2, q3, q4, q5, q6, -⟩ := Cond.exactly_spec (args := args) (first := s) (o := none) (s := s) (idx := []) (t := .string own k) (cls := "java/lang/String") (B _ hex)
  obtain ⟨t, ht, hT⟩ := va_Tof (f := fun j => .int (f j)) (A := A) hn (B _ har) (va_eqt (B _ hle)) (fun j hj => va_eqt (B _ (hel j hj))) hA
  exact ⟨a, t, q1, ⟨cA, q3, q5, by rw [q6]; exact q2, hA a (Array.getElem?_eq_some_iff.mp q3).1⟩, vk_OFof q1 (va_eqt (B _ hco)) hA, vk_OFof q1 ht hA, hT⟩
theorem zz_arrOf {args : Array Value} {s : State} {C nm d : String} {n : Nat} {f : Nat → Int32} {A : Nat → Prop} (B : ∀ w ∈ flatC narrow_1, w.before args s = true) (hn : n < 2 ^ 31) (har : Cond.arrayOf (.static C nm d) .int ∈ flatC narrow_1) (hle : Cond.eq (.length (.static C nm d)) (.int (Int32.ofNat n)) ∈ flatC narrow_1) (hel : ∀ j : Nat, j < n → Cond.eq (.elem (.static C nm d) (.int (Int32.ofNat j))) (.int (f j)) ∈ flatC narrow_1) (hA : ∀ a : Nat, a < s.heap.size → ¬ A a) :
    ∃ t : Nat, (Term.static C nm d).eval args s none [] s = some (.ref t) ∧ va_T .int t n (fun j => .int (f j)) A s s.heap := by
  obtain ⟨t, ht, hT⟩ := va_Tof (f := fun j => .int (f j)) (A := A) hn (B _ har) (va_eqt (B _ hle)) (fun j hj => va_eqt (B _ (hel j hj))) hA
  exact ⟨t, ht, hT⟩
theorem zz_cmp (x : Int64) : lg_cmp x x = 0 := by
  unfold lg_cmp
  rw [if_neg (Int64.lt_irrefl), if_pos rfl]

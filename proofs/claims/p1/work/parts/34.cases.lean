set_option maxRecDepth 100000 in
theorem gv_law_1_c_X11_join_67 : GoodIn zt (wsV RL 67 RX11 yX11_join wz_c_X11_join) := goodIn_app (goodIn_of _ (by decide +kernel)) gl_c_X11_join
set_option maxRecDepth 100000 in
theorem gv_law_1_c_M_join_71 : GoodIn zt (wsV RL 71 RX12 yX12_join wz_c_M_join) := goodIn_app (goodIn_of _ (by decide +kernel)) gl_c_M_join
set_option maxHeartbeats 4000000 in
set_option maxRecDepth 100000 in
theorem law_1 {p : Program} {l : Launch} {e : Env} {s : State} {m : MethodId} {below : List Frame} {meth : Method} {c : Code} {b : Nat} {xs : Nat → Int32} (hl0 : l.stackTraces = false) (C0 : lw_At p s m meth c b 6 xs) {A : Nat → Prop} (hA : ∀ q : Nat, s.heap.size ≤ q → A q) (hAf : ∀ q : Nat, A q → s.heap.size ≤ q) {D : va_G} {y : Nat → ClassId} {e0 e1 e2 e3 e4 sa0 sa1 sa2 sa3 sa4 sa5 sa6 sa7 sa8 sa9 sa10 sa11 st0 st1 st2 st3 st4 st5 st6 st7 st8 st9 st10 st11 : Nat} (hK : va_K D vwCl (zT y) s) (hN : zN zL s) (hE : zE (zEL e0 e1 e2 e3 e4) A s s.heap) (hO : zAO s) (hT : zQ zTh A s s.heap) (hG : zG (zGL e1 e2 e3 e4 sa0 sa1 sa2 sa3 sa4 sa5 sa6 sa7 sa8 sa9 sa10 sa11 st0 st1 st2 st3 st4 st5 st6 st7 st8 st9 st10 st11) A s s.heap) {o x mo aq1 aq2 aq3 aq5 aq7 aq9 mq1 mq2 mq3 mq4 mq5 mq6 mq7 mq8 mq9 aq11 aq13 aq14 aq16 aq19 aq22 aq23 aq24 aq27 aq29 aq35 aq37 aq55 aq57 aq59 mq10 mq11 mq12 mq13 mq14 mq15 mq16 mq17 mq18 mq19 mq20 mq21 : Nat} {H : Heap} {locs : List Loc} (hP : va_P D vwCl [(x, .inr (15, [.ref aq1, .ref aq3, .ref aq5, .ref aq7, .ref aq9, .ref aq11, .ref aq16, .ref aq19, .ref aq22, .ref aq37, .ref aq55, .ref aq57, .ref aq59, .int 0, .null])), (aq1, .inr (4, [.ref aq2, .int 0, .int 0])), (aq11, .inr (8, [.ref aq13, .ref aq14, .ref aq13, .int 0, .int 0, .int 0])), (aq22, .inr (11, [.ref aq23, .ref aq24, .ref aq27, .ref aq29, .ref aq35, .null, .null])), (aq23, .inr (3, [.int 0, .ref e0, .int 0])), (mo, .inr (16, [.int 0, .int 0, .ref mq1, .ref mq2, .int 0, .ref mq3, .int 0, .ref mq4, .ref mq5, .ref mq6, .int 0, .ref mq7, .ref mq8, .ref mq9, .int 0, .ref mq10, .ref mq11, .ref mq12, .ref mq13, .ref mq14, .int 0, .ref mq15, .ref mq16, .long 0, .ref mq17, .ref mq18, .ref mq19, .int 0, .null, .int 0, .int 0, .int 0, .null, .int 0, .int 0, .int 0, .null, .ref mq20, .int 0, .int 0, .long 0, .null, .null, .null, .null, .int 0, .int 0, .int 0, .int 0, .int 0, .int 0, .null, .long 0, .long 0, .long 0, .null, .null, .null, .int 0, .int 0, .int 0, .ref mq21, .null, .null]))] H) (hD : va_D A [(x, .inr (15, [.ref aq1, .ref aq3, .ref aq5, .ref aq7, .ref aq9, .ref aq11, .ref aq16, .ref aq19, .ref aq22, .ref aq37, .ref aq55, .ref aq57, .ref aq59, .int 0, .null])), (aq1, .inr (4, [.ref aq2, .int 0, .int 0])), (aq11, .inr (8, [.ref aq13, .ref aq14, .ref aq13, .int 0, .int 0, .int 0])), (aq22, .inr (11, [.ref aq23, .ref aq24, .ref aq27, .ref aq29, .ref aq35, .null, .null])), (aq23, .inr (3, [.int 0, .ref e0, .int 0])), (mo, .inr (16, [.int 0, .int 0, .ref mq1, .ref mq2, .int 0, .ref mq3, .int 0, .ref mq4, .ref mq5, .ref mq6, .int 0, .ref mq7, .ref mq8, .ref mq9, .int 0, .ref mq10, .ref mq11, .ref mq12, .ref mq13, .ref mq14, .int 0, .ref mq15, .ref mq16, .long 0, .ref mq17, .ref mq18, .ref mq19, .int 0, .null, .int 0, .int 0, .int 0, .null, .int 0, .int 0, .int 0, .null, .ref mq20, .int 0, .int 0, .long 0, .null, .null, .null, .null, .int 0, .int 0, .int 0, .int 0, .int 0, .int 0, .null, .long 0, .long 0, .long 0, .null, .null, .null, .int 0, .int 0, .int 0, .ref mq21, .null, .null]))]) (hS : va_S A s.heap H locs) {ls : Array Slot} (hl : lv_has ls 8 [(4, .int 0), (3, .ref o), (2, .ref mo), (1, .ref x), (0, .ref b)]) : W p l e room_1 s m #[Value.ref b] below meth c H locs 84 139562 (lw_Z below #[Value.ref b] s) (F0 m 189 ls []) := by
  obtain ⟨hx, hb, hr, hml, hown, hts, hX, hbl, hlocks, hgv⟩ := C0
  have hts := zz_hts hts
  have hbA : ¬ A b := fun q => absurd hbl (Nat.not_lt.mpr (hAf b q))
  refine lv_aload_n hx hb dL_law_189 rfl (lv_at hl 3 rfl) ?_
  have hPc := hP.sub (ws' := [(x, .inr (15, [.ref aq1, .ref aq3, .ref aq5, .ref aq7, .ref aq9, .ref aq11, .ref aq16, .ref aq19, .ref aq22, .ref aq37, .ref aq55, .ref aq57, .ref aq59, .int 0, .null])), (aq22, .inr (11, [.ref aq23, .ref aq24, .ref aq27, .ref aq29, .ref aq35, .null, .null])), (aq11, .inr (8, [.ref aq13, .ref aq14, .ref aq13, .int 0, .int 0, .int 0])), (aq23, .inr (3, [.int 0, .ref e0, .int 0])), (aq1, .inr (4, [.ref aq2, .int 0, .int 0]))]) [0, 3, 2, 4, 1] rfl
  have hDc := hD.sub (ws' := [(x, .inr (15, [.ref aq1, .ref aq3, .ref aq5, .ref aq7, .ref aq9, .ref aq11, .ref aq16, .ref aq19, .ref aq22, .ref aq37, .ref aq55, .ref aq57, .ref aq59, .int 0, .null])), (aq22, .inr (11, [.ref aq23, .ref aq24, .ref aq27, .ref aq29, .ref aq35, .null, .null])), (aq11, .inr (8, [.ref aq13, .ref aq14, .ref aq13, .int 0, .int 0, .int 0])), (aq23, .inr (3, [.int 0, .ref e0, .int 0])), (aq1, .inr (4, [.ref aq2, .int 0, .int 0]))]) [0, 3, 2, 4, 1] (by decide) rfl
  have hFc := va_free (wc := [(x, .inr (15, [.ref aq1, .ref aq3, .ref aq5, .ref aq7, .ref aq9, .ref aq11, .ref aq16, .ref aq19, .ref aq22, .ref aq37, .ref aq55, .ref aq57, .ref aq59, .int 0, .null])), (aq22, .inr (11, [.ref aq23, .ref aq24, .ref aq27, .ref aq29, .ref aq35, .null, .null])), (aq11, .inr (8, [.ref aq13, .ref aq14, .ref aq13, .int 0, .int 0, .int 0])), (aq23, .inr (3, [.int 0, .ref e0, .int 0])), (aq1, .inr (4, [.ref aq2, .int 0, .int 0]))]) hD hS hA [0, 3, 2, 4, 1] rfl
  refine va_calli (va_runV (As := []) (rest := []) ⟨hx, hb, hml, hown, hts⟩ (c_X11_join l D y H.size x aq22 aq11 aq23 aq1 ((.ref aq3)) ((.ref aq5)) ((.ref aq7)) ((.ref aq9)) ((.ref aq16)) ((.ref aq19)) ((.ref aq37)) ((.ref aq55)) ((.ref aq57)) ((.ref aq59)) ((.int 0)) ((.null)) ((.ref aq24)) ((.ref aq27)) ((.ref aq29)) ((.ref aq35)) ((.null)) ((.null)) ((.ref aq13)) ((.ref aq14)) ((.ref aq13)) ((.int 0)) ((.int 0)) ((.int 0)) ((.int 0)) ((.ref e0)) ((.ref aq2))) (cwV 0 hts gv_law_1_c_X11_join_67 rfl rfl rfl (by decide +kernel) ⟨(Nat.le_of_ble_eq_true rfl), (Nat.le_of_ble_eq_true rfl)⟩) (zB.preV hPc hDc hK hN hE hO hT hG hS hFc (fun _ h => nomatch h) (fun _ h => nomatch h) (fun _ h => nomatch h) (fun _ h => nomatch h) (va_recv hK hPc (ci := 15) (q0 := 0) rfl rfl)) rfl rfl hl.1 rfl (lv_room (Nat.le_of_ble_eq_true rfl)) dL_law_190 ⟨(Nat.le_of_ble_eq_true rfl), (Nat.le_of_ble_eq_true rfl)⟩) hS (fun q _ h => hFc q h) hFc (fun r1 u t H1 locs ht hvm hw hB hz1 hk1 hS => ?_)
  obtain ⟨hP1, hD1⟩ := hB
  rw [ht] at hP1
  obtain ⟨hP, hD⟩ := va_join (wr := [(mo, .inr (16, [.int 0, .int 0, .ref mq1, .ref mq2, .int 0, .ref mq3, .int 0, .ref mq4, .ref mq5, .ref mq6, .int 0, .ref mq7, .ref mq8, .ref mq9, .int 0, .ref mq10, .ref mq11, .ref mq12, .ref mq13, .ref mq14, .int 0, .ref mq15, .ref mq16, .long 0, .ref mq17, .ref mq18, .ref mq19, .int 0, .null, .int 0, .int 0, .int 0, .null, .int 0, .int 0, .int 0, .null, .ref mq20, .int 0, .int 0, .long 0, .null, .null, .null, .null, .int 0, .int 0, .int 0, .int 0, .int 0, .int 0, .null, .long 0, .long 0, .long 0, .null, .null, .null, .int 0, .int 0, .int 0, .ref mq21, .null, .null]))]) (w1 := [(x, .inr (15, [.ref aq1, .ref aq3, .ref aq5, .ref aq7, .ref aq9, .ref aq11, .ref aq16, .ref aq19, .ref aq22, .ref aq37, .ref aq55, .ref aq57, .ref aq59, .int 0, .null])), (aq22, .inr (11, [.ref aq23, .ref aq24, .ref aq27, .ref aq29, .ref aq35, .null, .null])), (aq11, .inr (8, [.ref aq13, .ref aq14, .ref aq1, .int 0, .int 0, .int 0])), (aq23, .inr (3, [.int 0, .ref e0, .int 0])), (aq1, .inr (4, [.ref aq2, .int 0, .int 0]))]) hP hD [0, 3, 2, 4, 1] [5] rfl rfl (by decide) (by decide) hk1 hFc hP1 hD1
  generalize H1 = H at hP hS ⊢
  have hP : va_P D vwCl [(mo, .inr (16, [.int 0, .int 0, .ref mq1, .ref mq2, .int 0, .ref mq3, .int 0, .ref mq4, .ref mq5, .ref mq6, .int 0, .ref mq7, .ref mq8, .ref mq9, .int 0, .ref mq10, .ref mq11, .ref mq12, .ref mq13, .ref mq14, .int 0, .ref mq15, .ref mq16, .long 0, .ref mq17, .ref mq18, .ref mq19, .int 0, .null, .int 0, .int 0, .int 0, .null, .int 0, .int 0, .int 0, .null, .ref mq20, .int 0, .int 0, .long 0, .null, .null, .null, .null, .int 0, .int 0, .int 0, .int 0, .int 0, .int 0, .null, .long 0, .long 0, .long 0, .null, .null, .null, .int 0, .int 0, .int 0, .ref mq21, .null, .null])), (x, .inr (15, [.ref aq1, .ref aq3, .ref aq5, .ref aq7, .ref aq9, .ref aq11, .ref aq16, .ref aq19, .ref aq22, .ref aq37, .ref aq55, .ref aq57, .ref aq59, .int 0, .null])), (aq22, .inr (11, [.ref aq23, .ref aq24, .ref aq27, .ref aq29, .ref aq35, .null, .null])), (aq11, .inr (8, [.ref aq13, .ref aq14, .ref aq1, .int 0, .int 0, .int 0])), (aq23, .inr (3, [.int 0, .ref e0, .int 0])), (aq1, .inr (4, [.ref aq2, .int 0, .int 0]))] H := hP
  have hD : va_D A [(mo, .inr (16, [.int 0, .int 0, .ref mq1, .ref mq2, .int 0, .ref mq3, .int 0, .ref mq4, .ref mq5, .ref mq6, .int 0, .ref mq7, .ref mq8, .ref mq9, .int 0, .ref mq10, .ref mq11, .ref mq12, .ref mq13, .ref mq14, .int 0, .ref mq15, .ref mq16, .long 0, .ref mq17, .ref mq18, .ref mq19, .int 0, .null, .int 0, .int 0, .int 0, .null, .int 0, .int 0, .int 0, .null, .ref mq20, .int 0, .int 0, .long 0, .null, .null, .null, .null, .int 0, .int 0, .int 0, .int 0, .int 0, .int 0, .null, .long 0, .long 0, .long 0, .null, .null, .null, .int 0, .int 0, .int 0, .ref mq21, .null, .null])), (x, .inr (15, [.ref aq1, .ref aq3, .ref aq5, .ref aq7, .ref aq9, .ref aq11, .ref aq16, .ref aq19, .ref aq22, .ref aq37, .ref aq55, .ref aq57, .ref aq59, .int 0, .null])), (aq22, .inr (11, [.ref aq23, .ref aq24, .ref aq27, .ref aq29, .ref aq35, .null, .null])), (aq11, .inr (8, [.ref aq13, .ref aq14, .ref aq1, .int 0, .int 0, .int 0])), (aq23, .inr (3, [.int 0, .ref e0, .int 0])), (aq1, .inr (4, [.ref aq2, .int 0, .int 0]))] := hD
  have hw : r1 = -1 := hw
  subst hw
  refine lv_aload_n hx hb dL_law_193 rfl (lv_at hl 2 rfl) ?_
  have hPc := hP.sub (ws' := [(mo, .inr (16, [.int 0, .int 0, .ref mq1, .ref mq2, .int 0, .ref mq3, .int 0, .ref mq4, .ref mq5, .ref mq6, .int 0, .ref mq7, .ref mq8, .ref mq9, .int 0, .ref mq10, .ref mq11, .ref mq12, .ref mq13, .ref mq14, .int 0, .ref mq15, .ref mq16, .long 0, .ref mq17, .ref mq18, .ref mq19, .int 0, .null, .int 0, .int 0, .int 0, .null, .int 0, .int 0, .int 0, .null, .ref mq20, .int 0, .int 0, .long 0, .null, .null, .null, .null, .int 0, .int 0, .int 0, .int 0, .int 0, .int 0, .null, .long 0, .long 0, .long 0, .null, .null, .null, .int 0, .int 0, .int 0, .ref mq21, .null, .null]))]) [0] rfl
  have hDc := hD.sub (ws' := [(mo, .inr (16, [.int 0, .int 0, .ref mq1, .ref mq2, .int 0, .ref mq3, .int 0, .ref mq4, .ref mq5, .ref mq6, .int 0, .ref mq7, .ref mq8, .ref mq9, .int 0, .ref mq10, .ref mq11, .ref mq12, .ref mq13, .ref mq14, .int 0, .ref mq15, .ref mq16, .long 0, .ref mq17, .ref mq18, .ref mq19, .int 0, .null, .int 0, .int 0, .int 0, .null, .int 0, .int 0, .int 0, .null, .ref mq20, .int 0, .int 0, .long 0, .null, .null, .null, .null, .int 0, .int 0, .int 0, .int 0, .int 0, .int 0, .null, .long 0, .long 0, .long 0, .null, .null, .null, .int 0, .int 0, .int 0, .ref mq21, .null, .null]))]) [0] (by decide) rfl
  have hFc := va_free (wc := [(mo, .inr (16, [.int 0, .int 0, .ref mq1, .ref mq2, .int 0, .ref mq3, .int 0, .ref mq4, .ref mq5, .ref mq6, .int 0, .ref mq7, .ref mq8, .ref mq9, .int 0, .ref mq10, .ref mq11, .ref mq12, .ref mq13, .ref mq14, .int 0, .ref mq15, .ref mq16, .long 0, .ref mq17, .ref mq18, .ref mq19, .int 0, .null, .int 0, .int 0, .int 0, .null, .int 0, .int 0, .int 0, .null, .ref mq20, .int 0, .int 0, .long 0, .null, .null, .null, .null, .int 0, .int 0, .int 0, .int 0, .int 0, .int 0, .null, .long 0, .long 0, .long 0, .null, .null, .null, .int 0, .int 0, .int 0, .ref mq21, .null, .null]))]) hD hS hA [0] rfl
  refine va_calli (va_runV (As := []) (rest := [.int (-1)]) ⟨hx, hb, hml, hown, hts⟩ (c_M_join l D y H.size mo mq1 ((.int 0)) ((.ref mq2)) ((.int 0)) ((.ref mq3)) ((.ref mq4)) ((.ref mq5)) ((.ref mq6)) ((.int 0)) ((.ref mq7)) ((.ref mq8)) ((.ref mq9)) ((.int 0)) ((.ref mq10)) ((.ref mq11)) ((.ref mq12)) ((.ref mq13)) ((.ref mq14)) ((.int 0)) ((.ref mq15)) ((.ref mq16)) ((.long 0)) ((.ref mq17)) ((.ref mq18)) ((.ref mq19)) ((.int 0)) ((.null)) ((.int 0)) ((.int 0)) ((.int 0)) ((.null)) ((.int 0)) ((.int 0)) ((.int 0)) ((.null)) ((.ref mq20)) ((.int 0)) ((.int 0)) ((.long 0)) ((.null)) ((.null)) ((.null)) ((.null)) ((.int 0)) ((.int 0)) ((.int 0)) ((.int 0)) ((.int 0)) ((.int 0)) ((.null)) ((.long 0)) ((.long 0)) ((.long 0)) ((.null)) ((.null)) ((.null)) ((.int 0)) ((.int 0)) ((.int 0)) ((.ref mq21)) ((.null)) ((.null))) (cwV 0 hts gv_law_1_c_M_join_71 rfl rfl rfl (by decide +kernel) ⟨(Nat.le_of_ble_eq_true rfl), (Nat.le_of_ble_eq_true rfl)⟩) (zB.preV hPc hDc hK hN hE hO hT hG hS hFc (fun _ h => nomatch h) (fun _ h => nomatch h) (fun _ h => nomatch h) (fun _ h => nomatch h) (va_recv hK hPc (ci := 16) (q0 := 0) rfl rfl)) rfl rfl hl.1 rfl (lv_room (Nat.le_of_ble_eq_true rfl)) dL_law_194 ⟨(Nat.le_of_ble_eq_true rfl), (Nat.le_of_ble_eq_true rfl)⟩) hS (fun q _ h => hFc q h) hFc (fun r2 u t H1 locs ht hvm hw hB hz1 hk1 hS => ?_)
  obtain ⟨q3, hP1, hD1⟩ := hB
  rw [ht] at hP1
  obtain ⟨hP, hD⟩ := va_join (wr := [(x, .inr (15, [.ref aq1, .ref aq3, .ref aq5, .ref aq7, .ref aq9, .ref aq11, .ref aq16, .ref aq19, .ref aq22, .ref aq37, .ref aq55, .ref aq57, .ref aq59, .int 0, .null])), (aq22, .inr (11, [.ref aq23, .ref aq24, .ref aq27, .ref aq29, .ref aq35, .null, .null])), (aq11, .inr (8, [.ref aq13, .ref aq14, .ref aq1, .int 0, .int 0, .int 0])), (aq23, .inr (3, [.int 0, .ref e0, .int 0])), (aq1, .inr (4, [.ref aq2, .int 0, .int 0]))]) (w1 := [(mo, .inr (16, [.int 0, .int 0, .ref mq1, .ref mq2, .int 0, .ref mq3, .int 0, .ref mq4, .ref mq5, .ref mq6, .int 0, .ref mq7, .ref mq8, .ref mq9, .int 0, .ref mq10, .ref mq11, .ref mq12, .ref mq13, .ref mq14, .int 0, .ref mq15, .ref mq16, .long 0, .ref mq17, .ref mq18, .ref mq19, .int (-1), .null, .int 0, .int 0, .int 0, .ref q3, .int 0, .int 0, .int 0, .null, .ref mq20, .int 0, .int 0, .long 0, .null, .null, .null, .null, .int 0, .int 0, .int 0, .int 0, .int 0, .int 0, .null, .long 0, .long 0, .long 0, .null, .null, .null, .int 0, .int 0, .int 0, .ref mq21, .null, .null])), (q3, .inl (y 1, 0, .inl (fun _ => 0)))]) hP hD [0] [1, 2, 3, 4, 5] rfl rfl (by decide) (by decide) hk1 hFc hP1 hD1
  generalize H1 = H at hP hS ⊢
  have hP : va_P D vwCl [(x, .inr (15, [.ref aq1, .ref aq3, .ref aq5, .ref aq7, .ref aq9, .ref aq11, .ref aq16, .ref aq19, .ref aq22, .ref aq37, .ref aq55, .ref aq57, .ref aq59, .int 0, .null])), (aq22, .inr (11, [.ref aq23, .ref aq24, .ref aq27, .ref aq29, .ref aq35, .null, .null])), (aq11, .inr (8, [.ref aq13, .ref aq14, .ref aq1, .int 0, .int 0, .int 0])), (aq23, .inr (3, [.int 0, .ref e0, .int 0])), (aq1, .inr (4, [.ref aq2, .int 0, .int 0])), (mo, .inr (16, [.int 0, .int 0, .ref mq1, .ref mq2, .int 0, .ref mq3, .int 0, .ref mq4, .ref mq5, .ref mq6, .int 0, .ref mq7, .ref mq8, .ref mq9, .int 0, .ref mq10, .ref mq11, .ref mq12, .ref mq13, .ref mq14, .int 0, .ref mq15, .ref mq16, .long 0, .ref mq17, .ref mq18, .ref mq19, .int (-1), .null, .int 0, .int 0, .int 0, .ref q3, .int 0, .int 0, .int 0, .null, .ref mq20, .int 0, .int 0, .long 0, .null, .null, .null, .null, .int 0, .int 0, .int 0, .int 0, .int 0, .int 0, .null, .long 0, .long 0, .long 0, .null, .null, .null, .int 0, .int 0, .int 0, .ref mq21, .null, .null])), (q3, .inl (y 1, 0, .inl (fun _ => 0)))] H := hP
  have hD : va_D A [(x, .inr (15, [.ref aq1, .ref aq3, .ref aq5, .ref aq7, .ref aq9, .ref aq11, .ref aq16, .ref aq19, .ref aq22, .ref aq37, .ref aq55, .ref aq57, .ref aq59, .int 0, .null])), (aq22, .inr (11, [.ref aq23, .ref aq24, .ref aq27, .ref aq29, .ref aq35, .null, .null])), (aq11, .inr (8, [.ref aq13, .ref aq14, .ref aq1, .int 0, .int 0, .int 0])), (aq23, .inr (3, [.int 0, .ref e0, .int 0])), (aq1, .inr (4, [.ref aq2, .int 0, .int 0])), (mo, .inr (16, [.int 0, .int 0, .ref mq1, .ref mq2, .int 0, .ref mq3, .int 0, .ref mq4, .ref mq5, .ref mq6, .int 0, .ref mq7, .ref mq8, .ref mq9, .int 0, .ref mq10, .ref mq11, .ref mq12, .ref mq13, .ref mq14, .int 0, .ref mq15, .ref mq16, .long 0, .ref mq17, .ref mq18, .ref mq19, .int (-1), .null, .int 0, .int 0, .int 0, .ref q3, .int 0, .int 0, .int 0, .null, .ref mq20, .int 0, .int 0, .long 0, .null, .null, .null, .null, .int 0, .int 0, .int 0, .int 0, .int 0, .int 0, .null, .long 0, .long 0, .long 0, .null, .null, .null, .int 0, .int 0, .int 0, .ref mq21, .null, .null])), (q3, .inl (y 1, 0, .inl (fun _ => 0)))] := hD
  have hw : r2 = -1 := hw
  subst hw
  refine lv_icmp_eq (tgt := 1017) hx hb dL_law_197 (by decide) (fun _ => ?_) (fun c9 => absurd (by decide) c9)
  refine lv_iinc (v := 6) (lv' := [(4, .int 6), (3, .ref o), (2, .ref mo), (1, .ref x), (0, .ref b)]) hx hb dL_law_1017 hl (k := 0) rfl (by decide) (by decide) rfl (fun ls hl => ?_)
  refine lv_goto (tgt := 23) hx hb dL_law_1020 (by decide) ?_
  refine lv_iload hx hb dL_law_23 (lv_at hl 0 rfl) ?_
  refine lv_aload_n hx hb dL_law_25 rfl (lv_at hl 4 rfl) ?_
  refine va_slen hx hb hX hbl hbA hS dL_law_26 ?_
  refine lv_bipush (v := 6) hx hb dL_law_27 (by decide) ?_
  refine lv_isub hx hb dL_law_29 ?_
  refine lv_topi (fun v4 ev4 => ?_)
  have ev4 : v4 = 0 := ev4.trans (by decide +kernel)
  subst ev4
  refine lv_icmp_gt (tgt := 1023) hx hb dL_law_30 (by decide) (fun _ => ?_) (fun c9 => absurd (by decide) c9)
  refine lv_iconst (v := 1) hx hb dL_law_1023 (by decide) ?_
  refine va_forget (fun q hq => hAf _ (hS.2.2 q hq)) ?_
  refine W.widen (k := 600002) (n := 7302232) (Nat.le_of_ble_eq_true rfl) (Nat.le_of_ble_eq_true rfl) ?_
  exact lw_ret hx hb hr hlocks dL_law_1024
set_option maxRecDepth 100000 in
theorem gv_law_2_c_X11_document_72 : GoodIn zt (wsV RL 72 RX11 yX11_document wz_c_X11_document) := goodIn_app (goodIn_of _ (by decide +kernel)) gl_c_X11_document
set_option maxRecDepth 100000 in
theorem gv_law_2_c_M_document_75 : GoodIn zt (wsV RL 75 RX12 yX12_document wz_c_M_document) := goodIn_app (goodIn_of _ (by decide +kernel)) gl_c_M_document
set_option maxHeartbeats 4000000 in
set_option maxRecDepth 100000 in
theorem law_2 {p : Program} {l : Launch} {e : Env} {s : State} {m : MethodId} {below : List Frame} {meth : Method} {c : Code} {b : Nat} {xs : Nat → Int32} (hl0 : l.stackTraces = false) (C0 : lw_At p s m meth c b 6 xs) {A : Nat → Prop} (hA : ∀ q : Nat, s.heap.size ≤ q → A q) (hAf : ∀ q : Nat, A q → s.heap.size ≤ q) {D : va_G} {y : Nat → ClassId} {e0 e1 e2 e3 e4 sa0 sa1 sa2 sa3 sa4 sa5 sa6 sa7 sa8 sa9 sa10 sa11 st0 st1 st2 st3 st4 st5 st6 st7 st8 st9 st10 st11 : Nat} (hK : va_K D vwCl (zT y) s) (hN : zN zL s) (hE : zE (zEL e0 e1 e2 e3 e4) A s s.heap) (hO : zAO s) (hT : zQ zTh A s s.heap) (hG : zG (zGL e1 e2 e3 e4 sa0 sa1 sa2 sa3 sa4 sa5 sa6 sa7 sa8 sa9 sa10 sa11 st0 st1 st2 st3 st4 st5 st6 st7 st8 st9 st10 st11) A s s.heap) {o x mo aq1 aq2 aq3 aq4 aq5 aq7 aq9 mq1 mq2 mq3 mq4 mq5 mq6 mq7 mq8 mq9 aq11 aq16 aq19 aq22 aq37 aq55 aq57 aq59 mq10 mq11 mq12 mq13 mq14 mq15 mq16 mq17 mq18 mq19 mq20 mq21 : Nat} {H : Heap} {locs : List Loc} (hP : va_P D vwCl [(x, .inr (15, [.ref aq1, .ref aq3, .ref aq5, .ref aq7, .ref aq9, .ref aq11, .ref aq16, .ref aq19, .ref aq22, .ref aq37, .ref aq55, .ref aq57, .ref aq59, .int 0, .null])), (aq1, .inr (4, [.ref aq2, .int 0, .int 0])), (aq3, .inr (4, [.ref aq4, .int 0, .int 0])), (mo, .inr (16, [.int 0, .int 0, .ref mq1, .ref mq2, .int 0, .ref mq3, .int 0, .ref mq4, .ref mq5, .ref mq6, .int 0, .ref mq7, .ref mq8, .ref mq9, .int 0, .ref mq10, .ref mq11, .ref mq12, .ref mq13, .ref mq14, .int 0, .ref mq15, .ref mq16, .long 0, .ref mq17, .ref mq18, .ref mq19, .int 0, .null, .int 0, .int 0, .int 0, .null, .int 0, .int 0, .int 0, .null, .ref mq20, .int 0, .int 0, .long 0, .null, .null, .null, .null, .int 0, .int 0, .int 0, .int 0, .int 0, .int 0, .null, .long 0, .long 0, .long 0, .null, .null, .null, .int 0, .int 0, .int 0, .ref mq21, .null, .null]))] H) (hD : va_D A [(x, .inr (15, [.ref aq1, .ref aq3, .ref aq5, .ref aq7, .ref aq9, .ref aq11, .ref aq16, .ref aq19, .ref aq22, .ref aq37, .ref aq55, .ref aq57, .ref aq59, .int 0, .null])), (aq1, .inr (4, [.ref aq2, .int 0, .int 0])), (aq3, .inr (4, [.ref aq4, .int 0, .int 0])), (mo, .inr (16, [.int 0, .int 0, .ref mq1, .ref mq2, .int 0, .ref mq3, .int 0, .ref mq4, .ref mq5, .ref mq6, .int 0, .ref mq7, .ref mq8, .ref mq9, .int 0, .ref mq10, .ref mq11, .ref mq12, .ref mq13, .ref mq14, .int 0, .ref mq15, .ref mq16, .long 0, .ref mq17, .ref mq18, .ref mq19, .int 0, .null, .int 0, .int 0, .int 0, .null, .int 0, .int 0, .int 0, .null, .ref mq20, .int 0, .int 0, .long 0, .null, .null, .null, .null, .int 0, .int 0, .int 0, .int 0, .int 0, .int 0, .null, .long 0, .long 0, .long 0, .null, .null, .null, .int 0, .int 0, .int 0, .ref mq21, .null, .null]))]) (hS : va_S A s.heap H locs) {ls : Array Slot} (hl : lv_has ls 8 [(4, .int 0), (3, .ref o), (2, .ref mo), (1, .ref x), (0, .ref b)]) : W p l e room_1 s m #[Value.ref b] below meth c H locs 84 139562 (lw_Z below #[Value.ref b] s) (F0 m 202 ls []) := by
  obtain ⟨hx, hb, hr, hml, hown, hts, hX, hbl, hlocks, hgv⟩ := C0
  have hts := zz_hts hts
  have hbA : ¬ A b := fun q => absurd hbl (Nat.not_lt.mpr (hAf b q))
  refine lv_aload_n hx hb dL_law_202 rfl (lv_at hl 3 rfl) ?_
  have hPc := hP.sub (ws' := [(x, .inr (15, [.ref aq1, .ref aq3, .ref aq5, .ref aq7, .ref aq9, .ref aq11, .ref aq16, .ref aq19, .ref aq22, .ref aq37, .ref aq55, .ref aq57, .ref aq59, .int 0, .null])), (aq3, .inr (4, [.ref aq4, .int 0, .int 0])), (aq1, .inr (4, [.ref aq2, .int 0, .int 0]))]) [0, 2, 1] rfl
  have hDc := hD.sub (ws' := [(x, .inr (15, [.ref aq1, .ref aq3, .ref aq5, .ref aq7, .ref aq9, .ref aq11, .ref aq16, .ref aq19, .ref aq22, .ref aq37, .ref aq55, .ref aq57, .ref aq59, .int 0, .null])), (aq3, .inr (4, [.ref aq4, .int 0, .int 0])), (aq1, .inr (4, [.ref aq2, .int 0, .int 0]))]) [0, 2, 1] (by decide) rfl
  have hFc := va_free (wc := [(x, .inr (15, [.ref aq1, .ref aq3, .ref aq5, .ref aq7, .ref aq9, .ref aq11, .ref aq16, .ref aq19, .ref aq22, .ref aq37, .ref aq55, .ref aq57, .ref aq59, .int 0, .null])), (aq3, .inr (4, [.ref aq4, .int 0, .int 0])), (aq1, .inr (4, [.ref aq2, .int 0, .int 0]))]) hD hS hA [0, 2, 1] rfl
  refine va_calli (va_runV (As := []) (rest := []) ⟨hx, hb, hml, hown, hts⟩ (c_X11_document l D y H.size x aq3 aq1 ((.ref aq5)) ((.ref aq7)) ((.ref aq9)) ((.ref aq11)) ((.ref aq16)) ((.ref aq19)) ((.ref aq22)) ((.ref aq37)) ((.ref aq55)) ((.ref aq57)) ((.ref aq59)) ((.int 0)) ((.null)) ((.ref aq4)) ((.int 0)) ((.ref aq2))) (cwV 0 hts gv_law_2_c_X11_document_72 rfl rfl rfl (by decide +kernel) ⟨(Nat.le_of_ble_eq_true rfl), (Nat.le_of_ble_eq_true rfl)⟩) (zB.preV hPc hDc hK hN hE hO hT hG hS hFc (fun _ h => nomatch h) (fun _ h => nomatch h) (fun _ h => nomatch h) (fun _ h => nomatch h) (va_recv hK hPc (ci := 15) (q0 := 0) rfl rfl)) rfl rfl hl.1 rfl (lv_room (Nat.le_of_ble_eq_true rfl)) dL_law_203 ⟨(Nat.le_of_ble_eq_true rfl), (Nat.le_of_ble_eq_true rfl)⟩) hS (fun q _ h => hFc q h) hFc (fun r1 u t H1 locs ht hvm hw hB hz1 hk1 hS => ?_)
  obtain ⟨hP1, hD1⟩ := hB
  rw [ht] at hP1
  obtain ⟨hP, hD⟩ := va_join (wr := [(mo, .inr (16, [.int 0, .int 0, .ref mq1, .ref mq2, .int 0, .ref mq3, .int 0, .ref mq4, .ref mq5, .ref mq6, .int 0, .ref mq7, .ref mq8, .ref mq9, .int 0, .ref mq10, .ref mq11, .ref mq12, .ref mq13, .ref mq14, .int 0, .ref mq15, .ref mq16, .long 0, .ref mq17, .ref mq18, .ref mq19, .int 0, .null, .int 0, .int 0, .int 0, .null, .int 0, .int 0, .int 0, .null, .ref mq20, .int 0, .int 0, .long 0, .null, .null, .null, .null, .int 0, .int 0, .int 0, .int 0, .int 0, .int 0, .null, .long 0, .long 0, .long 0, .null, .null, .null, .int 0, .int 0, .int 0, .ref mq21, .null, .null]))]) (w1 := [(x, .inr (15, [.ref aq1, .ref aq3, .ref aq5, .ref aq7, .ref aq9, .ref aq11, .ref aq16, .ref aq19, .ref aq22, .ref aq37, .ref aq55, .ref aq57, .ref aq59, .int 0, .null])), (aq3, .inr (4, [.ref aq4, .int 0, .int 0])), (aq1, .inr (4, [.ref aq2, .int 0, .int 0]))]) hP hD [0, 2, 1] [3] rfl rfl (by decide) (by decide) hk1 hFc hP1 hD1
  generalize H1 = H at hP hS ⊢
  have hP : va_P D vwCl [(mo, .inr (16, [.int 0, .int 0, .ref mq1, .ref mq2, .int 0, .ref mq3, .int 0, .ref mq4, .ref mq5, .ref mq6, .int 0, .ref mq7, .ref mq8, .ref mq9, .int 0, .ref mq10, .ref mq11, .ref mq12, .ref mq13, .ref mq14, .int 0, .ref mq15, .ref mq16, .long 0, .ref mq17, .ref mq18, .ref mq19, .int 0, .null, .int 0, .int 0, .int 0, .null, .int 0, .int 0, .int 0, .null, .ref mq20, .int 0, .int 0, .long 0, .null, .null, .null, .null, .int 0, .int 0, .int 0, .int 0, .int 0, .int 0, .null, .long 0, .long 0, .long 0, .null, .null, .null, .int 0, .int 0, .int 0, .ref mq21, .null, .null])), (x, .inr (15, [.ref aq1, .ref aq3, .ref aq5, .ref aq7, .ref aq9, .ref aq11, .ref aq16, .ref aq19, .ref aq22, .ref aq37, .ref aq55, .ref aq57, .ref aq59, .int 0, .null])), (aq3, .inr (4, [.ref aq4, .int 0, .int 0])), (aq1, .inr (4, [.ref aq2, .int 0, .int 0]))] H := hP
  have hD : va_D A [(mo, .inr (16, [.int 0, .int 0, .ref mq1, .ref mq2, .int 0, .ref mq3, .int 0, .ref mq4, .ref mq5, .ref mq6, .int 0, .ref mq7, .ref mq8, .ref mq9, .int 0, .ref mq10, .ref mq11, .ref mq12, .ref mq13, .ref mq14, .int 0, .ref mq15, .ref mq16, .long 0, .ref mq17, .ref mq18, .ref mq19, .int 0, .null, .int 0, .int 0, .int 0, .null, .int 0, .int 0, .int 0, .null, .ref mq20, .int 0, .int 0, .long 0, .null, .null, .null, .null, .int 0, .int 0, .int 0, .int 0, .int 0, .int 0, .null, .long 0, .long 0, .long 0, .null, .null, .null, .int 0, .int 0, .int 0, .ref mq21, .null, .null])), (x, .inr (15, [.ref aq1, .ref aq3, .ref aq5, .ref aq7, .ref aq9, .ref aq11, .ref aq16, .ref aq19, .ref aq22, .ref aq37, .ref aq55, .ref aq57, .ref aq59, .int 0, .null])), (aq3, .inr (4, [.ref aq4, .int 0, .int 0])), (aq1, .inr (4, [.ref aq2, .int 0, .int 0]))] := hD
  have hw : r1 = 0 := hw
  subst hw
  refine lv_aload_n hx hb dL_law_206 rfl (lv_at hl 2 rfl) ?_
  have hPc := hP.sub (ws' := [(mo, .inr (16, [.int 0, .int 0, .ref mq1, .ref mq2, .int 0, .ref mq3, .int 0, .ref mq4, .ref mq5, .ref mq6, .int 0, .ref mq7, .ref mq8, .ref mq9, .int 0, .ref mq10, .ref mq11, .ref mq12, .ref mq13, .ref mq14, .int 0, .ref mq15, .ref mq16, .long 0, .ref mq17, .ref mq18, .ref mq19, .int 0, .null, .int 0, .int 0, .int 0, .null, .int 0, .int 0, .int 0, .null, .ref mq20, .int 0, .int 0, .long 0, .null, .null, .null, .null, .int 0, .int 0, .int 0, .int 0, .int 0, .int 0, .null, .long 0, .long 0, .long 0, .null, .null, .null, .int 0, .int 0, .int 0, .ref mq21, .null, .null]))]) [0] rfl
  have hDc := hD.sub (ws' := [(mo, .inr (16, [.int 0, .int 0, .ref mq1, .ref mq2, .int 0, .ref mq3, .int 0, .ref mq4, .ref mq5, .ref mq6, .int 0, .ref mq7, .ref mq8, .ref mq9, .int 0, .ref mq10, .ref mq11, .ref mq12, .ref mq13, .ref mq14, .int 0, .ref mq15, .ref mq16, .long 0, .ref mq17, .ref mq18, .ref mq19, .int 0, .null, .int 0, .int 0, .int 0, .null, .int 0, .int 0, .int 0, .null, .ref mq20, .int 0, .int 0, .long 0, .null, .null, .null, .null, .int 0, .int 0, .int 0, .int 0, .int 0, .int 0, .null, .long 0, .long 0, .long 0, .null, .null, .null, .int 0, .int 0, .int 0, .ref mq21, .null, .null]))]) [0] (by decide) rfl
  have hFc := va_free (wc := [(mo, .inr (16, [.int 0, .int 0, .ref mq1, .ref mq2, .int 0, .ref mq3, .int 0, .ref mq4, .ref mq5, .ref mq6, .int 0, .ref mq7, .ref mq8, .ref mq9, .int 0, .ref mq10, .ref mq11, .ref mq12, .ref mq13, .ref mq14, .int 0, .ref mq15, .ref mq16, .long 0, .ref mq17, .ref mq18, .ref mq19, .int 0, .null, .int 0, .int 0, .int 0, .null, .int 0, .int 0, .int 0, .null, .ref mq20, .int 0, .int 0, .long 0, .null, .null, .null, .null, .int 0, .int 0, .int 0, .int 0, .int 0, .int 0, .null, .long 0, .long 0, .long 0, .null, .null, .null, .int 0, .int 0, .int 0, .ref mq21, .null, .null]))]) hD hS hA [0] rfl
  refine va_calli (va_runV (As := []) (rest := [.int 0]) ⟨hx, hb, hml, hown, hts⟩ (c_M_document l D y H.size mo mq1 ((.int 0)) ((.ref mq2)) ((.int 0)) ((.ref mq3)) ((.int 0)) ((.ref mq4)) ((.ref mq5)) ((.ref mq6)) ((.int 0)) ((.ref mq7)) ((.ref mq8)) ((.ref mq9)) ((.int 0)) ((.ref mq10)) ((.ref mq11)) ((.ref mq12)) ((.ref mq13)) ((.ref mq14)) ((.int 0)) ((.ref mq15)) ((.ref mq16)) ((.long 0)) ((.ref mq17)) ((.ref mq18)) ((.ref mq19)) ((.int 0)) ((.null)) ((.int 0)) ((.int 0)) ((.int 0)) ((.null)) ((.int 0)) ((.int 0)) ((.int 0)) ((.null)) ((.ref mq20)) ((.int 0)) ((.int 0)) ((.long 0)) ((.null)) ((.null)) ((.null)) ((.null)) ((.int 0)) ((.int 0)) ((.int 0)) ((.int 0)) ((.int 0)) ((.int 0)) ((.null)) ((.long 0)) ((.long 0)) ((.long 0)) ((.null)) ((.null)) ((.null)) ((.int 0)) ((.int 0)) ((.int 0)) ((.ref mq21)) ((.null)) ((.null))) (cwV 0 hts gv_law_2_c_M_document_75 rfl rfl rfl (by decide +kernel) ⟨(Nat.le_of_ble_eq_true rfl), (Nat.le_of_ble_eq_true rfl)⟩) (zB.preV hPc hDc hK hN hE hO hT hG hS hFc (fun _ h => nomatch h) (fun _ h => nomatch h) (fun _ h => nomatch h) (fun _ h => nomatch h) (va_recv hK hPc (ci := 16) (q0 := 0) rfl rfl)) rfl rfl hl.1 rfl (lv_room (Nat.le_of_ble_eq_true rfl)) dL_law_207 ⟨(Nat.le_of_ble_eq_true rfl), (Nat.le_of_ble_eq_true rfl)⟩) hS (fun q _ h => hFc q h) hFc (fun r2 u t H1 locs ht hvm hw hB hz1 hk1 hS => ?_)
  obtain ⟨q3, hP1, hD1⟩ := hB
  rw [ht] at hP1
  obtain ⟨hP, hD⟩ := va_join (wr := [(x, .inr (15, [.ref aq1, .ref aq3, .ref aq5, .ref aq7, .ref aq9, .ref aq11, .ref aq16, .ref aq19, .ref aq22, .ref aq37, .ref aq55, .ref aq57, .ref aq59, .int 0, .null])), (aq3, .inr (4, [.ref aq4, .int 0, .int 0])), (aq1, .inr (4, [.ref aq2, .int 0, .int 0]))]) (w1 := [(mo, .inr (16, [.int 0, .int 0, .ref mq1, .ref q3, .int 0, .ref mq3, .int 0, .ref mq4, .ref mq5, .ref mq6, .int 0, .ref mq7, .ref mq8, .ref mq9, .int 0, .ref mq10, .ref mq11, .ref mq12, .ref mq13, .ref mq14, .int 0, .ref mq15, .ref mq16, .long 0, .ref mq17, .ref mq18, .ref mq19, .int 0, .null, .int 0, .int 0, .int 0, .null, .int 0, .int 0, .int 0, .null, .ref mq20, .int 0, .int 0, .long 0, .null, .null, .null, .null, .int 0, .int 0, .int 0, .int 0, .int 0, .int 0, .null, .long 0, .long 0, .long 0, .null, .null, .null, .int 0, .int 0, .int 0, .ref mq21, .null, .null])), (q3, .inl (y 1, 0, .inl (fun _ => 0)))]) hP hD [0] [1, 2, 3] rfl rfl (by decide) (by decide) hk1 hFc hP1 hD1
  generalize H1 = H at hP hS ⊢
  have hP : va_P D vwCl [(x, .inr (15, [.ref aq1, .ref aq3, .ref aq5, .ref aq7, .ref aq9, .ref aq11, .ref aq16, .ref aq19, .ref aq22, .ref aq37, .ref aq55, .ref aq57, .ref aq59, .int 0, .null])), (aq3, .inr (4, [.ref aq4, .int 0, .int 0])), (aq1, .inr (4, [.ref aq2, .int 0, .int 0])), (mo, .inr (16, [.int 0, .int 0, .ref mq1, .ref q3, .int 0, .ref mq3, .int 0, .ref mq4, .ref mq5, .ref mq6, .int 0, .ref mq7, .ref mq8, .ref mq9, .int 0, .ref mq10, .ref mq11, .ref mq12, .ref mq13, .ref mq14, .int 0, .ref mq15, .ref mq16, .long 0, .ref mq17, .ref mq18, .ref mq19, .int 0, .null, .int 0, .int 0, .int 0, .null, .int 0, .int 0, .int 0, .null, .ref mq20, .int 0, .int 0, .long 0, .null, .null, .null, .null, .int 0, .int 0, .int 0, .int 0, .int 0, .int 0, .null, .long 0, .long 0, .long 0, .null, .null, .null, .int 0, .int 0, .int 0, .ref mq21, .null, .null])), (q3, .inl (y 1, 0, .inl (fun _ => 0)))] H := hP
  have hD : va_D A [(x, .inr (15, [.ref aq1, .ref aq3, .ref aq5, .ref aq7, .ref aq9, .ref aq11, .ref aq16, .ref aq19, .ref aq22, .ref aq37, .ref aq55, .ref aq57, .ref aq59, .int 0, .null])), (aq3, .inr (4, [.ref aq4, .int 0, .int 0])), (aq1, .inr (4, [.ref aq2, .int 0, .int 0])), (mo, .inr (16, [.int 0, .int 0, .ref mq1, .ref q3, .int 0, .ref mq3, .int 0, .ref mq4, .ref mq5, .ref mq6, .int 0, .ref mq7, .ref mq8, .ref mq9, .int 0, .ref mq10, .ref mq11, .ref mq12, .ref mq13, .ref mq14, .int 0, .ref mq15, .ref mq16, .long 0, .ref mq17, .ref mq18, .ref mq19, .int 0, .null, .int 0, .int 0, .int 0, .null, .int 0, .int 0, .int 0, .null, .ref mq20, .int 0, .int 0, .long 0, .null, .null, .null, .null, .int 0, .int 0, .int 0, .int 0, .int 0, .int 0, .null, .long 0, .long 0, .long 0, .null, .null, .null, .int 0, .int 0, .int 0, .ref mq21, .null, .null])), (q3, .inl (y 1, 0, .inl (fun _ => 0)))] := hD
  have hw : r2 = 0 := hw
  subst hw
  refine lv_icmp_eq (tgt := 1017) hx hb dL_law_210 (by decide) (fun _ => ?_) (fun c9 => absurd (by decide) c9)
  refine lv_iinc (v := 6) (lv' := [(4, .int 6), (3, .ref o), (2, .ref mo), (1, .ref x), (0, .ref b)]) hx hb dL_law_1017 hl (k := 0) rfl (by decide) (by decide) rfl (fun ls hl => ?_)
  refine lv_goto (tgt := 23) hx hb dL_law_1020 (by decide) ?_
  refine lv_iload hx hb dL_law_23 (lv_at hl 0 rfl) ?_
  refine lv_aload_n hx hb dL_law_25 rfl (lv_at hl 4 rfl) ?_
  refine va_slen hx hb hX hbl hbA hS dL_law_26 ?_
  refine lv_bipush (v := 6) hx hb dL_law_27 (by decide) ?_
  refine lv_isub hx hb dL_law_29 ?_
  refine lv_topi (fun v4 ev4 => ?_)
  have ev4 : v4 = 0 := ev4.trans (by decide +kernel)
  subst ev4
  refine lv_icmp_gt (tgt := 1023) hx hb dL_law_30 (by decide) (fun _ => ?_) (fun c9 => absurd (by decide) c9)
  refine lv_iconst (v := 1) hx hb dL_law_1023 (by decide) ?_
  refine va_forget (fun q hq => hAf _ (hS.2.2 q hq)) ?_
  refine W.widen (k := 600002) (n := 7302232) (Nat.le_of_ble_eq_true rfl) (Nat.le_of_ble_eq_true rfl) ?_
  exact lw_ret hx hb hr hlocks dL_law_1024
set_option maxRecDepth 100000 in
theorem gv_law_4_c_X11_keys_85 : GoodIn zt (wsV RL 85 RX11 yX11_keys wz_c_X11_keys) := goodIn_app (goodIn_of _ (by decide +kernel)) gl_c_X11_keys
set_option maxRecDepth 100000 in
theorem gv_law_4_c_M_keys_88 : GoodIn zt (wsV RL 88 RX12 yX12_keys wz_c_M_keys) := goodIn_app (goodIn_of _ (by decide +kernel)) gl_c_M_keys
set_option maxHeartbeats 4000000 in
set_option maxRecDepth 100000 in
theorem law_4 {p : Program} {l : Launch} {e : Env} {s : State} {m : MethodId} {below : List Frame} {meth : Method} {c : Code} {b : Nat} {xs : Nat → Int32} (hl0 : l.stackTraces = false) (C0 : lw_At p s m meth c b 6 xs) {A : Nat → Prop} (hA : ∀ q : Nat, s.heap.size ≤ q → A q) (hAf : ∀ q : Nat, A q → s.heap.size ≤ q) {D : va_G} {y : Nat → ClassId} {e0 e1 e2 e3 e4 sa0 sa1 sa2 sa3 sa4 sa5 sa6 sa7 sa8 sa9 sa10 sa11 st0 st1 st2 st3 st4 st5 st6 st7 st8 st9 st10 st11 : Nat} (hK : va_K D vwCl (zT y) s) (hN : zN zL s) (hE : zE (zEL e0 e1 e2 e3 e4) A s s.heap) (hO : zAO s) (hT : zQ zTh A s s.heap) (hG : zG (zGL e1 e2 e3 e4 sa0 sa1 sa2 sa3 sa4 sa5 sa6 sa7 sa8 sa9 sa10 sa11 st0 st1 st2 st3 st4 st5 st6 st7 st8 st9 st10 st11) A s s.heap) {o x mo aq1 aq3 aq5 aq7 aq9 mq1 mq2 mq3 mq4 mq5 mq6 mq7 mq8 mq9 aq11 aq16 aq19 aq22 aq23 aq24 aq27 aq29 aq35 aq37 aq55 aq57 aq59 mq10 mq11 mq12 mq13 mq14 mq15 mq16 mq17 mq18 mq19 mq20 mq21 : Nat} {H : Heap} {locs : List Loc} (hP : va_P D vwCl [(x, .inr (15, [.ref aq1, .ref aq3, .ref aq5, .ref aq7, .ref aq9, .ref aq11, .ref aq16, .ref aq19, .ref aq22, .ref aq37, .ref aq55, .ref aq57, .ref aq59, .int 0, .null])), (aq22, .inr (11, [.ref aq23, .ref aq24, .ref aq27, .ref aq29, .ref aq35, .null, .null])), (aq23, .inr (3, [.int 0, .ref e0, .int 0])), (mo, .inr (16, [.int 0, .int 0, .ref mq1, .ref mq2, .int 0, .ref mq3, .int 0, .ref mq4, .ref mq5, .ref mq6, .int 0, .ref mq7, .ref mq8, .ref mq9, .int 0, .ref mq10, .ref mq11, .ref mq12, .ref mq13, .ref mq14, .int 0, .ref mq15, .ref mq16, .long 0, .ref mq17, .ref mq18, .ref mq19, .int 0, .null, .int 0, .int 0, .int 0, .null, .int 0, .int 0, .int 0, .null, .ref mq20, .int 0, .int 0, .long 0, .null, .null, .null, .null, .int 0, .int 0, .int 0, .int 0, .int 0, .int 0, .null, .long 0, .long 0, .long 0, .null, .null, .null, .int 0, .int 0, .int 0, .ref mq21, .null, .null]))] H) (hD : va_D A [(x, .inr (15, [.ref aq1, .ref aq3, .ref aq5, .ref aq7, .ref aq9, .ref aq11, .ref aq16, .ref aq19, .ref aq22, .ref aq37, .ref aq55, .ref aq57, .ref aq59, .int 0, .null])), (aq22, .inr (11, [.ref aq23, .ref aq24, .ref aq27, .ref aq29, .ref aq35, .null, .null])), (aq23, .inr (3, [.int 0, .ref e0, .int 0])), (mo, .inr (16, [.int 0, .int 0, .ref mq1, .ref mq2, .int 0, .ref mq3, .int 0, .ref mq4, .ref mq5, .ref mq6, .int 0, .ref mq7, .ref mq8, .ref mq9, .int 0, .ref mq10, .ref mq11, .ref mq12, .ref mq13, .ref mq14, .int 0, .ref mq15, .ref mq16, .long 0, .ref mq17, .ref mq18, .ref mq19, .int 0, .null, .int 0, .int 0, .int 0, .null, .int 0, .int 0, .int 0, .null, .ref mq20, .int 0, .int 0, .long 0, .null, .null, .null, .null, .int 0, .int 0, .int 0, .int 0, .int 0, .int 0, .null, .long 0, .long 0, .long 0, .null, .null, .null, .int 0, .int 0, .int 0, .ref mq21, .null, .null]))]) (hS : va_S A s.heap H locs) {ls : Array Slot} (hl : lv_has ls 8 [(4, .int 0), (3, .ref o), (2, .ref mo), (1, .ref x), (0, .ref b)]) : W p l e room_1 s m #[Value.ref b] below meth c H locs 84 139562 (lw_Z below #[Value.ref b] s) (F0 m 303 ls []) := by
  obtain ⟨hx, hb, hr, hml, hown, hts, hX, hbl, hlocks, hgv⟩ := C0
  have hts := zz_hts hts
  have hbA : ¬ A b := fun q => absurd hbl (Nat.not_lt.mpr (hAf b q))
  refine lv_aload_n hx hb dL_law_303 rfl (lv_at hl 3 rfl) ?_
  have hPc := hP.sub (ws' := [(x, .inr (15, [.ref aq1, .ref aq3, .ref aq5, .ref aq7, .ref aq9, .ref aq11, .ref aq16, .ref aq19, .ref aq22, .ref aq37, .ref aq55, .ref aq57, .ref aq59, .int 0, .null])), (aq22, .inr (11, [.ref aq23, .ref aq24, .ref aq27, .ref aq29, .ref aq35, .null, .null])), (aq23, .inr (3, [.int 0, .ref e0, .int 0]))]) [0, 1, 2] rfl
  have hDc := hD.sub (ws' := [(x, .inr (15, [.ref aq1, .ref aq3, .ref aq5, .ref aq7, .ref aq9, .ref aq11, .ref aq16, .ref aq19, .ref aq22, .ref aq37, .ref aq55, .ref aq57, .ref aq59, .int 0, .null])), (aq22, .inr (11, [.ref aq23, .ref aq24, .ref aq27, .ref aq29, .ref aq35, .null, .null])), (aq23, .inr (3, [.int 0, .ref e0, .int 0]))]) [0, 1, 2] (by decide) rfl
  have hFc := va_free (wc := [(x, .inr (15, [.ref aq1, .ref aq3, .ref aq5, .ref aq7, .ref aq9, .ref aq11, .ref aq16, .ref aq19, .ref aq22, .ref aq37, .ref aq55, .ref aq57, .ref aq59, .int 0, .null])), (aq22, .inr (11, [.ref aq23, .ref aq24, .ref aq27, .ref aq29, .ref aq35, .null, .null])), (aq23, .inr (3, [.int 0, .ref e0, .int 0]))]) hD hS hA [0, 1, 2] rfl
  refine va_calli (va_runV (As := []) (rest := []) ⟨hx, hb, hml, hown, hts⟩ (c_X11_keys l D y H.size x aq22 aq23 ((.ref aq1)) ((.ref aq3)) ((.ref aq5)) ((.ref aq7)) ((.ref aq9)) ((.ref aq11)) ((.ref aq16)) ((.ref aq19)) ((.ref aq37)) ((.ref aq55)) ((.ref aq57)) ((.ref aq59)) ((.int 0)) ((.null)) ((.ref aq24)) ((.ref aq27)) ((.ref aq29)) ((.ref aq35)) ((.null)) ((.null)) ((.int 0)) ((.ref e0))) (cwV 0 hts gv_law_4_c_X11_keys_85 rfl rfl rfl (by decide +kernel) ⟨(Nat.le_of_ble_eq_true rfl), (Nat.le_of_ble_eq_true rfl)⟩) (zB.preV hPc hDc hK hN hE hO hT hG hS hFc (fun _ h => nomatch h) (fun _ h => nomatch h) (fun _ h => nomatch h) (fun _ h => nomatch h) (va_recv hK hPc (ci := 15) (q0 := 0) rfl rfl)) rfl rfl hl.1 rfl (lv_room (Nat.le_of_ble_eq_true rfl)) dL_law_304 ⟨(Nat.le_of_ble_eq_true rfl), (Nat.le_of_ble_eq_true rfl)⟩) hS (fun q _ h => hFc q h) hFc (fun r1 u t H1 locs ht hvm hw hB hz1 hk1 hS => ?_)
  obtain ⟨hP1, hD1⟩ := hB
  rw [ht] at hP1
  obtain ⟨hP, hD⟩ := va_join (wr := [(mo, .inr (16, [.int 0, .int 0, .ref mq1, .ref mq2, .int 0, .ref mq3, .int 0, .ref mq4, .ref mq5, .ref mq6, .int 0, .ref mq7, .ref mq8, .ref mq9, .int 0, .ref mq10, .ref mq11, .ref mq12, .ref mq13, .ref mq14, .int 0, .ref mq15, .ref mq16, .long 0, .ref mq17, .ref mq18, .ref mq19, .int 0, .null, .int 0, .int 0, .int 0, .null, .int 0, .int 0, .int 0, .null, .ref mq20, .int 0, .int 0, .long 0, .null, .null, .null, .null, .int 0, .int 0, .int 0, .int 0, .int 0, .int 0, .null, .long 0, .long 0, .long 0, .null, .null, .null, .int 0, .int 0, .int 0, .ref mq21, .null, .null]))]) (w1 := [(x, .inr (15, [.ref aq1, .ref aq3, .ref aq5, .ref aq7, .ref aq9, .ref aq11, .ref aq16, .ref aq19, .ref aq22, .ref aq37, .ref aq55, .ref aq57, .ref aq59, .int 0, .null])), (aq22, .inr (11, [.ref aq23, .ref aq24, .ref aq27, .ref aq29, .ref aq35, .null, .null])), (aq23, .inr (3, [.int 0, .ref e0, .int 0]))]) hP hD [0, 1, 2] [3] rfl rfl (by decide) (by decide) hk1 hFc hP1 hD1
  generalize H1 = H at hP hS ⊢
  have hP : va_P D vwCl [(mo, .inr (16, [.int 0, .int 0, .ref mq1, .ref mq2, .int 0, .ref mq3, .int 0, .ref mq4, .ref mq5, .ref mq6, .int 0, .ref mq7, .ref mq8, .ref mq9, .int 0, .ref mq10, .ref mq11, .ref mq12, .ref mq13, .ref mq14, .int 0, .ref mq15, .ref mq16, .long 0, .ref mq17, .ref mq18, .ref mq19, .int 0, .null, .int 0, .int 0, .int 0, .null, .int 0, .int 0, .int 0, .null, .ref mq20, .int 0, .int 0, .long 0, .null, .null, .null, .null, .int 0, .int 0, .int 0, .int 0, .int 0, .int 0, .null, .long 0, .long 0, .long 0, .null, .null, .null, .int 0, .int 0, .int 0, .ref mq21, .null, .null])), (x, .inr (15, [.ref aq1, .ref aq3, .ref aq5, .ref aq7, .ref aq9, .ref aq11, .ref aq16, .ref aq19, .ref aq22, .ref aq37, .ref aq55, .ref aq57, .ref aq59, .int 0, .null])), (aq22, .inr (11, [.ref aq23, .ref aq24, .ref aq27, .ref aq29, .ref aq35, .null, .null])), (aq23, .inr (3, [.int 0, .ref e0, .int 0]))] H := hP
  have hD : va_D A [(mo, .inr (16, [.int 0, .int 0, .ref mq1, .ref mq2, .int 0, .ref mq3, .int 0, .ref mq4, .ref mq5, .ref mq6, .int 0, .ref mq7, .ref mq8, .ref mq9, .int 0, .ref mq10, .ref mq11, .ref mq12, .ref mq13, .ref mq14, .int 0, .ref mq15, .ref mq16, .long 0, .ref mq17, .ref mq18, .ref mq19, .int 0, .null, .int 0, .int 0, .int 0, .null, .int 0, .int 0, .int 0, .null, .ref mq20, .int 0, .int 0, .long 0, .null, .null, .null, .null, .int 0, .int 0, .int 0, .int 0, .int 0, .int 0, .null, .long 0, .long 0, .long 0, .null, .null, .null, .int 0, .int 0, .int 0, .ref mq21, .null, .null])), (x, .inr (15, [.ref aq1, .ref aq3, .ref aq5, .ref aq7, .ref aq9, .ref aq11, .ref aq16, .ref aq19, .ref aq22, .ref aq37, .ref aq55, .ref aq57, .ref aq59, .int 0, .null])), (aq22, .inr (11, [.ref aq23, .ref aq24, .ref aq27, .ref aq29, .ref aq35, .null, .null])), (aq23, .inr (3, [.int 0, .ref e0, .int 0]))] := hD
  have hw : r1 = 0 := hw
  subst hw
  refine lv_aload_n hx hb dL_law_307 rfl (lv_at hl 2 rfl) ?_
  have hPc := hP.sub (ws' := [(mo, .inr (16, [.int 0, .int 0, .ref mq1, .ref mq2, .int 0, .ref mq3, .int 0, .ref mq4, .ref mq5, .ref mq6, .int 0, .ref mq7, .ref mq8, .ref mq9, .int 0, .ref mq10, .ref mq11, .ref mq12, .ref mq13, .ref mq14, .int 0, .ref mq15, .ref mq16, .long 0, .ref mq17, .ref mq18, .ref mq19, .int 0, .null, .int 0, .int 0, .int 0, .null, .int 0, .int 0, .int 0, .null, .ref mq20, .int 0, .int 0, .long 0, .null, .null, .null, .null, .int 0, .int 0, .int 0, .int 0, .int 0, .int 0, .null, .long 0, .long 0, .long 0, .null, .null, .null, .int 0, .int 0, .int 0, .ref mq21, .null, .null]))]) [0] rfl
  have hDc := hD.sub (ws' := [(mo, .inr (16, [.int 0, .int 0, .ref mq1, .ref mq2, .int 0, .ref mq3, .int 0, .ref mq4, .ref mq5, .ref mq6, .int 0, .ref mq7, .ref mq8, .ref mq9, .int 0, .ref mq10, .ref mq11, .ref mq12, .ref mq13, .ref mq14, .int 0, .ref mq15, .ref mq16, .long 0, .ref mq17, .ref mq18, .ref mq19, .int 0, .null, .int 0, .int 0, .int 0, .null, .int 0, .int 0, .int 0, .null, .ref mq20, .int 0, .int 0, .long 0, .null, .null, .null, .null, .int 0, .int 0, .int 0, .int 0, .int 0, .int 0, .null, .long 0, .long 0, .long 0, .null, .null, .null, .int 0, .int 0, .int 0, .ref mq21, .null, .null]))]) [0] (by decide) rfl
  have hFc := va_free (wc := [(mo, .inr (16, [.int 0, .int 0, .ref mq1, .ref mq2, .int 0, .ref mq3, .int 0, .ref mq4, .ref mq5, .ref mq6, .int 0, .ref mq7, .ref mq8, .ref mq9, .int 0, .ref mq10, .ref mq11, .ref mq12, .ref mq13, .ref mq14, .int 0, .ref mq15, .ref mq16, .long 0, .ref mq17, .ref mq18, .ref mq19, .int 0, .null, .int 0, .int 0, .int 0, .null, .int 0, .int 0, .int 0, .null, .ref mq20, .int 0, .int 0, .long 0, .null, .null, .null, .null, .int 0, .int 0, .int 0, .int 0, .int 0, .int 0, .null, .long 0, .long 0, .long 0, .null, .null, .null, .int 0, .int 0, .int 0, .ref mq21, .null, .null]))]) hD hS hA [0] rfl
  refine va_calli (va_runV (As := []) (rest := [.int 0]) ⟨hx, hb, hml, hown, hts⟩ (c_M_keys l D y H.size mo ((.int 0)) ((.int 0)) ((.ref mq1)) ((.ref mq2)) ((.int 0)) ((.ref mq3)) ((.ref mq4)) ((.ref mq5)) ((.ref mq6)) ((.int 0)) ((.ref mq7)) ((.ref mq8)) ((.ref mq9)) ((.int 0)) ((.ref mq10)) ((.ref mq11)) ((.ref mq12)) ((.ref mq13)) ((.ref mq14)) ((.int 0)) ((.ref mq15)) ((.ref mq16)) ((.long 0)) ((.ref mq17)) ((.ref mq18)) ((.ref mq19)) ((.int 0)) ((.null)) ((.int 0)) ((.int 0)) ((.int 0)) ((.null)) ((.int 0)) ((.int 0)) ((.int 0)) ((.null)) ((.ref mq20)) ((.int 0)) ((.int 0)) ((.long 0)) ((.null)) ((.null)) ((.null)) ((.null)) ((.int 0)) ((.int 0)) ((.int 0)) ((.int 0)) ((.int 0)) ((.int 0)) ((.null)) ((.long 0)) ((.long 0)) ((.long 0)) ((.null)) ((.null)) ((.null)) ((.int 0)) ((.int 0)) ((.int 0)) ((.ref mq21)) ((.null)) ((.null))) (cwV 0 hts gv_law_4_c_M_keys_88 rfl rfl rfl (by decide +kernel) ⟨(Nat.le_of_ble_eq_true rfl), (Nat.le_of_ble_eq_true rfl)⟩) (zB.preV hPc hDc hK hN hE hO hT hG hS hFc (fun _ h => nomatch h) (fun _ h => nomatch h) (fun _ h => nomatch h) (fun _ h => nomatch h) (va_recv hK hPc (ci := 16) (q0 := 0) rfl rfl)) rfl rfl hl.1 rfl (lv_room (Nat.le_of_ble_eq_true rfl)) dL_law_308 ⟨(Nat.le_of_ble_eq_true rfl), (Nat.le_of_ble_eq_true rfl)⟩) hS (fun q _ h => hFc q h) hFc (fun r2 u t H1 locs ht hvm hw hB hz1 hk1 hS => ?_)
  obtain ⟨hP1, hD1⟩ := hB
  rw [ht] at hP1
  obtain ⟨hP, hD⟩ := va_join (wr := [(x, .inr (15, [.ref aq1, .ref aq3, .ref aq5, .ref aq7, .ref aq9, .ref aq11, .ref aq16, .ref aq19, .ref aq22, .ref aq37, .ref aq55, .ref aq57, .ref aq59, .int 0, .null])), (aq22, .inr (11, [.ref aq23, .ref aq24, .ref aq27, .ref aq29, .ref aq35, .null, .null])), (aq23, .inr (3, [.int 0, .ref e0, .int 0]))]) (w1 := [(mo, .inr (16, [.int 0, .int 0, .ref mq1, .ref mq2, .int 0, .ref mq3, .int 0, .ref mq4, .ref mq5, .ref mq6, .int 0, .ref mq7, .ref mq8, .ref mq9, .int 0, .ref mq10, .ref mq11, .ref mq12, .ref mq13, .ref mq14, .int 0, .ref mq15, .ref mq16, .long 0, .ref mq17, .ref mq18, .ref mq19, .int 0, .null, .int 0, .int 0, .int 0, .null, .int 0, .int 0, .int 0, .null, .ref mq20, .int 0, .int 0, .long 0, .null, .null, .null, .null, .int 0, .int 0, .int 0, .int 0, .int 0, .int 0, .null, .long 0, .long 0, .long 0, .null, .null, .null, .int 0, .int 0, .int 0, .ref mq21, .null, .null]))]) hP hD [0] [1, 2, 3] rfl rfl (by decide) (by decide) hk1 hFc hP1 hD1
  generalize H1 = H at hP hS ⊢
  have hP : va_P D vwCl [(x, .inr (15, [.ref aq1, .ref aq3, .ref aq5, .ref aq7, .ref aq9, .ref aq11, .ref aq16, .ref aq19, .ref aq22, .ref aq37, .ref aq55, .ref aq57, .ref aq59, .int 0, .null])), (aq22, .inr (11, [.ref aq23, .ref aq24, .ref aq27, .ref aq29, .ref aq35, .null, .null])), (aq23, .inr (3, [.int 0, .ref e0, .int 0])), (mo, .inr (16, [.int 0, .int 0, .ref mq1, .ref mq2, .int 0, .ref mq3, .int 0, .ref mq4, .ref mq5, .ref mq6, .int 0, .ref mq7, .ref mq8, .ref mq9, .int 0, .ref mq10, .ref mq11, .ref mq12, .ref mq13, .ref mq14, .int 0, .ref mq15, .ref mq16, .long 0, .ref mq17, .ref mq18, .ref mq19, .int 0, .null, .int 0, .int 0, .int 0, .null, .int 0, .int 0, .int 0, .null, .ref mq20, .int 0, .int 0, .long 0, .null, .null, .null, .null, .int 0, .int 0, .int 0, .int 0, .int 0, .int 0, .null, .long 0, .long 0, .long 0, .null, .null, .null, .int 0, .int 0, .int 0, .ref mq21, .null, .null]))] H := hP
  have hD : va_D A [(x, .inr (15, [.ref aq1, .ref aq3, .ref aq5, .ref aq7, .ref aq9, .ref aq11, .ref aq16, .ref aq19, .ref aq22, .ref aq37, .ref aq55, .ref aq57, .ref aq59, .int 0, .null])), (aq22, .inr (11, [.ref aq23, .ref aq24, .ref aq27, .ref aq29, .ref aq35, .null, .null])), (aq23, .inr (3, [.int 0, .ref e0, .int 0])), (mo, .inr (16, [.int 0, .int 0, .ref mq1, .ref mq2, .int 0, .ref mq3, .int 0, .ref mq4, .ref mq5, .ref mq6, .int 0, .ref mq7, .ref mq8, .ref mq9, .int 0, .ref mq10, .ref mq11, .ref mq12, .ref mq13, .ref mq14, .int 0, .ref mq15, .ref mq16, .long 0, .ref mq17, .ref mq18, .ref mq19, .int 0, .null, .int 0, .int 0, .int 0, .null, .int 0, .int 0, .int 0, .null, .ref mq20, .int 0, .int 0, .long 0, .null, .null, .null, .null, .int 0, .int 0, .int 0, .int 0, .int 0, .int 0, .null, .long 0, .long 0, .long 0, .null, .null, .null, .int 0, .int 0, .int 0, .ref mq21, .null, .null]))] := hD
  have hw : r2 = 0 := hw
  subst hw
  refine lv_icmp_eq (tgt := 1017) hx hb dL_law_311 (by decide) (fun _ => ?_) (fun c9 => absurd (by decide) c9)
  refine lv_iinc (v := 6) (lv' := [(4, .int 6), (3, .ref o), (2, .ref mo), (1, .ref x), (0, .ref b)]) hx hb dL_law_1017 hl (k := 0) rfl (by decide) (by decide) rfl (fun ls hl => ?_)
  refine lv_goto (tgt := 23) hx hb dL_law_1020 (by decide) ?_
  refine lv_iload hx hb dL_law_23 (lv_at hl 0 rfl) ?_
  refine lv_aload_n hx hb dL_law_25 rfl (lv_at hl 4 rfl) ?_
  refine va_slen hx hb hX hbl hbA hS dL_law_26 ?_
  refine lv_bipush (v := 6) hx hb dL_law_27 (by decide) ?_
  refine lv_isub hx hb dL_law_29 ?_
  refine lv_topi (fun v3 ev3 => ?_)
  have ev3 : v3 = 0 := ev3.trans (by decide +kernel)
  subst ev3
  refine lv_icmp_gt (tgt := 1023) hx hb dL_law_30 (by decide) (fun _ => ?_) (fun c9 => absurd (by decide) c9)
  refine lv_iconst (v := 1) hx hb dL_law_1023 (by decide) ?_
  refine va_forget (fun q hq => hAf _ (hS.2.2 q hq)) ?_
  refine W.widen (k := 600002) (n := 7302232) (Nat.le_of_ble_eq_true rfl) (Nat.le_of_ble_eq_true rfl) ?_
  exact lw_ret hx hb hr hlocks dL_law_1024
set_option maxRecDepth 100000 in
theorem gv_law_12_c_X11_sum_115 : GoodIn zt (wsV RL 115 RX11 yX11_sum wz_c_X11_sum) := goodIn_app (goodIn_of _ (by decide +kernel)) gl_c_X11_sum
set_option maxRecDepth 100000 in
theorem gv_law_12_c_M_sum_118 : GoodIn zt (wsV RL 118 RX12 yX12_sum wz_c_M_sum) := goodIn_app (goodIn_of _ (by decide +kernel)) gl_c_M_sum
set_option maxHeartbeats 4000000 in
set_option maxRecDepth 100000 in
theorem law_12 {p : Program} {l : Launch} {e : Env} {s : State} {m : MethodId} {below : List Frame} {meth : Method} {c : Code} {b : Nat} {xs : Nat → Int32} (hl0 : l.stackTraces = false) (C0 : lw_At p s m meth c b 6 xs) {A : Nat → Prop} (hA : ∀ q : Nat, s.heap.size ≤ q → A q) (hAf : ∀ q : Nat, A q → s.heap.size ≤ q) {D : va_G} {y : Nat → ClassId} {e0 e1 e2 e3 e4 sa0 sa1 sa2 sa3 sa4 sa5 sa6 sa7 sa8 sa9 sa10 sa11 st0 st1 st2 st3 st4 st5 st6 st7 st8 st9 st10 st11 : Nat} (hK : va_K D vwCl (zT y) s) (hN : zN zL s) (hE : zE (zEL e0 e1 e2 e3 e4) A s s.heap) (hO : zAO s) (hT : zQ zTh A s s.heap) (hG : zG (zGL e1 e2 e3 e4 sa0 sa1 sa2 sa3 sa4 sa5 sa6 sa7 sa8 sa9 sa10 sa11 st0 st1 st2 st3 st4 st5 st6 st7 st8 st9 st10 st11) A s s.heap) {o x mo aq1 aq3 aq5 aq7 aq9 mq1 mq2 mq3 mq4 mq5 mq6 mq7 mq8 mq9 aq11 aq16 aq19 aq22 aq37 aq55 aq57 aq58 aq59 mq10 mq11 mq12 mq13 mq14 mq15 mq16 mq17 mq18 mq19 mq20 mq21 : Nat} {H : Heap} {locs : List Loc} (hP : va_P D vwCl [(x, .inr (15, [.ref aq1, .ref aq3, .ref aq5, .ref aq7, .ref aq9, .ref aq11, .ref aq16, .ref aq19, .ref aq22, .ref aq37, .ref aq55, .ref aq57, .ref aq59, .int 0, .null])), (aq57, .inr (4, [.ref aq58, .int 0, .int 0])), (mo, .inr (16, [.int 0, .int 0, .ref mq1, .ref mq2, .int 0, .ref mq3, .int 0, .ref mq4, .ref mq5, .ref mq6, .int 0, .ref mq7, .ref mq8, .ref mq9, .int 0, .ref mq10, .ref mq11, .ref mq12, .ref mq13, .ref mq14, .int 0, .ref mq15, .ref mq16, .long 0, .ref mq17, .ref mq18, .ref mq19, .int 0, .null, .int 0, .int 0, .int 0, .null, .int 0, .int 0, .int 0, .null, .ref mq20, .int 0, .int 0, .long 0, .null, .null, .null, .null, .int 0, .int 0, .int 0, .int 0, .int 0, .int 0, .null, .long 0, .long 0, .long 0, .null, .null, .null, .int 0, .int 0, .int 0, .ref mq21, .null, .null]))] H) (hD : va_D A [(x, .inr (15, [.ref aq1, .ref aq3, .ref aq5, .ref aq7, .ref aq9, .ref aq11, .ref aq16, .ref aq19, .ref aq22, .ref aq37, .ref aq55, .ref aq57, .ref aq59, .int 0, .null])), (aq57, .inr (4, [.ref aq58, .int 0, .int 0])), (mo, .inr (16, [.int 0, .int 0, .ref mq1, .ref mq2, .int 0, .ref mq3, .int 0, .ref mq4, .ref mq5, .ref mq6, .int 0, .ref mq7, .ref mq8, .ref mq9, .int 0, .ref mq10, .ref mq11, .ref mq12, .ref mq13, .ref mq14, .int 0, .ref mq15, .ref mq16, .long 0, .ref mq17, .ref mq18, .ref mq19, .int 0, .null, .int 0, .int 0, .int 0, .null, .int 0, .int 0, .int 0, .null, .ref mq20, .int 0, .int 0, .long 0, .null, .null, .null, .null, .int 0, .int 0, .int 0, .int 0, .int 0, .int 0, .null, .long 0, .long 0, .long 0, .null, .null, .null, .int 0, .int 0, .int 0, .ref mq21, .null, .null]))]) (hS : va_S A s.heap H locs) {ls : Array Slot} (hl : lv_has ls 8 [(4, .int 0), (3, .ref o), (2, .ref mo), (1, .ref x), (0, .ref b)]) : W p l e room_1 s m #[Value.ref b] below meth c H locs 84 139562 (lw_Z below #[Value.ref b] s) (F0 m 867 ls []) := by
  obtain ⟨hx, hb, hr, hml, hown, hts, hX, hbl, hlocks, hgv⟩ := C0
  have hts := zz_hts hts
  have hbA : ¬ A b := fun q => absurd hbl (Nat.not_lt.mpr (hAf b q))
  refine lv_aload_n hx hb dL_law_867 rfl (lv_at hl 3 rfl) ?_
  have hPc := hP.sub (ws' := [(x, .inr (15, [.ref aq1, .ref aq3, .ref aq5, .ref aq7, .ref aq9, .ref aq11, .ref aq16, .ref aq19, .ref aq22, .ref aq37, .ref aq55, .ref aq57, .ref aq59, .int 0, .null])), (aq57, .inr (4, [.ref aq58, .int 0, .int 0]))]) [0, 1] rfl
  have hDc := hD.sub (ws' := [(x, .inr (15, [.ref aq1, .ref aq3, .ref aq5, .ref aq7, .ref aq9, .ref aq11, .ref aq16, .ref aq19, .ref aq22, .ref aq37, .ref aq55, .ref aq57, .ref aq59, .int 0, .null])), (aq57, .inr (4, [.ref aq58, .int 0, .int 0]))]) [0, 1] (by decide) rfl
  have hFc := va_free (wc := [(x, .inr (15, [.ref aq1, .ref aq3, .ref aq5, .ref aq7, .ref aq9, .ref aq11, .ref aq16, .ref aq19, .ref aq22, .ref aq37, .ref aq55, .ref aq57, .ref aq59, .int 0, .null])), (aq57, .inr (4, [.ref aq58, .int 0, .int 0]))]) hD hS hA [0, 1] rfl
  refine va_calli (va_runV (As := []) (rest := []) ⟨hx, hb, hml, hown, hts⟩ (c_X11_sum l D y H.size x aq57 ((.ref aq1)) ((.ref aq3)) ((.ref aq5)) ((.ref aq7)) ((.ref aq9)) ((.ref aq11)) ((.ref aq16)) ((.ref aq19)) ((.ref aq22)) ((.ref aq37)) ((.ref aq55)) ((.ref aq59)) ((.int 0)) ((.null)) ((.ref aq58)) ((.int 0))) (cwV 0 hts gv_law_12_c_X11_sum_115 rfl rfl rfl (by decide +kernel) ⟨(Nat.le_of_ble_eq_true rfl), (Nat.le_of_ble_eq_true rfl)⟩) (zB.preV hPc hDc hK hN hE hO hT hG hS hFc (fun _ h => nomatch h) (fun _ h => nomatch h) (fun _ h => nomatch h) (fun _ h => nomatch h) (va_recv hK hPc (ci := 15) (q0 := 0) rfl rfl)) rfl rfl hl.1 rfl (lv_room (Nat.le_of_ble_eq_true rfl)) dL_law_868 ⟨(Nat.le_of_ble_eq_true rfl), (Nat.le_of_ble_eq_true rfl)⟩) hS (fun q _ h => hFc q h) hFc (fun r1 u t H1 locs ht hvm hw hB hz1 hk1 hS => ?_)
  obtain ⟨hP1, hD1⟩ := hB
  rw [ht] at hP1
  obtain ⟨hP, hD⟩ := va_join (wr := [(mo, .inr (16, [.int 0, .int 0, .ref mq1, .ref mq2, .int 0, .ref mq3, .int 0, .ref mq4, .ref mq5, .ref mq6, .int 0, .ref mq7, .ref mq8, .ref mq9, .int 0, .ref mq10, .ref mq11, .ref mq12, .ref mq13, .ref mq14, .int 0, .ref mq15, .ref mq16, .long 0, .ref mq17, .ref mq18, .ref mq19, .int 0, .null, .int 0, .int 0, .int 0, .null, .int 0, .int 0, .int 0, .null, .ref mq20, .int 0, .int 0, .long 0, .null, .null, .null, .null, .int 0, .int 0, .int 0, .int 0, .int 0, .int 0, .null, .long 0, .long 0, .long 0, .null, .null, .null, .int 0, .int 0, .int 0, .ref mq21, .null, .null]))]) (w1 := [(x, .inr (15, [.ref aq1, .ref aq3, .ref aq5, .ref aq7, .ref aq9, .ref aq11, .ref aq16, .ref aq19, .ref aq22, .ref aq37, .ref aq55, .ref aq57, .ref aq59, .int 0, .null])), (aq57, .inr (4, [.ref aq58, .int 0, .int 0]))]) hP hD [0, 1] [2] rfl rfl (by decide) (by decide) hk1 hFc hP1 hD1
  generalize H1 = H at hP hS ⊢
  have hP : va_P D vwCl [(mo, .inr (16, [.int 0, .int 0, .ref mq1, .ref mq2, .int 0, .ref mq3, .int 0, .ref mq4, .ref mq5, .ref mq6, .int 0, .ref mq7, .ref mq8, .ref mq9, .int 0, .ref mq10, .ref mq11, .ref mq12, .ref mq13, .ref mq14, .int 0, .ref mq15, .ref mq16, .long 0, .ref mq17, .ref mq18, .ref mq19, .int 0, .null, .int 0, .int 0, .int 0, .null, .int 0, .int 0, .int 0, .null, .ref mq20, .int 0, .int 0, .long 0, .null, .null, .null, .null, .int 0, .int 0, .int 0, .int 0, .int 0, .int 0, .null, .long 0, .long 0, .long 0, .null, .null, .null, .int 0, .int 0, .int 0, .ref mq21, .null, .null])), (x, .inr (15, [.ref aq1, .ref aq3, .ref aq5, .ref aq7, .ref aq9, .ref aq11, .ref aq16, .ref aq19, .ref aq22, .ref aq37, .ref aq55, .ref aq57, .ref aq59, .int 0, .null])), (aq57, .inr (4, [.ref aq58, .int 0, .int 0]))] H := hP
  have hD : va_D A [(mo, .inr (16, [.int 0, .int 0, .ref mq1, .ref mq2, .int 0, .ref mq3, .int 0, .ref mq4, .ref mq5, .ref mq6, .int 0, .ref mq7, .ref mq8, .ref mq9, .int 0, .ref mq10, .ref mq11, .ref mq12, .ref mq13, .ref mq14, .int 0, .ref mq15, .ref mq16, .long 0, .ref mq17, .ref mq18, .ref mq19, .int 0, .null, .int 0, .int 0, .int 0, .null, .int 0, .int 0, .int 0, .null, .ref mq20, .int 0, .int 0, .long 0, .null, .null, .null, .null, .int 0, .int 0, .int 0, .int 0, .int 0, .int 0, .null, .long 0, .long 0, .long 0, .null, .null, .null, .int 0, .int 0, .int 0, .ref mq21, .null, .null])), (x, .inr (15, [.ref aq1, .ref aq3, .ref aq5, .ref aq7, .ref aq9, .ref aq11, .ref aq16, .ref aq19, .ref aq22, .ref aq37, .ref aq55, .ref aq57, .ref aq59, .int 0, .null])), (aq57, .inr (4, [.ref aq58, .int 0, .int 0]))] := hD
  have hw : r1 = 11994318 := hw
  subst hw
  refine lv_aload_n hx hb dL_law_871 rfl (lv_at hl 2 rfl) ?_
  have hPc := hP.sub (ws' := [(mo, .inr (16, [.int 0, .int 0, .ref mq1, .ref mq2, .int 0, .ref mq3, .int 0, .ref mq4, .ref mq5, .ref mq6, .int 0, .ref mq7, .ref mq8, .ref mq9, .int 0, .ref mq10, .ref mq11, .ref mq12, .ref mq13, .ref mq14, .int 0, .ref mq15, .ref mq16, .long 0, .ref mq17, .ref mq18, .ref mq19, .int 0, .null, .int 0, .int 0, .int 0, .null, .int 0, .int 0, .int 0, .null, .ref mq20, .int 0, .int 0, .long 0, .null, .null, .null, .null, .int 0, .int 0, .int 0, .int 0, .int 0, .int 0, .null, .long 0, .long 0, .long 0, .null, .null, .null, .int 0, .int 0, .int 0, .ref mq21, .null, .null]))]) [0] rfl
  have hDc := hD.sub (ws' := [(mo, .inr (16, [.int 0, .int 0, .ref mq1, .ref mq2, .int 0, .ref mq3, .int 0, .ref mq4, .ref mq5, .ref mq6, .int 0, .ref mq7, .ref mq8, .ref mq9, .int 0, .ref mq10, .ref mq11, .ref mq12, .ref mq13, .ref mq14, .int 0, .ref mq15, .ref mq16, .long 0, .ref mq17, .ref mq18, .ref mq19, .int 0, .null, .int 0, .int 0, .int 0, .null, .int 0, .int 0, .int 0, .null, .ref mq20, .int 0, .int 0, .long 0, .null, .null, .null, .null, .int 0, .int 0, .int 0, .int 0, .int 0, .int 0, .null, .long 0, .long 0, .long 0, .null, .null, .null, .int 0, .int 0, .int 0, .ref mq21, .null, .null]))]) [0] (by decide) rfl
  have hFc := va_free (wc := [(mo, .inr (16, [.int 0, .int 0, .ref mq1, .ref mq2, .int 0, .ref mq3, .int 0, .ref mq4, .ref mq5, .ref mq6, .int 0, .ref mq7, .ref mq8, .ref mq9, .int 0, .ref mq10, .ref mq11, .ref mq12, .ref mq13, .ref mq14, .int 0, .ref mq15, .ref mq16, .long 0, .ref mq17, .ref mq18, .ref mq19, .int 0, .null, .int 0, .int 0, .int 0, .null, .int 0, .int 0, .int 0, .null, .ref mq20, .int 0, .int 0, .long 0, .null, .null, .null, .null, .int 0, .int 0, .int 0, .int 0, .int 0, .int 0, .null, .long 0, .long 0, .long 0, .null, .null, .null, .int 0, .int 0, .int 0, .ref mq21, .null, .null]))]) hD hS hA [0] rfl
  refine va_calli (va_runV (As := []) (rest := [.int 11994318]) ⟨hx, hb, hml, hown, hts⟩ (c_M_sum l D y H.size mo mq3 ((.int 0)) ((.int 0)) ((.ref mq1)) ((.ref mq2)) ((.int 0)) ((.ref mq4)) ((.ref mq5)) ((.ref mq6)) ((.int 0)) ((.ref mq7)) ((.ref mq8)) ((.ref mq9)) ((.int 0)) ((.ref mq10)) ((.ref mq11)) ((.ref mq12)) ((.ref mq13)) ((.ref mq14)) ((.int 0)) ((.ref mq15)) ((.ref mq16)) ((.long 0)) ((.ref mq17)) ((.ref mq18)) ((.ref mq19)) ((.int 0)) ((.null)) ((.int 0)) ((.int 0)) ((.int 0)) ((.null)) ((.int 0)) ((.int 0)) ((.int 0)) ((.null)) ((.ref mq20)) ((.int 0)) ((.int 0)) ((.long 0)) ((.null)) ((.null)) ((.null)) ((.null)) ((.int 0)) ((.int 0)) ((.int 0)) ((.int 0)) ((.int 0)) ((.int 0)) ((.null)) ((.long 0)) ((.long 0)) ((.long 0)) ((.null)) ((.null)) ((.null)) ((.int 0)) ((.int 0)) ((.int 0)) ((.ref mq21)) ((.null)) ((.null))) (cwV 0 hts gv_law_12_c_M_sum_118 rfl rfl rfl (by decide +kernel) ⟨(Nat.le_of_ble_eq_true rfl), (Nat.le_of_ble_eq_true rfl)⟩) (zB.preV hPc hDc hK hN hE hO hT hG hS hFc (fun _ h => nomatch h) (fun _ h => nomatch h) (fun _ h => nomatch h) (fun _ h => nomatch h) (va_recv hK hPc (ci := 16) (q0 := 0) rfl rfl)) rfl rfl hl.1 rfl (lv_room (Nat.le_of_ble_eq_true rfl)) dL_law_872 ⟨(Nat.le_of_ble_eq_true rfl), (Nat.le_of_ble_eq_true rfl)⟩) hS (fun q _ h => hFc q h) hFc (fun r2 u t H1 locs ht hvm hw hB hz1 hk1 hS => ?_)
  obtain ⟨hP1, hD1⟩ := hB
  rw [ht] at hP1
  obtain ⟨hP, hD⟩ := va_join (wr := [(x, .inr (15, [.ref aq1, .ref aq3, .ref aq5, .ref aq7, .ref aq9, .ref aq11, .ref aq16, .ref aq19, .ref aq22, .ref aq37, .ref aq55, .ref aq57, .ref aq59, .int 0, .null])), (aq57, .inr (4, [.ref aq58, .int 0, .int 0]))]) (w1 := [(mo, .inr (16, [.int 0, .int 0, .ref mq1, .ref mq2, .int 0, .ref mq3, .int 0, .ref mq4, .ref mq5, .ref mq6, .int 0, .ref mq7, .ref mq8, .ref mq9, .int 0, .ref mq10, .ref mq11, .ref mq12, .ref mq13, .ref mq14, .int 0, .ref mq15, .ref mq16, .long 0, .ref mq17, .ref mq18, .ref mq19, .int 0, .null, .int 0, .int 0, .int 0, .null, .int 0, .int 0, .int 0, .null, .ref mq20, .int 0, .int 0, .long 0, .null, .null, .null, .null, .int 0, .int 0, .int 0, .int 0, .int 0, .int 0, .null, .long 0, .long 0, .long 0, .null, .null, .null, .int 0, .int 0, .int 0, .ref mq21, .null, .null]))]) hP hD [0] [1, 2] rfl rfl (by decide) (by decide) hk1 hFc hP1 hD1
  generalize H1 = H at hP hS ⊢
  have hP : va_P D vwCl [(x, .inr (15, [.ref aq1, .ref aq3, .ref aq5, .ref aq7, .ref aq9, .ref aq11, .ref aq16, .ref aq19, .ref aq22, .ref aq37, .ref aq55, .ref aq57, .ref aq59, .int 0, .null])), (aq57, .inr (4, [.ref aq58, .int 0, .int 0])), (mo, .inr (16, [.int 0, .int 0, .ref mq1, .ref mq2, .int 0, .ref mq3, .int 0, .ref mq4, .ref mq5, .ref mq6, .int 0, .ref mq7, .ref mq8, .ref mq9, .int 0, .ref mq10, .ref mq11, .ref mq12, .ref mq13, .ref mq14, .int 0, .ref mq15, .ref mq16, .long 0, .ref mq17, .ref mq18, .ref mq19, .int 0, .null, .int 0, .int 0, .int 0, .null, .int 0, .int 0, .int 0, .null, .ref mq20, .int 0, .int 0, .long 0, .null, .null, .null, .null, .int 0, .int 0, .int 0, .int 0, .int 0, .int 0, .null, .long 0, .long 0, .long 0, .null, .null, .null, .int 0, .int 0, .int 0, .ref mq21, .null, .null]))] H := hP
  have hD : va_D A [(x, .inr (15, [.ref aq1, .ref aq3, .ref aq5, .ref aq7, .ref aq9, .ref aq11, .ref aq16, .ref aq19, .ref aq22, .ref aq37, .ref aq55, .ref aq57, .ref aq59, .int 0, .null])), (aq57, .inr (4, [.ref aq58, .int 0, .int 0])), (mo, .inr (16, [.int 0, .int 0, .ref mq1, .ref mq2, .int 0, .ref mq3, .int 0, .ref mq4, .ref mq5, .ref mq6, .int 0, .ref mq7, .ref mq8, .ref mq9, .int 0, .ref mq10, .ref mq11, .ref mq12, .ref mq13, .ref mq14, .int 0, .ref mq15, .ref mq16, .long 0, .ref mq17, .ref mq18, .ref mq19, .int 0, .null, .int 0, .int 0, .int 0, .null, .int 0, .int 0, .int 0, .null, .ref mq20, .int 0, .int 0, .long 0, .null, .null, .null, .null, .int 0, .int 0, .int 0, .int 0, .int 0, .int 0, .null, .long 0, .long 0, .long 0, .null, .null, .null, .int 0, .int 0, .int 0, .ref mq21, .null, .null]))] := hD
  have hw : r2 = 11994318 := hw
  subst hw
  refine lv_icmp_eq (tgt := 1017) hx hb dL_law_875 (by decide) (fun _ => ?_) (fun c9 => absurd (by decide) c9)
  refine lv_iinc (v := 6) (lv' := [(4, .int 6), (3, .ref o), (2, .ref mo), (1, .ref x), (0, .ref b)]) hx hb dL_law_1017 hl (k := 0) rfl (by decide) (by decide) rfl (fun ls hl => ?_)
  refine lv_goto (tgt := 23) hx hb dL_law_1020 (by decide) ?_
  refine lv_iload hx hb dL_law_23 (lv_at hl 0 rfl) ?_
  refine lv_aload_n hx hb dL_law_25 rfl (lv_at hl 4 rfl) ?_
  refine va_slen hx hb hX hbl hbA hS dL_law_26 ?_
  refine lv_bipush (v := 6) hx hb dL_law_27 (by decide) ?_
  refine lv_isub hx hb dL_law_29 ?_
  refine lv_topi (fun v3 ev3 => ?_)
  have ev3 : v3 = 0 := ev3.trans (by decide +kernel)
  subst ev3
  refine lv_icmp_gt (tgt := 1023) hx hb dL_law_30 (by decide) (fun _ => ?_) (fun c9 => absurd (by decide) c9)
  refine lv_iconst (v := 1) hx hb dL_law_1023 (by decide) ?_
  refine va_forget (fun q hq => hAf _ (hS.2.2 q hq)) ?_
  refine W.widen (k := 600002) (n := 7302232) (Nat.le_of_ble_eq_true rfl) (Nat.le_of_ble_eq_true rfl) ?_
  exact lw_ret hx hb hr hlocks dL_law_1024
set_option maxRecDepth 100000 in
theorem gv_law_13_c_X11_take_119 : GoodIn zt (wsV RL 119 RX11 yX11_take wz_c_X11_take) := goodIn_app (goodIn_of _ (by decide +kernel)) gl_c_X11_take
set_option maxRecDepth 100000 in
theorem gv_law_13_c_M_take_122 : GoodIn zt (wsV RL 122 RX12 yX12_take wz_c_M_take) := goodIn_app (goodIn_of _ (by decide +kernel)) gl_c_M_take
set_option maxHeartbeats 4000000 in
set_option maxRecDepth 100000 in
theorem law_13 {p : Program} {l : Launch} {e : Env} {s : State} {m : MethodId} {below : List Frame} {meth : Method} {c : Code} {b : Nat} {xs : Nat → Int32} (hl0 : l.stackTraces = false) (C0 : lw_At p s m meth c b 6 xs) {A : Nat → Prop} (hA : ∀ q : Nat, s.heap.size ≤ q → A q) (hAf : ∀ q : Nat, A q → s.heap.size ≤ q) {D : va_G} {y : Nat → ClassId} {e0 e1 e2 e3 e4 sa0 sa1 sa2 sa3 sa4 sa5 sa6 sa7 sa8 sa9 sa10 sa11 st0 st1 st2 st3 st4 st5 st6 st7 st8 st9 st10 st11 : Nat} (hK : va_K D vwCl (zT y) s) (hN : zN zL s) (hE : zE (zEL e0 e1 e2 e3 e4) A s s.heap) (hO : zAO s) (hT : zQ zTh A s s.heap) (hG : zG (zGL e1 e2 e3 e4 sa0 sa1 sa2 sa3 sa4 sa5 sa6 sa7 sa8 sa9 sa10 sa11 st0 st1 st2 st3 st4 st5 st6 st7 st8 st9 st10 st11) A s s.heap) {o x mo aq1 aq2 aq3 aq5 aq7 aq9 mq1 mq2 mq3 mq4 mq5 mq6 mq7 mq8 mq9 aq11 aq16 aq19 aq22 aq37 aq55 aq57 aq58 aq59 mq10 mq11 mq12 mq13 mq14 mq15 mq16 mq17 mq18 mq19 mq20 mq21 : Nat} {H : Heap} {locs : List Loc} (hP : va_P D vwCl [(x, .inr (15, [.ref aq1, .ref aq3, .ref aq5, .ref aq7, .ref aq9, .ref aq11, .ref aq16, .ref aq19, .ref aq22, .ref aq37, .ref aq55, .ref aq57, .ref aq59, .int 0, .null])), (aq1, .inr (4, [.ref aq2, .int 0, .int 0])), (aq57, .inr (4, [.ref aq58, .int 0, .int 0])), (mo, .inr (16, [.int 0, .int 0, .ref mq1, .ref mq2, .int 0, .ref mq3, .int 0, .ref mq4, .ref mq5, .ref mq6, .int 0, .ref mq7, .ref mq8, .ref mq9, .int 0, .ref mq10, .ref mq11, .ref mq12, .ref mq13, .ref mq14, .int 0, .ref mq15, .ref mq16, .long 0, .ref mq17, .ref mq18, .ref mq19, .int 0, .null, .int 0, .int 0, .int 0, .null, .int 0, .int 0, .int 0, .null, .ref mq20, .int 0, .int 0, .long 0, .null, .null, .null, .null, .int 0, .int 0, .int 0, .int 0, .int 0, .int 0, .null, .long 0, .long 0, .long 0, .null, .null, .null, .int 0, .int 0, .int 0, .ref mq21, .null, .null]))] H) (hD : va_D A [(x, .inr (15, [.ref aq1, .ref aq3, .ref aq5, .ref aq7, .ref aq9, .ref aq11, .ref aq16, .ref aq19, .ref aq22, .ref aq37, .ref aq55, .ref aq57, .ref aq59, .int 0, .null])), (aq1, .inr (4, [.ref aq2, .int 0, .int 0])), (aq57, .inr (4, [.ref aq58, .int 0, .int 0])), (mo, .inr (16, [.int 0, .int 0, .ref mq1, .ref mq2, .int 0, .ref mq3, .int 0, .ref mq4, .ref mq5, .ref mq6, .int 0, .ref mq7, .ref mq8, .ref mq9, .int 0, .ref mq10, .ref mq11, .ref mq12, .ref mq13, .ref mq14, .int 0, .ref mq15, .ref mq16, .long 0, .ref mq17, .ref mq18, .ref mq19, .int 0, .null, .int 0, .int 0, .int 0, .null, .int 0, .int 0, .int 0, .null, .ref mq20, .int 0, .int 0, .long 0, .null, .null, .null, .null, .int 0, .int 0, .int 0, .int 0, .int 0, .int 0, .null, .long 0, .long 0, .long 0, .null, .null, .null, .int 0, .int 0, .int 0, .ref mq21, .null, .null]))]) (hS : va_S A s.heap H locs) {ls : Array Slot} (hl : lv_has ls 8 [(4, .int 0), (3, .ref o), (2, .ref mo), (1, .ref x), (0, .ref b)]) : W p l e room_1 s m #[Value.ref b] below meth c H locs 84 139562 (lw_Z below #[Value.ref b] s) (F0 m 880 ls []) := by
  obtain ⟨hx, hb, hr, hml, hown, hts, hX, hbl, hlocks, hgv⟩ := C0
  have hts := zz_hts hts
  have hbA : ¬ A b := fun q => absurd hbl (Nat.not_lt.mpr (hAf b q))
  refine lv_aload_n hx hb dL_law_880 rfl (lv_at hl 3 rfl) ?_
  have hPc := hP.sub (ws' := [(x, .inr (15, [.ref aq1, .ref aq3, .ref aq5, .ref aq7, .ref aq9, .ref aq11, .ref aq16, .ref aq19, .ref aq22, .ref aq37, .ref aq55, .ref aq57, .ref aq59, .int 0, .null])), (aq57, .inr (4, [.ref aq58, .int 0, .int 0])), (aq1, .inr (4, [.ref aq2, .int 0, .int 0]))]) [0, 2, 1] rfl
  have hDc := hD.sub (ws' := [(x, .inr (15, [.ref aq1, .ref aq3, .ref aq5, .ref aq7, .ref aq9, .ref aq11, .ref aq16, .ref aq19, .ref aq22, .ref aq37, .ref aq55, .ref aq57, .ref aq59, .int 0, .null])), (aq57, .inr (4, [.ref aq58, .int 0, .int 0])), (aq1, .inr (4, [.ref aq2, .int 0, .int 0]))]) [0, 2, 1] (by decide) rfl
  have hFc := va_free (wc := [(x, .inr (15, [.ref aq1, .ref aq3, .ref aq5, .ref aq7, .ref aq9, .ref aq11, .ref aq16, .ref aq19, .ref aq22, .ref aq37, .ref aq55, .ref aq57, .ref aq59, .int 0, .null])), (aq57, .inr (4, [.ref aq58, .int 0, .int 0])), (aq1, .inr (4, [.ref aq2, .int 0, .int 0]))]) hD hS hA [0, 2, 1] rfl
  refine va_calli (va_runV (As := []) (rest := []) ⟨hx, hb, hml, hown, hts⟩ (c_X11_take l D y H.size x aq57 aq1 ((.ref aq3)) ((.ref aq5)) ((.ref aq7)) ((.ref aq9)) ((.ref aq11)) ((.ref aq16)) ((.ref aq19)) ((.ref aq22)) ((.ref aq37)) ((.ref aq55)) ((.ref aq59)) ((.int 0)) ((.null)) ((.ref aq58)) ((.ref aq2)) ((.int 0))) (cwV 0 hts gv_law_13_c_X11_take_119 rfl rfl rfl (by decide +kernel) ⟨(Nat.le_of_ble_eq_true rfl), (Nat.le_of_ble_eq_true rfl)⟩) (zB.preV hPc hDc hK hN hE hO hT hG hS hFc (fun _ h => nomatch h) (fun _ h => nomatch h) (fun _ h => nomatch h) (fun _ h => nomatch h) (va_recv hK hPc (ci := 15) (q0 := 0) rfl rfl)) rfl rfl hl.1 rfl (lv_room (Nat.le_of_ble_eq_true rfl)) dL_law_881 ⟨(Nat.le_of_ble_eq_true rfl), (Nat.le_of_ble_eq_true rfl)⟩) hS (fun q _ h => hFc q h) hFc (fun r1 u t H1 locs ht hvm hw hB hz1 hk1 hS => ?_)
  obtain ⟨hP1, hD1⟩ := hB
  rw [ht] at hP1
  obtain ⟨hP, hD⟩ := va_join (wr := [(mo, .inr (16, [.int 0, .int 0, .ref mq1, .ref mq2, .int 0, .ref mq3, .int 0, .ref mq4, .ref mq5, .ref mq6, .int 0, .ref mq7, .ref mq8, .ref mq9, .int 0, .ref mq10, .ref mq11, .ref mq12, .ref mq13, .ref mq14, .int 0, .ref mq15, .ref mq16, .long 0, .ref mq17, .ref mq18, .ref mq19, .int 0, .null, .int 0, .int 0, .int 0, .null, .int 0, .int 0, .int 0, .null, .ref mq20, .int 0, .int 0, .long 0, .null, .null, .null, .null, .int 0, .int 0, .int 0, .int 0, .int 0, .int 0, .null, .long 0, .long 0, .long 0, .null, .null, .null, .int 0, .int 0, .int 0, .ref mq21, .null, .null]))]) (w1 := [(x, .inr (15, [.ref aq1, .ref aq3, .ref aq5, .ref aq7, .ref aq9, .ref aq11, .ref aq16, .ref aq19, .ref aq22, .ref aq37, .ref aq55, .ref aq57, .ref aq59, .int 0, .null])), (aq57, .inr (4, [.ref aq58, .int 0, .int 0])), (aq1, .inr (4, [.ref aq2, .int 0, .int 0]))]) hP hD [0, 2, 1] [3] rfl rfl (by decide) (by decide) hk1 hFc hP1 hD1
  generalize H1 = H at hP hS ⊢
  have hP : va_P D vwCl [(mo, .inr (16, [.int 0, .int 0, .ref mq1, .ref mq2, .int 0, .ref mq3, .int 0, .ref mq4, .ref mq5, .ref mq6, .int 0, .ref mq7, .ref mq8, .ref mq9, .int 0, .ref mq10, .ref mq11, .ref mq12, .ref mq13, .ref mq14, .int 0, .ref mq15, .ref mq16, .long 0, .ref mq17, .ref mq18, .ref mq19, .int 0, .null, .int 0, .int 0, .int 0, .null, .int 0, .int 0, .int 0, .null, .ref mq20, .int 0, .int 0, .long 0, .null, .null, .null, .null, .int 0, .int 0, .int 0, .int 0, .int 0, .int 0, .null, .long 0, .long 0, .long 0, .null, .null, .null, .int 0, .int 0, .int 0, .ref mq21, .null, .null])), (x, .inr (15, [.ref aq1, .ref aq3, .ref aq5, .ref aq7, .ref aq9, .ref aq11, .ref aq16, .ref aq19, .ref aq22, .ref aq37, .ref aq55, .ref aq57, .ref aq59, .int 0, .null])), (aq57, .inr (4, [.ref aq58, .int 0, .int 0])), (aq1, .inr (4, [.ref aq2, .int 0, .int 0]))] H := hP
  have hD : va_D A [(mo, .inr (16, [.int 0, .int 0, .ref mq1, .ref mq2, .int 0, .ref mq3, .int 0, .ref mq4, .ref mq5, .ref mq6, .int 0, .ref mq7, .ref mq8, .ref mq9, .int 0, .ref mq10, .ref mq11, .ref mq12, .ref mq13, .ref mq14, .int 0, .ref mq15, .ref mq16, .long 0, .ref mq17, .ref mq18, .ref mq19, .int 0, .null, .int 0, .int 0, .int 0, .null, .int 0, .int 0, .int 0, .null, .ref mq20, .int 0, .int 0, .long 0, .null, .null, .null, .null, .int 0, .int 0, .int 0, .int 0, .int 0, .int 0, .null, .long 0, .long 0, .long 0, .null, .null, .null, .int 0, .int 0, .int 0, .ref mq21, .null, .null])), (x, .inr (15, [.ref aq1, .ref aq3, .ref aq5, .ref aq7, .ref aq9, .ref aq11, .ref aq16, .ref aq19, .ref aq22, .ref aq37, .ref aq55, .ref aq57, .ref aq59, .int 0, .null])), (aq57, .inr (4, [.ref aq58, .int 0, .int 0])), (aq1, .inr (4, [.ref aq2, .int 0, .int 0]))] := hD
  have hw : r1 = 0 := hw
  subst hw
  refine lv_aload_n hx hb dL_law_884 rfl (lv_at hl 2 rfl) ?_
  have hPc := hP.sub (ws' := [(mo, .inr (16, [.int 0, .int 0, .ref mq1, .ref mq2, .int 0, .ref mq3, .int 0, .ref mq4, .ref mq5, .ref mq6, .int 0, .ref mq7, .ref mq8, .ref mq9, .int 0, .ref mq10, .ref mq11, .ref mq12, .ref mq13, .ref mq14, .int 0, .ref mq15, .ref mq16, .long 0, .ref mq17, .ref mq18, .ref mq19, .int 0, .null, .int 0, .int 0, .int 0, .null, .int 0, .int 0, .int 0, .null, .ref mq20, .int 0, .int 0, .long 0, .null, .null, .null, .null, .int 0, .int 0, .int 0, .int 0, .int 0, .int 0, .null, .long 0, .long 0, .long 0, .null, .null, .null, .int 0, .int 0, .int 0, .ref mq21, .null, .null]))]) [0] rfl
  have hDc := hD.sub (ws' := [(mo, .inr (16, [.int 0, .int 0, .ref mq1, .ref mq2, .int 0, .ref mq3, .int 0, .ref mq4, .ref mq5, .ref mq6, .int 0, .ref mq7, .ref mq8, .ref mq9, .int 0, .ref mq10, .ref mq11, .ref mq12, .ref mq13, .ref mq14, .int 0, .ref mq15, .ref mq16, .long 0, .ref mq17, .ref mq18, .ref mq19, .int 0, .null, .int 0, .int 0, .int 0, .null, .int 0, .int 0, .int 0, .null, .ref mq20, .int 0, .int 0, .long 0, .null, .null, .null, .null, .int 0, .int 0, .int 0, .int 0, .int 0, .int 0, .null, .long 0, .long 0, .long 0, .null, .null, .null, .int 0, .int 0, .int 0, .ref mq21, .null, .null]))]) [0] (by decide) rfl
  have hFc := va_free (wc := [(mo, .inr (16, [.int 0, .int 0, .ref mq1, .ref mq2, .int 0, .ref mq3, .int 0, .ref mq4, .ref mq5, .ref mq6, .int 0, .ref mq7, .ref mq8, .ref mq9, .int 0, .ref mq10, .ref mq11, .ref mq12, .ref mq13, .ref mq14, .int 0, .ref mq15, .ref mq16, .long 0, .ref mq17, .ref mq18, .ref mq19, .int 0, .null, .int 0, .int 0, .int 0, .null, .int 0, .int 0, .int 0, .null, .ref mq20, .int 0, .int 0, .long 0, .null, .null, .null, .null, .int 0, .int 0, .int 0, .int 0, .int 0, .int 0, .null, .long 0, .long 0, .long 0, .null, .null, .null, .int 0, .int 0, .int 0, .ref mq21, .null, .null]))]) hD hS hA [0] rfl
  refine va_calli (va_runV (As := []) (rest := [.int 0]) ⟨hx, hb, hml, hown, hts⟩ (c_M_take l D y H.size mo ((.int 0)) ((.int 0)) ((.ref mq1)) ((.ref mq2)) ((.ref mq3)) ((.int 0)) ((.ref mq4)) ((.ref mq5)) ((.ref mq6)) ((.int 0)) ((.ref mq7)) ((.ref mq8)) ((.ref mq9)) ((.int 0)) ((.ref mq10)) ((.ref mq11)) ((.ref mq12)) ((.ref mq13)) ((.ref mq14)) ((.int 0)) ((.ref mq15)) ((.ref mq16)) ((.long 0)) ((.ref mq17)) ((.ref mq18)) ((.ref mq19)) ((.int 0)) ((.null)) ((.int 0)) ((.int 0)) ((.int 0)) ((.null)) ((.int 0)) ((.int 0)) ((.int 0)) ((.null)) ((.ref mq20)) ((.int 0)) ((.int 0)) ((.long 0)) ((.null)) ((.null)) ((.null)) ((.null)) ((.int 0)) ((.int 0)) ((.int 0)) ((.int 0)) ((.int 0)) ((.int 0)) ((.null)) ((.long 0)) ((.long 0)) ((.long 0)) ((.null)) ((.null)) ((.null)) ((.int 0)) ((.int 0)) ((.int 0)) ((.ref mq21)) ((.null)) ((.null))) (cwV 0 hts gv_law_13_c_M_take_122 rfl rfl rfl (by decide +kernel) ⟨(Nat.le_of_ble_eq_true rfl), (Nat.le_of_ble_eq_true rfl)⟩) (zB.preV hPc hDc hK hN hE hO hT hG hS hFc (fun _ h => nomatch h) (fun _ h => nomatch h) (fun _ h => nomatch h) (fun _ h => nomatch h) (va_recv hK hPc (ci := 16) (q0 := 0) rfl rfl)) rfl rfl hl.1 rfl (lv_room (Nat.le_of_ble_eq_true rfl)) dL_law_885 ⟨(Nat.le_of_ble_eq_true rfl), (Nat.le_of_ble_eq_true rfl)⟩) hS (fun q _ h => hFc q h) hFc (fun r2 u t H1 locs ht hvm hw hB hz1 hk1 hS => ?_)
  obtain ⟨hP1, hD1⟩ := hB
  rw [ht] at hP1
  obtain ⟨hP, hD⟩ := va_join (wr := [(x, .inr (15, [.ref aq1, .ref aq3, .ref aq5, .ref aq7, .ref aq9, .ref aq11, .ref aq16, .ref aq19, .ref aq22, .ref aq37, .ref aq55, .ref aq57, .ref aq59, .int 0, .null])), (aq57, .inr (4, [.ref aq58, .int 0, .int 0])), (aq1, .inr (4, [.ref aq2, .int 0, .int 0]))]) (w1 := [(mo, .inr (16, [.int 0, .int 0, .ref mq1, .ref mq2, .int 0, .ref mq3, .int 0, .ref mq4, .ref mq5, .ref mq6, .int 0, .ref mq7, .ref mq8, .ref mq9, .int 0, .ref mq10, .ref mq11, .ref mq12, .ref mq13, .ref mq14, .int 0, .ref mq15, .ref mq16, .long 0, .ref mq17, .ref mq18, .ref mq19, .int 0, .null, .int 0, .int 0, .int 0, .null, .int 0, .int 0, .int 0, .null, .ref mq20, .int 0, .int 0, .long 0, .null, .null, .null, .null, .int 0, .int 0, .int 0, .int 0, .int 0, .int 0, .null, .long 0, .long 0, .long 0, .null, .null, .null, .int 0, .int 0, .int 0, .ref mq21, .null, .null]))]) hP hD [0] [1, 2, 3] rfl rfl (by decide) (by decide) hk1 hFc hP1 hD1
  generalize H1 = H at hP hS ⊢
  have hP : va_P D vwCl [(x, .inr (15, [.ref aq1, .ref aq3, .ref aq5, .ref aq7, .ref aq9, .ref aq11, .ref aq16, .ref aq19, .ref aq22, .ref aq37, .ref aq55, .ref aq57, .ref aq59, .int 0, .null])), (aq57, .inr (4, [.ref aq58, .int 0, .int 0])), (aq1, .inr (4, [.ref aq2, .int 0, .int 0])), (mo, .inr (16, [.int 0, .int 0, .ref mq1, .ref mq2, .int 0, .ref mq3, .int 0, .ref mq4, .ref mq5, .ref mq6, .int 0, .ref mq7, .ref mq8, .ref mq9, .int 0, .ref mq10, .ref mq11, .ref mq12, .ref mq13, .ref mq14, .int 0, .ref mq15, .ref mq16, .long 0, .ref mq17, .ref mq18, .ref mq19, .int 0, .null, .int 0, .int 0, .int 0, .null, .int 0, .int 0, .int 0, .null, .ref mq20, .int 0, .int 0, .long 0, .null, .null, .null, .null, .int 0, .int 0, .int 0, .int 0, .int 0, .int 0, .null, .long 0, .long 0, .long 0, .null, .null, .null, .int 0, .int 0, .int 0, .ref mq21, .null, .null]))] H := hP
  have hD : va_D A [(x, .inr (15, [.ref aq1, .ref aq3, .ref aq5, .ref aq7, .ref aq9, .ref aq11, .ref aq16, .ref aq19, .ref aq22, .ref aq37, .ref aq55, .ref aq57, .ref aq59, .int 0, .null])), (aq57, .inr (4, [.ref aq58, .int 0, .int 0])), (aq1, .inr (4, [.ref aq2, .int 0, .int 0])), (mo, .inr (16, [.int 0, .int 0, .ref mq1, .ref mq2, .int 0, .ref mq3, .int 0, .ref mq4, .ref mq5, .ref mq6, .int 0, .ref mq7, .ref mq8, .ref mq9, .int 0, .ref mq10, .ref mq11, .ref mq12, .ref mq13, .ref mq14, .int 0, .ref mq15, .ref mq16, .long 0, .ref mq17, .ref mq18, .ref mq19, .int 0, .null, .int 0, .int 0, .int 0, .null, .int 0, .int 0, .int 0, .null, .ref mq20, .int 0, .int 0, .long 0, .null, .null, .null, .null, .int 0, .int 0, .int 0, .int 0, .int 0, .int 0, .null, .long 0, .long 0, .long 0, .null, .null, .null, .int 0, .int 0, .int 0, .ref mq21, .null, .null]))] := hD
  have hw : r2 = 0 := hw
  subst hw
  refine lv_icmp_eq (tgt := 1017) hx hb dL_law_888 (by decide) (fun _ => ?_) (fun c9 => absurd (by decide) c9)
  refine lv_iinc (v := 6) (lv' := [(4, .int 6), (3, .ref o), (2, .ref mo), (1, .ref x), (0, .ref b)]) hx hb dL_law_1017 hl (k := 0) rfl (by decide) (by decide) rfl (fun ls hl => ?_)
  refine lv_goto (tgt := 23) hx hb dL_law_1020 (by decide) ?_
  refine lv_iload hx hb dL_law_23 (lv_at hl 0 rfl) ?_
  refine lv_aload_n hx hb dL_law_25 rfl (lv_at hl 4 rfl) ?_
  refine va_slen hx hb hX hbl hbA hS dL_law_26 ?_
  refine lv_bipush (v := 6) hx hb dL_law_27 (by decide) ?_
  refine lv_isub hx hb dL_law_29 ?_
  refine lv_topi (fun v3 ev3 => ?_)
  have ev3 : v3 = 0 := ev3.trans (by decide +kernel)
  subst ev3
  refine lv_icmp_gt (tgt := 1023) hx hb dL_law_30 (by decide) (fun _ => ?_) (fun c9 => absurd (by decide) c9)
  refine lv_iconst (v := 1) hx hb dL_law_1023 (by decide) ?_
  refine va_forget (fun q hq => hAf _ (hS.2.2 q hq)) ?_
  refine W.widen (k := 600002) (n := 7302232) (Nat.le_of_ble_eq_true rfl) (Nat.le_of_ble_eq_true rfl) ?_
  exact lw_ret hx hb hr hlocks dL_law_1024
set_option maxRecDepth 100000 in
theorem gv_law_5_c_L_key_89 : GoodIn zt (va_wsS RL 89 yL_key wz_c_L_key) := goodIn_app (goodIn_of _ (by decide +kernel)) gl_c_L_key
set_option maxRecDepth 100000 in
theorem gv_law_5_c_M_key_92 : GoodIn zt (wsV RL 92 RX12 yX12_key wz_c_M_key) := goodIn_app (goodIn_of _ (by decide +kernel)) gl_c_M_key
set_option maxRecDepth 100000 in
theorem gv_law_5_c_M_thrown_82 : GoodIn zt (wsV RL 82 RX12 yX12_thrown wz_c_M_thrown) := goodIn_app (goodIn_of _ (by decide +kernel)) gl_c_M_thrown
set_option maxHeartbeats 4000000 in
set_option maxRecDepth 100000 in
theorem law_5 {p : Program} {l : Launch} {e : Env} {s : State} {m : MethodId} {below : List Frame} {meth : Method} {c : Code} {b : Nat} {xs : Nat → Int32} (hl0 : l.stackTraces = false) (C0 : lw_At p s m meth c b 6 xs) {A : Nat → Prop} (hA : ∀ q : Nat, s.heap.size ≤ q → A q) (hAf : ∀ q : Nat, A q → s.heap.size ≤ q) {D : va_G} {y : Nat → ClassId} {e0 e1 e2 e3 e4 sa0 sa1 sa2 sa3 sa4 sa5 sa6 sa7 sa8 sa9 sa10 sa11 st0 st1 st2 st3 st4 st5 st6 st7 st8 st9 st10 st11 : Nat} (hK : va_K D vwCl (zT y) s) (hN : zN zL s) (hE : zE (zEL e0 e1 e2 e3 e4) A s s.heap) (hO : zAO s) (hT : zQ zTh A s s.heap) (hG : zG (zGL e1 e2 e3 e4 sa0 sa1 sa2 sa3 sa4 sa5 sa6 sa7 sa8 sa9 sa10 sa11 st0 st1 st2 st3 st4 st5 st6 st7 st8 st9 st10 st11) A s s.heap) {o x mo aq1 aq3 aq5 aq7 aq9 mq1 mq2 mq3 mq4 mq5 mq6 mq7 mq8 mq9 aq11 aq16 aq19 aq22 aq23 aq24 aq27 aq29 aq35 aq37 aq55 aq57 aq59 mq10 mq11 mq12 mq13 mq14 mq15 mq16 mq17 mq18 mq19 mq20 mq21 : Nat} {H : Heap} {locs : List Loc} (hP : va_P D vwCl [(x, .inr (15, [.ref aq1, .ref aq3, .ref aq5, .ref aq7, .ref aq9, .ref aq11, .ref aq16, .ref aq19, .ref aq22, .ref aq37, .ref aq55, .ref aq57, .ref aq59, .int 0, .null])), (aq22, .inr (11, [.ref aq23, .ref aq24, .ref aq27, .ref aq29, .ref aq35, .null, .null])), (aq23, .inr (3, [.int 0, .ref e0, .int 0])), (mo, .inr (16, [.int 0, .int 0, .ref mq1, .ref mq2, .int 0, .ref mq3, .int 0, .ref mq4, .ref mq5, .ref mq6, .int 0, .ref mq7, .ref mq8, .ref mq9, .int 0, .ref mq10, .ref mq11, .ref mq12, .ref mq13, .ref mq14, .int 0, .ref mq15, .ref mq16, .long 0, .ref mq17, .ref mq18, .ref mq19, .int 0, .null, .int 0, .int 0, .int 0, .null, .int 0, .int 0, .int 0, .null, .ref mq20, .int 0, .int 0, .long 0, .null, .null, .null, .null, .int 0, .int 0, .int 0, .int 0, .int 0, .int 0, .null, .long 0, .long 0, .long 0, .null, .null, .null, .int 0, .int 0, .int 0, .ref mq21, .null, .null])), (o, .inl (y 2, 1, .inr (.inl (fun _ => 0))))] H) (hD : va_D A [(x, .inr (15, [.ref aq1, .ref aq3, .ref aq5, .ref aq7, .ref aq9, .ref aq11, .ref aq16, .ref aq19, .ref aq22, .ref aq37, .ref aq55, .ref aq57, .ref aq59, .int 0, .null])), (aq22, .inr (11, [.ref aq23, .ref aq24, .ref aq27, .ref aq29, .ref aq35, .null, .null])), (aq23, .inr (3, [.int 0, .ref e0, .int 0])), (mo, .inr (16, [.int 0, .int 0, .ref mq1, .ref mq2, .int 0, .ref mq3, .int 0, .ref mq4, .ref mq5, .ref mq6, .int 0, .ref mq7, .ref mq8, .ref mq9, .int 0, .ref mq10, .ref mq11, .ref mq12, .ref mq13, .ref mq14, .int 0, .ref mq15, .ref mq16, .long 0, .ref mq17, .ref mq18, .ref mq19, .int 0, .null, .int 0, .int 0, .int 0, .null, .int 0, .int 0, .int 0, .null, .ref mq20, .int 0, .int 0, .long 0, .null, .null, .null, .null, .int 0, .int 0, .int 0, .int 0, .int 0, .int 0, .null, .long 0, .long 0, .long 0, .null, .null, .null, .int 0, .int 0, .int 0, .ref mq21, .null, .null])), (o, .inl (y 2, 1, .inr (.inl (fun _ => 0))))]) (hS : va_S A s.heap H locs) {ls : Array Slot} (hl : lv_has ls 8 [(4, .int 0), (3, .ref o), (2, .ref mo), (1, .ref x), (0, .ref b)]) : W p l e room_1 s m #[Value.ref b] below meth c H locs 84 139562 (lw_Z below #[Value.ref b] s) (F0 m 316 ls []) := by
  obtain ⟨hx, hb, hr, hml, hown, hts, hX, hbl, hlocks, hgv⟩ := C0
  have hts := zz_hts hts
  have hbA : ¬ A b := fun q => absurd hbl (Nat.not_lt.mpr (hAf b q))
  refine lv_aload_n hx hb dL_law_316 rfl (lv_at hl 3 rfl) ?_
  refine lv_aload_n hx hb dL_law_317 rfl (lv_at hl 4 rfl) ?_
  refine lv_iload hx hb dL_law_318 (lv_at hl 0 rfl) ?_
  refine lv_iconst (v := 1) hx hb dL_law_320 (by decide) ?_
  refine lv_iadd hx hb dL_law_321 ?_
  refine lv_topi (fun v1 ev1 => ?_)
  have ev1 : v1 = 1 := ev1.trans (by decide +kernel)
  subst ev1
  refine va_sld hx hb hX hbl hbA hS (by unfold vp_in; decide) dL_law_322 ?_
  refine lv_topi (fun x2 ex2 => ?_)
  refine lv_aload_n hx hb dL_law_323 rfl (lv_at hl 4 rfl) ?_
  refine lv_iload hx hb dL_law_324 (lv_at hl 0 rfl) ?_
  refine lv_iconst (v := 2) hx hb dL_law_326 (by decide) ?_
  refine lv_iadd hx hb dL_law_327 ?_
  refine lv_topi (fun v3 ev3 => ?_)
  have ev3 : v3 = 2 := ev3.trans (by decide +kernel)
  subst ev3
  refine va_sld hx hb hX hbl hbA hS (by unfold vp_in; decide) dL_law_328 ?_
  refine lv_topi (fun x4 ex4 => ?_)
  refine lv_aload_n hx hb dL_law_329 rfl (lv_at hl 1 rfl) ?_
  have hPc := hP.sub (ws' := [(x, .inr (15, [.ref aq1, .ref aq3, .ref aq5, .ref aq7, .ref aq9, .ref aq11, .ref aq16, .ref aq19, .ref aq22, .ref aq37, .ref aq55, .ref aq57, .ref aq59, .int 0, .null])), (aq22, .inr (11, [.ref aq23, .ref aq24, .ref aq27, .ref aq29, .ref aq35, .null, .null])), (aq23, .inr (3, [.int 0, .ref e0, .int 0])), (o, .inl (y 2, 1, .inr (.inl (fun _ => 0))))]) [0, 1, 2, 4] rfl
  have hDc := hD.sub (ws' := [(x, .inr (15, [.ref aq1, .ref aq3, .ref aq5, .ref aq7, .ref aq9, .ref aq11, .ref aq16, .ref aq19, .ref aq22, .ref aq37, .ref aq55, .ref aq57, .ref aq59, .int 0, .null])), (aq22, .inr (11, [.ref aq23, .ref aq24, .ref aq27, .ref aq29, .ref aq35, .null, .null])), (aq23, .inr (3, [.int 0, .ref e0, .int 0])), (o, .inl (y 2, 1, .inr (.inl (fun _ => 0))))]) [0, 1, 2, 4] (by decide) rfl
  have hFc := va_free (wc := [(x, .inr (15, [.ref aq1, .ref aq3, .ref aq5, .ref aq7, .ref aq9, .ref aq11, .ref aq16, .ref aq19, .ref aq22, .ref aq37, .ref aq55, .ref aq57, .ref aq59, .int 0, .null])), (aq22, .inr (11, [.ref aq23, .ref aq24, .ref aq27, .ref aq29, .ref aq35, .null, .null])), (aq23, .inr (3, [.int 0, .ref e0, .int 0])), (o, .inl (y 2, 1, .inr (.inl (fun _ => 0))))]) hD hS hA [0, 1, 2, 4] rfl
  refine va_calli (vx_runSW (As := [.ref x, .int x2, .int x4, .ref o]) (rest := []) ⟨hx, hb, hml, hown, hts⟩ (c_L_key l hl0 D y H.size x aq22 aq23 ((.ref aq1)) ((.ref aq3)) ((.ref aq5)) ((.ref aq7)) ((.ref aq9)) ((.ref aq11)) ((.ref aq16)) ((.ref aq19)) ((.ref aq37)) ((.ref aq55)) ((.ref aq57)) ((.ref aq59)) ((.int 0)) ((.null)) ((.ref aq24)) ((.ref aq27)) ((.ref aq29)) ((.ref aq35)) ((.null)) ((.null)) ((.int 0)) ((.ref e0)) o ((fun _ => 0)) x2 x4) (vx_cwSW 4 hts gv_law_5_c_L_key_89 rfl rfl rfl (by decide +kernel) ⟨(Nat.le_of_ble_eq_true rfl), (Nat.le_of_ble_eq_true rfl)⟩) (zB.preS hPc hDc hK hN hE hO hT hG hS hFc (List.forall_mem_cons.mpr ⟨List.mem_of_getElem? (i := 7) rfl, (List.forall_mem_cons.mpr ⟨List.mem_of_getElem? (i := 8) rfl, (List.forall_mem_cons.mpr ⟨List.mem_of_getElem? (i := 9) rfl, (List.forall_mem_cons.mpr ⟨List.mem_of_getElem? (i := 10) rfl, (fun _ h => nomatch h)⟩)⟩)⟩)⟩) (fun _ h => nomatch h) (fun _ h => h) (fun _ h => nomatch h)) rfl rfl hl.1 rfl (lv_room (Nat.le_of_ble_eq_true rfl)) dL_law_330 ⟨(Nat.le_of_ble_eq_true rfl), (Nat.le_of_ble_eq_true rfl)⟩) hS (fun q _ h => hFc q h) hFc (fun r5 u t H1 locs ht hvm hw hB hz1 hk1 hS => ?_)
  obtain ⟨hP1, hD1⟩ := hB
  rw [ht] at hP1
  obtain ⟨hP, hD⟩ := va_join (wr := [(mo, .inr (16, [.int 0, .int 0, .ref mq1, .ref mq2, .int 0, .ref mq3, .int 0, .ref mq4, .ref mq5, .ref mq6, .int 0, .ref mq7, .ref mq8, .ref mq9, .int 0, .ref mq10, .ref mq11, .ref mq12, .ref mq13, .ref mq14, .int 0, .ref mq15, .ref mq16, .long 0, .ref mq17, .ref mq18, .ref mq19, .int 0, .null, .int 0, .int 0, .int 0, .null, .int 0, .int 0, .int 0, .null, .ref mq20, .int 0, .int 0, .long 0, .null, .null, .null, .null, .int 0, .int 0, .int 0, .int 0, .int 0, .int 0, .null, .long 0, .long 0, .long 0, .null, .null, .null, .int 0, .int 0, .int 0, .ref mq21, .null, .null]))]) (w1 := [(o, .inl (y 2, 1, .inr (.inl (fun _ => 0))))]) hP hD [0, 1, 2, 4] [3] rfl rfl (by decide) (by decide) hk1 hFc hP1 hD1
  generalize H1 = H at hP hS ⊢
  have hP : va_P D vwCl [(mo, .inr (16, [.int 0, .int 0, .ref mq1, .ref mq2, .int 0, .ref mq3, .int 0, .ref mq4, .ref mq5, .ref mq6, .int 0, .ref mq7, .ref mq8, .ref mq9, .int 0, .ref mq10, .ref mq11, .ref mq12, .ref mq13, .ref mq14, .int 0, .ref mq15, .ref mq16, .long 0, .ref mq17, .ref mq18, .ref mq19, .int 0, .null, .int 0, .int 0, .int 0, .null, .int 0, .int 0, .int 0, .null, .ref mq20, .int 0, .int 0, .long 0, .null, .null, .null, .null, .int 0, .int 0, .int 0, .int 0, .int 0, .int 0, .null, .long 0, .long 0, .long 0, .null, .null, .null, .int 0, .int 0, .int 0, .ref mq21, .null, .null])), (o, .inl (y 2, 1, .inr (.inl (fun _ => 0))))] H := hP
  have hD : va_D A [(mo, .inr (16, [.int 0, .int 0, .ref mq1, .ref mq2, .int 0, .ref mq3, .int 0, .ref mq4, .ref mq5, .ref mq6, .int 0, .ref mq7, .ref mq8, .ref mq9, .int 0, .ref mq10, .ref mq11, .ref mq12, .ref mq13, .ref mq14, .int 0, .ref mq15, .ref mq16, .long 0, .ref mq17, .ref mq18, .ref mq19, .int 0, .null, .int 0, .int 0, .int 0, .null, .int 0, .int 0, .int 0, .null, .ref mq20, .int 0, .int 0, .long 0, .null, .null, .null, .null, .int 0, .int 0, .int 0, .int 0, .int 0, .int 0, .null, .long 0, .long 0, .long 0, .null, .null, .null, .int 0, .int 0, .int 0, .ref mq21, .null, .null])), (o, .inl (y 2, 1, .inr (.inl (fun _ => 0))))] := hD
  have hw : r5 = 1 := hw
  subst hw
  refine lv_istore (lv' := [(5, .int 1), (4, .int 0), (3, .ref o), (2, .ref mo), (1, .ref x), (0, .ref b)]) hx hb dL_law_333 hl (by decide) rfl (fun ls hl => ?_)
  refine lv_aload_n hx hb dL_law_335 rfl (lv_at hl 3 rfl) ?_
  refine lv_aload_n hx hb dL_law_336 rfl (lv_at hl 5 rfl) ?_
  refine lv_iload hx hb dL_law_337 (lv_at hl 1 rfl) ?_
  refine lv_iconst (v := 1) hx hb dL_law_339 (by decide) ?_
  refine lv_iadd hx hb dL_law_340 ?_
  refine lv_topi (fun v6 ev6 => ?_)
  have ev6 : v6 = 1 := ev6.trans (by decide +kernel)
  subst ev6
  refine va_sld hx hb hX hbl hbA hS (by unfold vp_in; decide) dL_law_341 ?_
  refine lv_topi (fun x7 ex7 => ?_)
  have fx7 : x2 = x7 := ex2.trans ex7.symm
  subst fx7
  refine lv_aload_n hx hb dL_law_342 rfl (lv_at hl 5 rfl) ?_
  refine lv_iload hx hb dL_law_343 (lv_at hl 1 rfl) ?_
  refine lv_iconst (v := 2) hx hb dL_law_345 (by decide) ?_
  refine lv_iadd hx hb dL_law_346 ?_
  refine lv_topi (fun v8 ev8 => ?_)
  have ev8 : v8 = 2 := ev8.trans (by decide +kernel)
  subst ev8
  refine va_sld hx hb hX hbl hbA hS (by unfold vp_in; decide) dL_law_347 ?_
  refine lv_topi (fun x9 ex9 => ?_)
  have fx9 : x4 = x9 := ex4.trans ex9.symm
  subst fx9
  have hPc := hP.sub (ws' := [(mo, .inr (16, [.int 0, .int 0, .ref mq1, .ref mq2, .int 0, .ref mq3, .int 0, .ref mq4, .ref mq5, .ref mq6, .int 0, .ref mq7, .ref mq8, .ref mq9, .int 0, .ref mq10, .ref mq11, .ref mq12, .ref mq13, .ref mq14, .int 0, .ref mq15, .ref mq16, .long 0, .ref mq17, .ref mq18, .ref mq19, .int 0, .null, .int 0, .int 0, .int 0, .null, .int 0, .int 0, .int 0, .null, .ref mq20, .int 0, .int 0, .long 0, .null, .null, .null, .null, .int 0, .int 0, .int 0, .int 0, .int 0, .int 0, .null, .long 0, .long 0, .long 0, .null, .null, .null, .int 0, .int 0, .int 0, .ref mq21, .null, .null]))]) [0] rfl
  have hDc := hD.sub (ws' := [(mo, .inr (16, [.int 0, .int 0, .ref mq1, .ref mq2, .int 0, .ref mq3, .int 0, .ref mq4, .ref mq5, .ref mq6, .int 0, .ref mq7, .ref mq8, .ref mq9, .int 0, .ref mq10, .ref mq11, .ref mq12, .ref mq13, .ref mq14, .int 0, .ref mq15, .ref mq16, .long 0, .ref mq17, .ref mq18, .ref mq19, .int 0, .null, .int 0, .int 0, .int 0, .null, .int 0, .int 0, .int 0, .null, .ref mq20, .int 0, .int 0, .long 0, .null, .null, .null, .null, .int 0, .int 0, .int 0, .int 0, .int 0, .int 0, .null, .long 0, .long 0, .long 0, .null, .null, .null, .int 0, .int 0, .int 0, .ref mq21, .null, .null]))]) [0] (by decide) rfl
  have hFc := va_free (wc := [(mo, .inr (16, [.int 0, .int 0, .ref mq1, .ref mq2, .int 0, .ref mq3, .int 0, .ref mq4, .ref mq5, .ref mq6, .int 0, .ref mq7, .ref mq8, .ref mq9, .int 0, .ref mq10, .ref mq11, .ref mq12, .ref mq13, .ref mq14, .int 0, .ref mq15, .ref mq16, .long 0, .ref mq17, .ref mq18, .ref mq19, .int 0, .null, .int 0, .int 0, .int 0, .null, .int 0, .int 0, .int 0, .null, .ref mq20, .int 0, .int 0, .long 0, .null, .null, .null, .null, .int 0, .int 0, .int 0, .int 0, .int 0, .int 0, .null, .long 0, .long 0, .long 0, .null, .null, .null, .int 0, .int 0, .int 0, .ref mq21, .null, .null]))]) hD hS hA [0] rfl
  refine va_calll (va_runV (As := [.int x2, .int x4]) (rest := []) ⟨hx, hb, hml, hown, hts⟩ (c_M_key l D y H.size mo ((.int 0)) ((.int 0)) ((.ref mq1)) ((.ref mq2)) ((.int 0)) ((.ref mq3)) ((.ref mq4)) ((.ref mq5)) ((.ref mq6)) ((.int 0)) ((.ref mq7)) ((.ref mq8)) ((.ref mq9)) ((.int 0)) ((.ref mq10)) ((.ref mq11)) ((.ref mq12)) ((.ref mq13)) ((.ref mq14)) ((.int 0)) ((.ref mq15)) ((.ref mq16)) ((.long 0)) ((.ref mq17)) ((.ref mq18)) ((.ref mq19)) ((.int 0)) ((.null)) ((.int 0)) ((.int 0)) ((.int 0)) ((.null)) ((.int 0)) ((.int 0)) ((.int 0)) ((.null)) ((.ref mq20)) ((.int 0)) ((.int 0)) ((.long 0)) ((.null)) ((.null)) ((.null)) ((.null)) ((.int 0)) ((.int 0)) ((.int 0)) ((.int 0)) ((.int 0)) ((.int 0)) ((.null)) ((.long 0)) ((.long 0)) ((.long 0)) ((.null)) ((.null)) ((.null)) ((.int 0)) ((.int 0)) ((.int 0)) ((.ref mq21)) ((.null)) ((.null)) x2 x4) (cwV 2 hts gv_law_5_c_M_key_92 rfl rfl rfl (by decide +kernel) ⟨(Nat.le_of_ble_eq_true rfl), (Nat.le_of_ble_eq_true rfl)⟩) (zB.preV hPc hDc hK hN hE hO hT hG hS hFc (fun _ h => nomatch h) (fun _ h => nomatch h) (fun _ h => nomatch h) (fun _ h => nomatch h) (va_recv hK hPc (ci := 16) (q0 := 0) rfl rfl)) rfl rfl hl.1 rfl (lv_room (Nat.le_of_ble_eq_true rfl)) dL_law_348 ⟨(Nat.le_of_ble_eq_true rfl), (Nat.le_of_ble_eq_true rfl)⟩) hS (fun q _ h => hFc q h) hFc (fun r10 u t H1 locs ht hvm hw hB hz1 hk1 hS => ?_)
  obtain ⟨hP1, hD1⟩ := hB
  rw [ht] at hP1
  obtain ⟨hP, hD⟩ := va_join (wr := [(o, .inl (y 2, 1, .inr (.inl (fun _ => 0))))]) (w1 := [(mo, .inr (16, [.int 1, .int 0, .ref mq1, .ref mq2, .int 0, .ref mq3, .int 0, .ref mq4, .ref mq5, .ref mq6, .int 0, .ref mq7, .ref mq8, .ref mq9, .int 0, .ref mq10, .ref mq11, .ref mq12, .ref mq13, .ref mq14, .int 0, .ref mq15, .ref mq16, .long 0, .ref mq17, .ref mq18, .ref mq19, .int 0, .null, .int 0, .int 0, .int 0, .null, .int 0, .int 0, .int 0, .null, .ref mq20, .int 0, .int 0, .long 0, .null, .null, .null, .null, .int 0, .int 0, .int 0, .int 0, .int 0, .int 0, .null, .long 0, .long 0, .long 0, .null, .null, .null, .int 0, .int 0, .int 0, .ref mq21, .null, .null]))]) hP hD [0] [1] rfl rfl (by decide) (by decide) hk1 hFc hP1 hD1
  generalize H1 = H at hP hS ⊢
  have hP : va_P D vwCl [(o, .inl (y 2, 1, .inr (.inl (fun _ => 0)))), (mo, .inr (16, [.int 1, .int 0, .ref mq1, .ref mq2, .int 0, .ref mq3, .int 0, .ref mq4, .ref mq5, .ref mq6, .int 0, .ref mq7, .ref mq8, .ref mq9, .int 0, .ref mq10, .ref mq11, .ref mq12, .ref mq13, .ref mq14, .int 0, .ref mq15, .ref mq16, .long 0, .ref mq17, .ref mq18, .ref mq19, .int 0, .null, .int 0, .int 0, .int 0, .null, .int 0, .int 0, .int 0, .null, .ref mq20, .int 0, .int 0, .long 0, .null, .null, .null, .null, .int 0, .int 0, .int 0, .int 0, .int 0, .int 0, .null, .long 0, .long 0, .long 0, .null, .null, .null, .int 0, .int 0, .int 0, .ref mq21, .null, .null]))] H := hP
  have hD : va_D A [(o, .inl (y 2, 1, .inr (.inl (fun _ => 0)))), (mo, .inr (16, [.int 1, .int 0, .ref mq1, .ref mq2, .int 0, .ref mq3, .int 0, .ref mq4, .ref mq5, .ref mq6, .int 0, .ref mq7, .ref mq8, .ref mq9, .int 0, .ref mq10, .ref mq11, .ref mq12, .ref mq13, .ref mq14, .int 0, .ref mq15, .ref mq16, .long 0, .ref mq17, .ref mq18, .ref mq19, .int 0, .null, .int 0, .int 0, .int 0, .null, .int 0, .int 0, .int 0, .null, .ref mq20, .int 0, .int 0, .long 0, .null, .null, .null, .null, .int 0, .int 0, .int 0, .int 0, .int 0, .int 0, .null, .long 0, .long 0, .long 0, .null, .null, .null, .int 0, .int 0, .int 0, .ref mq21, .null, .null]))] := hD
  have hw : r10 = 0 := hw
  subst hw
  refine lv_lstore (lv' := [(6, .long 0), (5, .int 1), (4, .int 0), (3, .ref o), (2, .ref mo), (1, .ref x), (0, .ref b)]) hx hb dL_law_351 hl (by decide) rfl (fun ls hl => ?_)
  refine lv_aload_n hx hb dL_law_353 rfl (lv_at hl 4 rfl) ?_
  have hPc := hP.sub (ws' := [(mo, .inr (16, [.int 1, .int 0, .ref mq1, .ref mq2, .int 0, .ref mq3, .int 0, .ref mq4, .ref mq5, .ref mq6, .int 0, .ref mq7, .ref mq8, .ref mq9, .int 0, .ref mq10, .ref mq11, .ref mq12, .ref mq13, .ref mq14, .int 0, .ref mq15, .ref mq16, .long 0, .ref mq17, .ref mq18, .ref mq19, .int 0, .null, .int 0, .int 0, .int 0, .null, .int 0, .int 0, .int 0, .null, .ref mq20, .int 0, .int 0, .long 0, .null, .null, .null, .null, .int 0, .int 0, .int 0, .int 0, .int 0, .int 0, .null, .long 0, .long 0, .long 0, .null, .null, .null, .int 0, .int 0, .int 0, .ref mq21, .null, .null]))]) [1] rfl
  have hDc := hD.sub (ws' := [(mo, .inr (16, [.int 1, .int 0, .ref mq1, .ref mq2, .int 0, .ref mq3, .int 0, .ref mq4, .ref mq5, .ref mq6, .int 0, .ref mq7, .ref mq8, .ref mq9, .int 0, .ref mq10, .ref mq11, .ref mq12, .ref mq13, .ref mq14, .int 0, .ref mq15, .ref mq16, .long 0, .ref mq17, .ref mq18, .ref mq19, .int 0, .null, .int 0, .int 0, .int 0, .null, .int 0, .int 0, .int 0, .null, .ref mq20, .int 0, .int 0, .long 0, .null, .null, .null, .null, .int 0, .int 0, .int 0, .int 0, .int 0, .int 0, .null, .long 0, .long 0, .long 0, .null, .null, .null, .int 0, .int 0, .int 0, .ref mq21, .null, .null]))]) [1] (by decide) rfl
  have hFc := va_free (wc := [(mo, .inr (16, [.int 1, .int 0, .ref mq1, .ref mq2, .int 0, .ref mq3, .int 0, .ref mq4, .ref mq5, .ref mq6, .int 0, .ref mq7, .ref mq8, .ref mq9, .int 0, .ref mq10, .ref mq11, .ref mq12, .ref mq13, .ref mq14, .int 0, .ref mq15, .ref mq16, .long 0, .ref mq17, .ref mq18, .ref mq19, .int 0, .null, .int 0, .int 0, .int 0, .null, .int 0, .int 0, .int 0, .null, .ref mq20, .int 0, .int 0, .long 0, .null, .null, .null, .null, .int 0, .int 0, .int 0, .int 0, .int 0, .int 0, .null, .long 0, .long 0, .long 0, .null, .null, .null, .int 0, .int 0, .int 0, .ref mq21, .null, .null]))]) hD hS hA [1] rfl
  refine va_calli (va_runV (As := []) (rest := []) ⟨hx, hb, hml, hown, hts⟩ (c_M_thrown l D y H.size mo ((.int 0)) ((.ref mq1)) ((.ref mq2)) ((.int 0)) ((.ref mq3)) ((.int 0)) ((.ref mq4)) ((.ref mq5)) ((.ref mq6)) ((.int 0)) ((.ref mq7)) ((.ref mq8)) ((.ref mq9)) ((.int 0)) ((.ref mq10)) ((.ref mq11)) ((.ref mq12)) ((.ref mq13)) ((.ref mq14)) ((.int 0)) ((.ref mq15)) ((.ref mq16)) ((.long 0)) ((.ref mq17)) ((.ref mq18)) ((.ref mq19)) ((.int 0)) ((.null)) ((.int 0)) ((.int 0)) ((.int 0)) ((.null)) ((.int 0)) ((.int 0)) ((.int 0)) ((.null)) ((.ref mq20)) ((.int 0)) ((.int 0)) ((.long 0)) ((.null)) ((.null)) ((.null)) ((.null)) ((.int 0)) ((.int 0)) ((.int 0)) ((.int 0)) ((.int 0)) ((.int 0)) ((.null)) ((.long 0)) ((.long 0)) ((.long 0)) ((.null)) ((.null)) ((.null)) ((.int 0)) ((.int 0)) ((.int 0)) ((.ref mq21)) ((.null)) ((.null)) 1) (cwV 0 hts gv_law_5_c_M_thrown_82 rfl rfl rfl (by decide +kernel) ⟨(Nat.le_of_ble_eq_true rfl), (Nat.le_of_ble_eq_true rfl)⟩) (zB.preV hPc hDc hK hN hE hO hT hG hS hFc (fun _ h => nomatch h) (fun _ h => nomatch h) (fun _ h => nomatch h) (fun _ h => nomatch h) (va_recv hK hPc (ci := 16) (q0 := 0) rfl rfl)) rfl rfl hl.1 rfl (lv_room (Nat.le_of_ble_eq_true rfl)) dL_law_354 ⟨(Nat.le_of_ble_eq_true rfl), (Nat.le_of_ble_eq_true rfl)⟩) hS (fun q _ h => hFc q h) hFc (fun r11 u t H1 locs ht hvm hw hB hz1 hk1 hS => ?_)
  obtain ⟨hP1, hD1⟩ := hB
  rw [ht] at hP1
  obtain ⟨hP, hD⟩ := va_join (wr := [(o, .inl (y 2, 1, .inr (.inl (fun _ => 0))))]) (w1 := [(mo, .inr (16, [.int 1, .int 0, .ref mq1, .ref mq2, .int 0, .ref mq3, .int 0, .ref mq4, .ref mq5, .ref mq6, .int 0, .ref mq7, .ref mq8, .ref mq9, .int 0, .ref mq10, .ref mq11, .ref mq12, .ref mq13, .ref mq14, .int 0, .ref mq15, .ref mq16, .long 0, .ref mq17, .ref mq18, .ref mq19, .int 0, .null, .int 0, .int 0, .int 0, .null, .int 0, .int 0, .int 0, .null, .ref mq20, .int 0, .int 0, .long 0, .null, .null, .null, .null, .int 0, .int 0, .int 0, .int 0, .int 0, .int 0, .null, .long 0, .long 0, .long 0, .null, .null, .null, .int 0, .int 0, .int 0, .ref mq21, .null, .null]))]) hP hD [1] [0] rfl rfl (by decide) (by decide) hk1 hFc hP1 hD1
  generalize H1 = H at hP hS ⊢
  have hP : va_P D vwCl [(o, .inl (y 2, 1, .inr (.inl (fun _ => 0)))), (mo, .inr (16, [.int 1, .int 0, .ref mq1, .ref mq2, .int 0, .ref mq3, .int 0, .ref mq4, .ref mq5, .ref mq6, .int 0, .ref mq7, .ref mq8, .ref mq9, .int 0, .ref mq10, .ref mq11, .ref mq12, .ref mq13, .ref mq14, .int 0, .ref mq15, .ref mq16, .long 0, .ref mq17, .ref mq18, .ref mq19, .int 0, .null, .int 0, .int 0, .int 0, .null, .int 0, .int 0, .int 0, .null, .ref mq20, .int 0, .int 0, .long 0, .null, .null, .null, .null, .int 0, .int 0, .int 0, .int 0, .int 0, .int 0, .null, .long 0, .long 0, .long 0, .null, .null, .null, .int 0, .int 0, .int 0, .ref mq21, .null, .null]))] H := hP
  have hD : va_D A [(o, .inl (y 2, 1, .inr (.inl (fun _ => 0)))), (mo, .inr (16, [.int 1, .int 0, .ref mq1, .ref mq2, .int 0, .ref mq3, .int 0, .ref mq4, .ref mq5, .ref mq6, .int 0, .ref mq7, .ref mq8, .ref mq9, .int 0, .ref mq10, .ref mq11, .ref mq12, .ref mq13, .ref mq14, .int 0, .ref mq15, .ref mq16, .long 0, .ref mq17, .ref mq18, .ref mq19, .int 0, .null, .int 0, .int 0, .int 0, .null, .int 0, .int 0, .int 0, .null, .ref mq20, .int 0, .int 0, .long 0, .null, .null, .null, .null, .int 0, .int 0, .int 0, .int 0, .int 0, .int 0, .null, .long 0, .long 0, .long 0, .null, .null, .null, .int 0, .int 0, .int 0, .ref mq21, .null, .null]))] := hD
  have hw : r11 = 1 := hw
  subst hw
  refine lv_iload hx hb dL_law_357 (lv_at hl 1 rfl) ?_
  refine lv_icmp_eq (tgt := 364) hx hb dL_law_359 (by decide) (fun _ => ?_) (fun c9 => absurd (by decide) c9)
  refine lv_iload hx hb dL_law_364 (lv_at hl 1 rfl) ?_
  refine lv_if_ne (tgt := 380) hx hb dL_law_366 (by decide) (fun _ => ?_) (fun c9 => absurd c9 (by decide))
  refine lv_goto (tgt := 1017) hx hb dL_law_380 (by decide) ?_
  refine lv_iinc (v := 6) (lv' := [(4, .int 6), (6, .long 0), (5, .int 1), (3, .ref o), (2, .ref mo), (1, .ref x), (0, .ref b)]) hx hb dL_law_1017 hl (k := 2) rfl (by decide) (by decide) rfl (fun ls hl => ?_)
  refine lv_goto (tgt := 23) hx hb dL_law_1020 (by decide) ?_
  refine lv_iload hx hb dL_law_23 (lv_at hl 0 rfl) ?_
  refine lv_aload_n hx hb dL_law_25 rfl (lv_at hl 6 rfl) ?_
  refine va_slen hx hb hX hbl hbA hS dL_law_26 ?_
  refine lv_bipush (v := 6) hx hb dL_law_27 (by decide) ?_
  refine lv_isub hx hb dL_law_29 ?_
  refine lv_topi (fun v12 ev12 => ?_)
  have ev12 : v12 = 0 := ev12.trans (by decide +kernel)
  subst ev12
  refine lv_icmp_gt (tgt := 1023) hx hb dL_law_30 (by decide) (fun _ => ?_) (fun c9 => absurd (by decide) c9)
  refine lv_iconst (v := 1) hx hb dL_law_1023 (by decide) ?_
  refine va_forget (fun q hq => hAf _ (hS.2.2 q hq)) ?_
  refine W.widen (k := 600002) (n := 7302232) (Nat.le_of_ble_eq_true rfl) (Nat.le_of_ble_eq_true rfl) ?_
  exact lw_ret hx hb hr hlocks dL_law_1024
set_option maxRecDepth 100000 in
theorem gv_law_6_c_L_print_93 : GoodIn zt (va_wsS RL 93 yL_print wz_c_L_print) := goodIn_app (goodIn_of _ (by decide +kernel)) gl_c_L_print
set_option maxRecDepth 100000 in
theorem gv_law_6_c_M_print_96 : GoodIn zt (wsV RL 96 RX12 yX12_print wz_c_M_print) := goodIn_app (goodIn_of _ (by decide +kernel)) gl_c_M_print
set_option maxRecDepth 100000 in
theorem gv_law_6_c_M_thrown_82 : GoodIn zt (wsV RL 82 RX12 yX12_thrown wz_c_M_thrown) := goodIn_app (goodIn_of _ (by decide +kernel)) gl_c_M_thrown
set_option maxHeartbeats 4000000 in
set_option maxRecDepth 100000 in
theorem law_6 {p : Program} {l : Launch} {e : Env} {s : State} {m : MethodId} {below : List Frame} {meth : Method} {c : Code} {b : Nat} {xs : Nat → Int32} (hl0 : l.stackTraces = false) (C0 : lw_At p s m meth c b 6 xs) {A : Nat → Prop} (hA : ∀ q : Nat, s.heap.size ≤ q → A q) (hAf : ∀ q : Nat, A q → s.heap.size ≤ q) {D : va_G} {y : Nat → ClassId} {e0 e1 e2 e3 e4 sa0 sa1 sa2 sa3 sa4 sa5 sa6 sa7 sa8 sa9 sa10 sa11 st0 st1 st2 st3 st4 st5 st6 st7 st8 st9 st10 st11 : Nat} (hK : va_K D vwCl (zT y) s) (hN : zN zL s) (hE : zE (zEL e0 e1 e2 e3 e4) A s s.heap) (hO : zAO s) (hT : zQ zTh A s s.heap) (hG : zG (zGL e1 e2 e3 e4 sa0 sa1 sa2 sa3 sa4 sa5 sa6 sa7 sa8 sa9 sa10 sa11 st0 st1 st2 st3 st4 st5 st6 st7 st8 st9 st10 st11) A s s.heap) {o x mo aq1 aq3 aq5 aq7 aq9 mq1 mq2 mq3 mq4 mq5 mq6 mq7 mq8 mq9 aq11 aq16 aq19 aq22 aq23 aq24 aq27 aq29 aq35 aq37 aq55 aq57 aq59 mq10 mq11 mq12 mq13 mq14 mq15 mq16 mq17 mq18 mq19 mq20 mq21 : Nat} {H : Heap} {locs : List Loc} (hP : va_P D vwCl [(x, .inr (15, [.ref aq1, .ref aq3, .ref aq5, .ref aq7, .ref aq9, .ref aq11, .ref aq16, .ref aq19, .ref aq22, .ref aq37, .ref aq55, .ref aq57, .ref aq59, .int 0, .null])), (aq22, .inr (11, [.ref aq23, .ref aq24, .ref aq27, .ref aq29, .ref aq35, .null, .null])), (aq23, .inr (3, [.int 0, .ref e0, .int 0])), (mo, .inr (16, [.int 0, .int 0, .ref mq1, .ref mq2, .int 0, .ref mq3, .int 0, .ref mq4, .ref mq5, .ref mq6, .int 0, .ref mq7, .ref mq8, .ref mq9, .int 0, .ref mq10, .ref mq11, .ref mq12, .ref mq13, .ref mq14, .int 0, .ref mq15, .ref mq16, .long 0, .ref mq17, .ref mq18, .ref mq19, .int 0, .null, .int 0, .int 0, .int 0, .null, .int 0, .int 0, .int 0, .null, .ref mq20, .int 0, .int 0, .long 0, .null, .null, .null, .null, .int 0, .int 0, .int 0, .int 0, .int 0, .int 0, .null, .long 0, .long 0, .long 0, .null, .null, .null, .int 0, .int 0, .int 0, .ref mq21, .null, .null])), (o, .inl (y 2, 1, .inr (.inl (fun _ => 0))))] H) (hD : va_D A [(x, .inr (15, [.ref aq1, .ref aq3, .ref aq5, .ref aq7, .ref aq9, .ref aq11, .ref aq16, .ref aq19, .ref aq22, .ref aq37, .ref aq55, .ref aq57, .ref aq59, .int 0, .null])), (aq22, .inr (11, [.ref aq23, .ref aq24, .ref aq27, .ref aq29, .ref aq35, .null, .null])), (aq23, .inr (3, [.int 0, .ref e0, .int 0])), (mo, .inr (16, [.int 0, .int 0, .ref mq1, .ref mq2, .int 0, .ref mq3, .int 0, .ref mq4, .ref mq5, .ref mq6, .int 0, .ref mq7, .ref mq8, .ref mq9, .int 0, .ref mq10, .ref mq11, .ref mq12, .ref mq13, .ref mq14, .int 0, .ref mq15, .ref mq16, .long 0, .ref mq17, .ref mq18, .ref mq19, .int 0, .null, .int 0, .int 0, .int 0, .null, .int 0, .int 0, .int 0, .null, .ref mq20, .int 0, .int 0, .long 0, .null, .null, .null, .null, .int 0, .int 0, .int 0, .int 0, .int 0, .int 0, .null, .long 0, .long 0, .long 0, .null, .null, .null, .int 0, .int 0, .int 0, .ref mq21, .null, .null])), (o, .inl (y 2, 1, .inr (.inl (fun _ => 0))))]) (hS : va_S A s.heap H locs) {ls : Array Slot} (hl : lv_has ls 8 [(4, .int 0), (3, .ref o), (2, .ref mo), (1, .ref x), (0, .ref b)]) : W p l e room_1 s m #[Value.ref b] below meth c H locs 84 139562 (lw_Z below #[Value.ref b] s) (F0 m 383 ls []) := by
  obtain ⟨hx, hb, hr, hml, hown, hts, hX, hbl, hlocks, hgv⟩ := C0
  have hts := zz_hts hts
  have hbA : ¬ A b := fun q => absurd hbl (Nat.not_lt.mpr (hAf b q))
  refine lv_aload_n hx hb dL_law_383 rfl (lv_at hl 3 rfl) ?_
  refine lv_aload_n hx hb dL_law_384 rfl (lv_at hl 4 rfl) ?_
  refine lv_iload hx hb dL_law_385 (lv_at hl 0 rfl) ?_
  refine lv_iconst (v := 1) hx hb dL_law_387 (by decide) ?_
  refine lv_iadd hx hb dL_law_388 ?_
  refine lv_topi (fun v1 ev1 => ?_)
  have ev1 : v1 = 1 := ev1.trans (by decide +kernel)
  subst ev1
  refine va_sld hx hb hX hbl hbA hS (by unfold vp_in; decide) dL_law_389 ?_
  refine lv_topi (fun x2 ex2 => ?_)
  refine lv_aload_n hx hb dL_law_390 rfl (lv_at hl 4 rfl) ?_
  refine lv_iload hx hb dL_law_391 (lv_at hl 0 rfl) ?_
  refine lv_iconst (v := 2) hx hb dL_law_393 (by decide) ?_
  refine lv_iadd hx hb dL_law_394 ?_
  refine lv_topi (fun v3 ev3 => ?_)
  have ev3 : v3 = 2 := ev3.trans (by decide +kernel)
  subst ev3
  refine va_sld hx hb hX hbl hbA hS (by unfold vp_in; decide) dL_law_395 ?_
  refine lv_topi (fun x4 ex4 => ?_)
  refine lv_aload_n hx hb dL_law_396 rfl (lv_at hl 4 rfl) ?_
  refine lv_iload hx hb dL_law_397 (lv_at hl 0 rfl) ?_
  refine lv_iconst (v := 3) hx hb dL_law_399 (by decide) ?_
  refine lv_iadd hx hb dL_law_400 ?_
  refine lv_topi (fun v5 ev5 => ?_)
  have ev5 : v5 = 3 := ev5.trans (by decide +kernel)
  subst ev5
  refine va_sld hx hb hX hbl hbA hS (by unfold vp_in; decide) dL_law_401 ?_
  refine lv_topi (fun x6 ex6 => ?_)
  refine lv_aload_n hx hb dL_law_402 rfl (lv_at hl 1 rfl) ?_
  have hPc := hP.sub (ws' := [(x, .inr (15, [.ref aq1, .ref aq3, .ref aq5, .ref aq7, .ref aq9, .ref aq11, .ref aq16, .ref aq19, .ref aq22, .ref aq37, .ref aq55, .ref aq57, .ref aq59, .int 0, .null])), (aq22, .inr (11, [.ref aq23, .ref aq24, .ref aq27, .ref aq29, .ref aq35, .null, .null])), (aq23, .inr (3, [.int 0, .ref e0, .int 0])), (o, .inl (y 2, 1, .inr (.inl (fun _ => 0))))]) [0, 1, 2, 4] rfl
  have hDc := hD.sub (ws' := [(x, .inr (15, [.ref aq1, .ref aq3, .ref aq5, .ref aq7, .ref aq9, .ref aq11, .ref aq16, .ref aq19, .ref aq22, .ref aq37, .ref aq55, .ref aq57, .ref aq59, .int 0, .null])), (aq22, .inr (11, [.ref aq23, .ref aq24, .ref aq27, .ref aq29, .ref aq35, .null, .null])), (aq23, .inr (3, [.int 0, .ref e0, .int 0])), (o, .inl (y 2, 1, .inr (.inl (fun _ => 0))))]) [0, 1, 2, 4] (by decide) rfl
  have hFc := va_free (wc := [(x, .inr (15, [.ref aq1, .ref aq3, .ref aq5, .ref aq7, .ref aq9, .ref aq11, .ref aq16, .ref aq19, .ref aq22, .ref aq37, .ref aq55, .ref aq57, .ref aq59, .int 0, .null])), (aq22, .inr (11, [.ref aq23, .ref aq24, .ref aq27, .ref aq29, .ref aq35, .null, .null])), (aq23, .inr (3, [.int 0, .ref e0, .int 0])), (o, .inl (y 2, 1, .inr (.inl (fun _ => 0))))]) hD hS hA [0, 1, 2, 4] rfl
  refine va_calli (vx_runSW (As := [.ref x, .int x2, .int x4, .int x6, .ref o]) (rest := []) ⟨hx, hb, hml, hown, hts⟩ (c_L_print l hl0 D y H.size x aq22 aq23 ((.ref aq1)) ((.ref aq3)) ((.ref aq5)) ((.ref aq7)) ((.ref aq9)) ((.ref aq11)) ((.ref aq16)) ((.ref aq19)) ((.ref aq37)) ((.ref aq55)) ((.ref aq57)) ((.ref aq59)) ((.int 0)) ((.null)) ((.ref aq24)) ((.ref aq27)) ((.ref aq29)) ((.ref aq35)) ((.null)) ((.null)) ((.int 0)) ((.ref e0)) o ((fun _ => 0)) x2 x4 x6) (vx_cwSW 5 hts gv_law_6_c_L_print_93 rfl rfl rfl (by decide +kernel) ⟨(Nat.le_of_ble_eq_true rfl), (Nat.le_of_ble_eq_true rfl)⟩) (zB.preS hPc hDc hK hN hE hO hT hG hS hFc (List.forall_mem_cons.mpr ⟨List.mem_of_getElem? (i := 7) rfl, (List.forall_mem_cons.mpr ⟨List.mem_of_getElem? (i := 8) rfl, (List.forall_mem_cons.mpr ⟨List.mem_of_getElem? (i := 9) rfl, (List.forall_mem_cons.mpr ⟨List.mem_of_getElem? (i := 10) rfl, (fun _ h => nomatch h)⟩)⟩)⟩)⟩) (fun _ h => nomatch h) (fun _ h => h) (fun _ h => nomatch h)) rfl rfl hl.1 rfl (lv_room (Nat.le_of_ble_eq_true rfl)) dL_law_403 ⟨(Nat.le_of_ble_eq_true rfl), (Nat.le_of_ble_eq_true rfl)⟩) hS (fun q _ h => hFc q h) hFc (fun r7 u t H1 locs ht hvm hw hB hz1 hk1 hS => ?_)
  obtain ⟨hP1, hD1⟩ := hB
  rw [ht] at hP1
  obtain ⟨hP, hD⟩ := va_join (wr := [(mo, .inr (16, [.int 0, .int 0, .ref mq1, .ref mq2, .int 0, .ref mq3, .int 0, .ref mq4, .ref mq5, .ref mq6, .int 0, .ref mq7, .ref mq8, .ref mq9, .int 0, .ref mq10, .ref mq11, .ref mq12, .ref mq13, .ref mq14, .int 0, .ref mq15, .ref mq16, .long 0, .ref mq17, .ref mq18, .ref mq19, .int 0, .null, .int 0, .int 0, .int 0, .null, .int 0, .int 0, .int 0, .null, .ref mq20, .int 0, .int 0, .long 0, .null, .null, .null, .null, .int 0, .int 0, .int 0, .int 0, .int 0, .int 0, .null, .long 0, .long 0, .long 0, .null, .null, .null, .int 0, .int 0, .int 0, .ref mq21, .null, .null]))]) (w1 := [(o, .inl (y 2, 1, .inr (.inl (fun _ => 0))))]) hP hD [0, 1, 2, 4] [3] rfl rfl (by decide) (by decide) hk1 hFc hP1 hD1
  generalize H1 = H at hP hS ⊢
  have hP : va_P D vwCl [(mo, .inr (16, [.int 0, .int 0, .ref mq1, .ref mq2, .int 0, .ref mq3, .int 0, .ref mq4, .ref mq5, .ref mq6, .int 0, .ref mq7, .ref mq8, .ref mq9, .int 0, .ref mq10, .ref mq11, .ref mq12, .ref mq13, .ref mq14, .int 0, .ref mq15, .ref mq16, .long 0, .ref mq17, .ref mq18, .ref mq19, .int 0, .null, .int 0, .int 0, .int 0, .null, .int 0, .int 0, .int 0, .null, .ref mq20, .int 0, .int 0, .long 0, .null, .null, .null, .null, .int 0, .int 0, .int 0, .int 0, .int 0, .int 0, .null, .long 0, .long 0, .long 0, .null, .null, .null, .int 0, .int 0, .int 0, .ref mq21, .null, .null])), (o, .inl (y 2, 1, .inr (.inl (fun _ => 0))))] H := hP
  have hD : va_D A [(mo, .inr (16, [.int 0, .int 0, .ref mq1, .ref mq2, .int 0, .ref mq3, .int 0, .ref mq4, .ref mq5, .ref mq6, .int 0, .ref mq7, .ref mq8, .ref mq9, .int 0, .ref mq10, .ref mq11, .ref mq12, .ref mq13, .ref mq14, .int 0, .ref mq15, .ref mq16, .long 0, .ref mq17, .ref mq18, .ref mq19, .int 0, .null, .int 0, .int 0, .int 0, .null, .int 0, .int 0, .int 0, .null, .ref mq20, .int 0, .int 0, .long 0, .null, .null, .null, .null, .int 0, .int 0, .int 0, .int 0, .int 0, .int 0, .null, .long 0, .long 0, .long 0, .null, .null, .null, .int 0, .int 0, .int 0, .ref mq21, .null, .null])), (o, .inl (y 2, 1, .inr (.inl (fun _ => 0))))] := hD
  have hw : r7 = 1 := hw
  subst hw
  refine lv_istore (lv' := [(5, .int 1), (4, .int 0), (3, .ref o), (2, .ref mo), (1, .ref x), (0, .ref b)]) hx hb dL_law_406 hl (by decide) rfl (fun ls hl => ?_)
  refine lv_aload_n hx hb dL_law_408 rfl (lv_at hl 3 rfl) ?_
  refine lv_aload_n hx hb dL_law_409 rfl (lv_at hl 5 rfl) ?_
  refine lv_iload hx hb dL_law_410 (lv_at hl 1 rfl) ?_
  refine lv_iconst (v := 1) hx hb dL_law_412 (by decide) ?_
  refine lv_iadd hx hb dL_law_413 ?_
  refine lv_topi (fun v8 ev8 => ?_)
  have ev8 : v8 = 1 := ev8.trans (by decide +kernel)
  subst ev8
  refine va_sld hx hb hX hbl hbA hS (by unfold vp_in; decide) dL_law_414 ?_
  refine lv_topi (fun x9 ex9 => ?_)
  have fx9 : x2 = x9 := ex2.trans ex9.symm
  subst fx9
  refine lv_aload_n hx hb dL_law_415 rfl (lv_at hl 5 rfl) ?_
  refine lv_iload hx hb dL_law_416 (lv_at hl 1 rfl) ?_
  refine lv_iconst (v := 2) hx hb dL_law_418 (by decide) ?_
  refine lv_iadd hx hb dL_law_419 ?_
  refine lv_topi (fun v10 ev10 => ?_)
  have ev10 : v10 = 2 := ev10.trans (by decide +kernel)
  subst ev10
  refine va_sld hx hb hX hbl hbA hS (by unfold vp_in; decide) dL_law_420 ?_
  refine lv_topi (fun x11 ex11 => ?_)
  have fx11 : x4 = x11 := ex4.trans ex11.symm
  subst fx11
  refine lv_aload_n hx hb dL_law_421 rfl (lv_at hl 5 rfl) ?_
  refine lv_iload hx hb dL_law_422 (lv_at hl 1 rfl) ?_
  refine lv_iconst (v := 3) hx hb dL_law_424 (by decide) ?_
  refine lv_iadd hx hb dL_law_425 ?_
  refine lv_topi (fun v12 ev12 => ?_)
  have ev12 : v12 = 3 := ev12.trans (by decide +kernel)
  subst ev12
  refine va_sld hx hb hX hbl hbA hS (by unfold vp_in; decide) dL_law_426 ?_
  refine lv_topi (fun x13 ex13 => ?_)
  have fx13 : x6 = x13 := ex6.trans ex13.symm
  subst fx13
  have hPc := hP.sub (ws' := [(mo, .inr (16, [.int 0, .int 0, .ref mq1, .ref mq2, .int 0, .ref mq3, .int 0, .ref mq4, .ref mq5, .ref mq6, .int 0, .ref mq7, .ref mq8, .ref mq9, .int 0, .ref mq10, .ref mq11, .ref mq12, .ref mq13, .ref mq14, .int 0, .ref mq15, .ref mq16, .long 0, .ref mq17, .ref mq18, .ref mq19, .int 0, .null, .int 0, .int 0, .int 0, .null, .int 0, .int 0, .int 0, .null, .ref mq20, .int 0, .int 0, .long 0, .null, .null, .null, .null, .int 0, .int 0, .int 0, .int 0, .int 0, .int 0, .null, .long 0, .long 0, .long 0, .null, .null, .null, .int 0, .int 0, .int 0, .ref mq21, .null, .null]))]) [0] rfl
  have hDc := hD.sub (ws' := [(mo, .inr (16, [.int 0, .int 0, .ref mq1, .ref mq2, .int 0, .ref mq3, .int 0, .ref mq4, .ref mq5, .ref mq6, .int 0, .ref mq7, .ref mq8, .ref mq9, .int 0, .ref mq10, .ref mq11, .ref mq12, .ref mq13, .ref mq14, .int 0, .ref mq15, .ref mq16, .long 0, .ref mq17, .ref mq18, .ref mq19, .int 0, .null, .int 0, .int 0, .int 0, .null, .int 0, .int 0, .int 0, .null, .ref mq20, .int 0, .int 0, .long 0, .null, .null, .null, .null, .int 0, .int 0, .int 0, .int 0, .int 0, .int 0, .null, .long 0, .long 0, .long 0, .null, .null, .null, .int 0, .int 0, .int 0, .ref mq21, .null, .null]))]) [0] (by decide) rfl
  have hFc := va_free (wc := [(mo, .inr (16, [.int 0, .int 0, .ref mq1, .ref mq2, .int 0, .ref mq3, .int 0, .ref mq4, .ref mq5, .ref mq6, .int 0, .ref mq7, .ref mq8, .ref mq9, .int 0, .ref mq10, .ref mq11, .ref mq12, .ref mq13, .ref mq14, .int 0, .ref mq15, .ref mq16, .long 0, .ref mq17, .ref mq18, .ref mq19, .int 0, .null, .int 0, .int 0, .int 0, .null, .int 0, .int 0, .int 0, .null, .ref mq20, .int 0, .int 0, .long 0, .null, .null, .null, .null, .int 0, .int 0, .int 0, .int 0, .int 0, .int 0, .null, .long 0, .long 0, .long 0, .null, .null, .null, .int 0, .int 0, .int 0, .ref mq21, .null, .null]))]) hD hS hA [0] rfl
  refine va_calli (va_runV (As := [.int x2, .int x4, .int x6]) (rest := []) ⟨hx, hb, hml, hown, hts⟩ (c_M_print l D y H.size mo ((.int 0)) ((.int 0)) ((.ref mq1)) ((.ref mq2)) ((.int 0)) ((.ref mq3)) ((.ref mq4)) ((.ref mq5)) ((.ref mq6)) ((.int 0)) ((.ref mq7)) ((.ref mq8)) ((.ref mq9)) ((.int 0)) ((.ref mq10)) ((.ref mq11)) ((.ref mq12)) ((.ref mq13)) ((.ref mq14)) ((.int 0)) ((.ref mq15)) ((.ref mq16)) ((.long 0)) ((.ref mq17)) ((.ref mq18)) ((.ref mq19)) ((.int 0)) ((.null)) ((.int 0)) ((.int 0)) ((.int 0)) ((.null)) ((.int 0)) ((.int 0)) ((.int 0)) ((.null)) ((.ref mq20)) ((.int 0)) ((.int 0)) ((.long 0)) ((.null)) ((.null)) ((.null)) ((.null)) ((.int 0)) ((.int 0)) ((.int 0)) ((.int 0)) ((.int 0)) ((.int 0)) ((.null)) ((.long 0)) ((.long 0)) ((.long 0)) ((.null)) ((.null)) ((.null)) ((.int 0)) ((.int 0)) ((.int 0)) ((.ref mq21)) ((.null)) ((.null)) x2 x4 x6) (cwV 3 hts gv_law_6_c_M_print_96 rfl rfl rfl (by decide +kernel) ⟨(Nat.le_of_ble_eq_true rfl), (Nat.le_of_ble_eq_true rfl)⟩) (zB.preV hPc hDc hK hN hE hO hT hG hS hFc (fun _ h => nomatch h) (fun _ h => nomatch h) (fun _ h => nomatch h) (fun _ h => nomatch h) (va_recv hK hPc (ci := 16) (q0 := 0) rfl rfl)) rfl rfl hl.1 rfl (lv_room (Nat.le_of_ble_eq_true rfl)) dL_law_427 ⟨(Nat.le_of_ble_eq_true rfl), (Nat.le_of_ble_eq_true rfl)⟩) hS (fun q _ h => hFc q h) hFc (fun r14 u t H1 locs ht hvm hw hB hz1 hk1 hS => ?_)
  obtain ⟨hP1, hD1⟩ := hB
  rw [ht] at hP1
  obtain ⟨hP, hD⟩ := va_join (wr := [(o, .inl (y 2, 1, .inr (.inl (fun _ => 0))))]) (w1 := [(mo, .inr (16, [.int 1, .int 0, .ref mq1, .ref mq2, .int 0, .ref mq3, .int 0, .ref mq4, .ref mq5, .ref mq6, .int 0, .ref mq7, .ref mq8, .ref mq9, .int 0, .ref mq10, .ref mq11, .ref mq12, .ref mq13, .ref mq14, .int 0, .ref mq15, .ref mq16, .long 0, .ref mq17, .ref mq18, .ref mq19, .int 0, .null, .int 0, .int 0, .int 0, .null, .int 0, .int 0, .int 0, .null, .ref mq20, .int 0, .int 0, .long 0, .null, .null, .null, .null, .int 0, .int 0, .int 0, .int 0, .int 0, .int 0, .null, .long 0, .long 0, .long 0, .null, .null, .null, .int 0, .int 0, .int 0, .ref mq21, .null, .null]))]) hP hD [0] [1] rfl rfl (by decide) (by decide) hk1 hFc hP1 hD1
  generalize H1 = H at hP hS ⊢
  have hP : va_P D vwCl [(o, .inl (y 2, 1, .inr (.inl (fun _ => 0)))), (mo, .inr (16, [.int 1, .int 0, .ref mq1, .ref mq2, .int 0, .ref mq3, .int 0, .ref mq4, .ref mq5, .ref mq6, .int 0, .ref mq7, .ref mq8, .ref mq9, .int 0, .ref mq10, .ref mq11, .ref mq12, .ref mq13, .ref mq14, .int 0, .ref mq15, .ref mq16, .long 0, .ref mq17, .ref mq18, .ref mq19, .int 0, .null, .int 0, .int 0, .int 0, .null, .int 0, .int 0, .int 0, .null, .ref mq20, .int 0, .int 0, .long 0, .null, .null, .null, .null, .int 0, .int 0, .int 0, .int 0, .int 0, .int 0, .null, .long 0, .long 0, .long 0, .null, .null, .null, .int 0, .int 0, .int 0, .ref mq21, .null, .null]))] H := hP
  have hD : va_D A [(o, .inl (y 2, 1, .inr (.inl (fun _ => 0)))), (mo, .inr (16, [.int 1, .int 0, .ref mq1, .ref mq2, .int 0, .ref mq3, .int 0, .ref mq4, .ref mq5, .ref mq6, .int 0, .ref mq7, .ref mq8, .ref mq9, .int 0, .ref mq10, .ref mq11, .ref mq12, .ref mq13, .ref mq14, .int 0, .ref mq15, .ref mq16, .long 0, .ref mq17, .ref mq18, .ref mq19, .int 0, .null, .int 0, .int 0, .int 0, .null, .int 0, .int 0, .int 0, .null, .ref mq20, .int 0, .int 0, .long 0, .null, .null, .null, .null, .int 0, .int 0, .int 0, .int 0, .int 0, .int 0, .null, .long 0, .long 0, .long 0, .null, .null, .null, .int 0, .int 0, .int 0, .ref mq21, .null, .null]))] := hD
  have hw : r14 = 0 := hw
  subst hw
  refine lv_istore (lv' := [(6, .int 0), (5, .int 1), (4, .int 0), (3, .ref o), (2, .ref mo), (1, .ref x), (0, .ref b)]) hx hb dL_law_430 hl (by decide) rfl (fun ls hl => ?_)
  refine lv_aload_n hx hb dL_law_432 rfl (lv_at hl 4 rfl) ?_
  have hPc := hP.sub (ws' := [(mo, .inr (16, [.int 1, .int 0, .ref mq1, .ref mq2, .int 0, .ref mq3, .int 0, .ref mq4, .ref mq5, .ref mq6, .int 0, .ref mq7, .ref mq8, .ref mq9, .int 0, .ref mq10, .ref mq11, .ref mq12, .ref mq13, .ref mq14, .int 0, .ref mq15, .ref mq16, .long 0, .ref mq17, .ref mq18, .ref mq19, .int 0, .null, .int 0, .int 0, .int 0, .null, .int 0, .int 0, .int 0, .null, .ref mq20, .int 0, .int 0, .long 0, .null, .null, .null, .null, .int 0, .int 0, .int 0, .int 0, .int 0, .int 0, .null, .long 0, .long 0, .long 0, .null, .null, .null, .int 0, .int 0, .int 0, .ref mq21, .null, .null]))]) [1] rfl
  have hDc := hD.sub (ws' := [(mo, .inr (16, [.int 1, .int 0, .ref mq1, .ref mq2, .int 0, .ref mq3, .int 0, .ref mq4, .ref mq5, .ref mq6, .int 0, .ref mq7, .ref mq8, .ref mq9, .int 0, .ref mq10, .ref mq11, .ref mq12, .ref mq13, .ref mq14, .int 0, .ref mq15, .ref mq16, .long 0, .ref mq17, .ref mq18, .ref mq19, .int 0, .null, .int 0, .int 0, .int 0, .null, .int 0, .int 0, .int 0, .null, .ref mq20, .int 0, .int 0, .long 0, .null, .null, .null, .null, .int 0, .int 0, .int 0, .int 0, .int 0, .int 0, .null, .long 0, .long 0, .long 0, .null, .null, .null, .int 0, .int 0, .int 0, .ref mq21, .null, .null]))]) [1] (by decide) rfl
  have hFc := va_free (wc := [(mo, .inr (16, [.int 1, .int 0, .ref mq1, .ref mq2, .int 0, .ref mq3, .int 0, .ref mq4, .ref mq5, .ref mq6, .int 0, .ref mq7, .ref mq8, .ref mq9, .int 0, .ref mq10, .ref mq11, .ref mq12, .ref mq13, .ref mq14, .int 0, .ref mq15, .ref mq16, .long 0, .ref mq17, .ref mq18, .ref mq19, .int 0, .null, .int 0, .int 0, .int 0, .null, .int 0, .int 0, .int 0, .null, .ref mq20, .int 0, .int 0, .long 0, .null, .null, .null, .null, .int 0, .int 0, .int 0, .int 0, .int 0, .int 0, .null, .long 0, .long 0, .long 0, .null, .null, .null, .int 0, .int 0, .int 0, .ref mq21, .null, .null]))]) hD hS hA [1] rfl
  refine va_calli (va_runV (As := []) (rest := []) ⟨hx, hb, hml, hown, hts⟩ (c_M_thrown l D y H.size mo ((.int 0)) ((.ref mq1)) ((.ref mq2)) ((.int 0)) ((.ref mq3)) ((.int 0)) ((.ref mq4)) ((.ref mq5)) ((.ref mq6)) ((.int 0)) ((.ref mq7)) ((.ref mq8)) ((.ref mq9)) ((.int 0)) ((.ref mq10)) ((.ref mq11)) ((.ref mq12)) ((.ref mq13)) ((.ref mq14)) ((.int 0)) ((.ref mq15)) ((.ref mq16)) ((.long 0)) ((.ref mq17)) ((.ref mq18)) ((.ref mq19)) ((.int 0)) ((.null)) ((.int 0)) ((.int 0)) ((.int 0)) ((.null)) ((.int 0)) ((.int 0)) ((.int 0)) ((.null)) ((.ref mq20)) ((.int 0)) ((.int 0)) ((.long 0)) ((.null)) ((.null)) ((.null)) ((.null)) ((.int 0)) ((.int 0)) ((.int 0)) ((.int 0)) ((.int 0)) ((.int 0)) ((.null)) ((.long 0)) ((.long 0)) ((.long 0)) ((.null)) ((.null)) ((.null)) ((.int 0)) ((.int 0)) ((.int 0)) ((.ref mq21)) ((.null)) ((.null)) 1) (cwV 0 hts gv_law_6_c_M_thrown_82 rfl rfl rfl (by decide +kernel) ⟨(Nat.le_of_ble_eq_true rfl), (Nat.le_of_ble_eq_true rfl)⟩) (zB.preV hPc hDc hK hN hE hO hT hG hS hFc (fun _ h => nomatch h) (fun _ h => nomatch h) (fun _ h => nomatch h) (fun _ h => nomatch h) (va_recv hK hPc (ci := 16) (q0 := 0) rfl rfl)) rfl rfl hl.1 rfl (lv_room (Nat.le_of_ble_eq_true rfl)) dL_law_433 ⟨(Nat.le_of_ble_eq_true rfl), (Nat.le_of_ble_eq_true rfl)⟩) hS (fun q _ h => hFc q h) hFc (fun r15 u t H1 locs ht hvm hw hB hz1 hk1 hS => ?_)
  obtain ⟨hP1, hD1⟩ := hB
  rw [ht] at hP1
  obtain ⟨hP, hD⟩ := va_join (wr := [(o, .inl (y 2, 1, .inr (.inl (fun _ => 0))))]) (w1 := [(mo, .inr (16, [.int 1, .int 0, .ref mq1, .ref mq2, .int 0, .ref mq3, .int 0, .ref mq4, .ref mq5, .ref mq6, .int 0, .ref mq7, .ref mq8, .ref mq9, .int 0, .ref mq10, .ref mq11, .ref mq12, .ref mq13, .ref mq14, .int 0, .ref mq15, .ref mq16, .long 0, .ref mq17, .ref mq18, .ref mq19, .int 0, .null, .int 0, .int 0, .int 0, .null, .int 0, .int 0, .int 0, .null, .ref mq20, .int 0, .int 0, .long 0, .null, .null, .null, .null, .int 0, .int 0, .int 0, .int 0, .int 0, .int 0, .null, .long 0, .long 0, .long 0, .null, .null, .null, .int 0, .int 0, .int 0, .ref mq21, .null, .null]))]) hP hD [1] [0] rfl rfl (by decide) (by decide) hk1 hFc hP1 hD1
  generalize H1 = H at hP hS ⊢
  have hP : va_P D vwCl [(o, .inl (y 2, 1, .inr (.inl (fun _ => 0)))), (mo, .inr (16, [.int 1, .int 0, .ref mq1, .ref mq2, .int 0, .ref mq3, .int 0, .ref mq4, .ref mq5, .ref mq6, .int 0, .ref mq7, .ref mq8, .ref mq9, .int 0, .ref mq10, .ref mq11, .ref mq12, .ref mq13, .ref mq14, .int 0, .ref mq15, .ref mq16, .long 0, .ref mq17, .ref mq18, .ref mq19, .int 0, .null, .int 0, .int 0, .int 0, .null, .int 0, .int 0, .int 0, .null, .ref mq20, .int 0, .int 0, .long 0, .null, .null, .null, .null, .int 0, .int 0, .int 0, .int 0, .int 0, .int 0, .null, .long 0, .long 0, .long 0, .null, .null, .null, .int 0, .int 0, .int 0, .ref mq21, .null, .null]))] H := hP
  have hD : va_D A [(o, .inl (y 2, 1, .inr (.inl (fun _ => 0)))), (mo, .inr (16, [.int 1, .int 0, .ref mq1, .ref mq2, .int 0, .ref mq3, .int 0, .ref mq4, .ref mq5, .ref mq6, .int 0, .ref mq7, .ref mq8, .ref mq9, .int 0, .ref mq10, .ref mq11, .ref mq12, .ref mq13, .ref mq14, .int 0, .ref mq15, .ref mq16, .long 0, .ref mq17, .ref mq18, .ref mq19, .int 0, .null, .int 0, .int 0, .int 0, .null, .int 0, .int 0, .int 0, .null, .ref mq20, .int 0, .int 0, .long 0, .null, .null, .null, .null, .int 0, .int 0, .int 0, .int 0, .int 0, .int 0, .null, .long 0, .long 0, .long 0, .null, .null, .null, .int 0, .int 0, .int 0, .ref mq21, .null, .null]))] := hD
  have hw : r15 = 1 := hw
  subst hw
  refine lv_iload hx hb dL_law_436 (lv_at hl 1 rfl) ?_
  refine lv_icmp_eq (tgt := 443) hx hb dL_law_438 (by decide) (fun _ => ?_) (fun c9 => absurd (by decide) c9)
  refine lv_iload hx hb dL_law_443 (lv_at hl 1 rfl) ?_
  refine lv_if_ne (tgt := 460) hx hb dL_law_445 (by decide) (fun _ => ?_) (fun c9 => absurd c9 (by decide))
  refine lv_goto (tgt := 1017) hx hb dL_law_460 (by decide) ?_
  refine lv_iinc (v := 6) (lv' := [(4, .int 6), (6, .int 0), (5, .int 1), (3, .ref o), (2, .ref mo), (1, .ref x), (0, .ref b)]) hx hb dL_law_1017 hl (k := 2) rfl (by decide) (by decide) rfl (fun ls hl => ?_)
  refine lv_goto (tgt := 23) hx hb dL_law_1020 (by decide) ?_
  refine lv_iload hx hb dL_law_23 (lv_at hl 0 rfl) ?_
  refine lv_aload_n hx hb dL_law_25 rfl (lv_at hl 6 rfl) ?_
  refine va_slen hx hb hX hbl hbA hS dL_law_26 ?_
  refine lv_bipush (v := 6) hx hb dL_law_27 (by decide) ?_
  refine lv_isub hx hb dL_law_29 ?_
  refine lv_topi (fun v16 ev16 => ?_)
  have ev16 : v16 = 0 := ev16.trans (by decide +kernel)
  subst ev16
  refine lv_icmp_gt (tgt := 1023) hx hb dL_law_30 (by decide) (fun _ => ?_) (fun c9 => absurd (by decide) c9)
  refine lv_iconst (v := 1) hx hb dL_law_1023 (by decide) ?_
  refine va_forget (fun q hq => hAf _ (hS.2.2 q hq)) ?_
  refine W.widen (k := 600002) (n := 7302232) (Nat.le_of_ble_eq_true rfl) (Nat.le_of_ble_eq_true rfl) ?_
  exact lw_ret hx hb hr hlocks dL_law_1024
set_option maxRecDepth 100000 in
theorem gv_law_7_c_L_usable_97 : GoodIn zt (va_wsS RL 97 yL_usable wz_c_L_usable) := goodIn_app (goodIn_of _ (by decide +kernel)) gl_c_L_usable
set_option maxRecDepth 100000 in
theorem gv_law_7_c_M_usable_100 : GoodIn zt (wsV RL 100 RX12 yX12_usable wz_c_M_usable) := goodIn_app (goodIn_of _ (by decide +kernel)) gl_c_M_usable
set_option maxRecDepth 100000 in
theorem gv_law_7_c_M_thrown_82 : GoodIn zt (wsV RL 82 RX12 yX12_thrown wz_c_M_thrown) := goodIn_app (goodIn_of _ (by decide +kernel)) gl_c_M_thrown
set_option maxHeartbeats 4000000 in
set_option maxRecDepth 100000 in
theorem law_7 {p : Program} {l : Launch} {e : Env} {s : State} {m : MethodId} {below : List Frame} {meth : Method} {c : Code} {b : Nat} {xs : Nat → Int32} (hl0 : l.stackTraces = false) (C0 : lw_At p s m meth c b 6 xs) {A : Nat → Prop} (hA : ∀ q : Nat, s.heap.size ≤ q → A q) (hAf : ∀ q : Nat, A q → s.heap.size ≤ q) {D : va_G} {y : Nat → ClassId} {e0 e1 e2 e3 e4 sa0 sa1 sa2 sa3 sa4 sa5 sa6 sa7 sa8 sa9 sa10 sa11 st0 st1 st2 st3 st4 st5 st6 st7 st8 st9 st10 st11 : Nat} (hK : va_K D vwCl (zT y) s) (hN : zN zL s) (hE : zE (zEL e0 e1 e2 e3 e4) A s s.heap) (hO : zAO s) (hT : zQ zTh A s s.heap) (hG : zG (zGL e1 e2 e3 e4 sa0 sa1 sa2 sa3 sa4 sa5 sa6 sa7 sa8 sa9 sa10 sa11 st0 st1 st2 st3 st4 st5 st6 st7 st8 st9 st10 st11) A s s.heap) {o x mo aq1 aq3 aq5 aq7 aq9 mq1 mq2 mq3 mq4 mq5 mq6 mq7 mq8 mq9 aq11 aq16 aq19 aq22 aq23 aq24 aq27 aq29 aq35 aq37 aq55 aq57 aq59 mq10 mq11 mq12 mq13 mq14 mq15 mq16 mq17 mq18 mq19 mq20 mq21 : Nat} {H : Heap} {locs : List Loc} (hP : va_P D vwCl [(x, .inr (15, [.ref aq1, .ref aq3, .ref aq5, .ref aq7, .ref aq9, .ref aq11, .ref aq16, .ref aq19, .ref aq22, .ref aq37, .ref aq55, .ref aq57, .ref aq59, .int 0, .null])), (aq22, .inr (11, [.ref aq23, .ref aq24, .ref aq27, .ref aq29, .ref aq35, .null, .null])), (aq23, .inr (3, [.int 0, .ref e0, .int 0])), (mo, .inr (16, [.int 0, .int 0, .ref mq1, .ref mq2, .int 0, .ref mq3, .int 0, .ref mq4, .ref mq5, .ref mq6, .int 0, .ref mq7, .ref mq8, .ref mq9, .int 0, .ref mq10, .ref mq11, .ref mq12, .ref mq13, .ref mq14, .int 0, .ref mq15, .ref mq16, .long 0, .ref mq17, .ref mq18, .ref mq19, .int 0, .null, .int 0, .int 0, .int 0, .null, .int 0, .int 0, .int 0, .null, .ref mq20, .int 0, .int 0, .long 0, .null, .null, .null, .null, .int 0, .int 0, .int 0, .int 0, .int 0, .int 0, .null, .long 0, .long 0, .long 0, .null, .null, .null, .int 0, .int 0, .int 0, .ref mq21, .null, .null])), (o, .inl (y 2, 1, .inr (.inl (fun _ => 0))))] H) (hD : va_D A [(x, .inr (15, [.ref aq1, .ref aq3, .ref aq5, .ref aq7, .ref aq9, .ref aq11, .ref aq16, .ref aq19, .ref aq22, .ref aq37, .ref aq55, .ref aq57, .ref aq59, .int 0, .null])), (aq22, .inr (11, [.ref aq23, .ref aq24, .ref aq27, .ref aq29, .ref aq35, .null, .null])), (aq23, .inr (3, [.int 0, .ref e0, .int 0])), (mo, .inr (16, [.int 0, .int 0, .ref mq1, .ref mq2, .int 0, .ref mq3, .int 0, .ref mq4, .ref mq5, .ref mq6, .int 0, .ref mq7, .ref mq8, .ref mq9, .int 0, .ref mq10, .ref mq11, .ref mq12, .ref mq13, .ref mq14, .int 0, .ref mq15, .ref mq16, .long 0, .ref mq17, .ref mq18, .ref mq19, .int 0, .null, .int 0, .int 0, .int 0, .null, .int 0, .int 0, .int 0, .null, .ref mq20, .int 0, .int 0, .long 0, .null, .null, .null, .null, .int 0, .int 0, .int 0, .int 0, .int 0, .int 0, .null, .long 0, .long 0, .long 0, .null, .null, .null, .int 0, .int 0, .int 0, .ref mq21, .null, .null])), (o, .inl (y 2, 1, .inr (.inl (fun _ => 0))))]) (hS : va_S A s.heap H locs) {ls : Array Slot} (hl : lv_has ls 8 [(4, .int 0), (3, .ref o), (2, .ref mo), (1, .ref x), (0, .ref b)]) : W p l e room_1 s m #[Value.ref b] below meth c H locs 84 139562 (lw_Z below #[Value.ref b] s) (F0 m 463 ls []) := by
  obtain ⟨hx, hb, hr, hml, hown, hts, hX, hbl, hlocks, hgv⟩ := C0
  have hts := zz_hts hts
  have hbA : ¬ A b := fun q => absurd hbl (Nat.not_lt.mpr (hAf b q))
  refine lv_aload_n hx hb dL_law_463 rfl (lv_at hl 3 rfl) ?_
  refine lv_aload_n hx hb dL_law_464 rfl (lv_at hl 4 rfl) ?_
  refine lv_iload hx hb dL_law_465 (lv_at hl 0 rfl) ?_
  refine lv_iconst (v := 1) hx hb dL_law_467 (by decide) ?_
  refine lv_iadd hx hb dL_law_468 ?_
  refine lv_topi (fun v1 ev1 => ?_)
  have ev1 : v1 = 1 := ev1.trans (by decide +kernel)
  subst ev1
  refine va_sld hx hb hX hbl hbA hS (by unfold vp_in; decide) dL_law_469 ?_
  refine lv_topi (fun x2 ex2 => ?_)
  refine lv_aload_n hx hb dL_law_470 rfl (lv_at hl 4 rfl) ?_
  refine lv_iload hx hb dL_law_471 (lv_at hl 0 rfl) ?_
  refine lv_iconst (v := 2) hx hb dL_law_473 (by decide) ?_
  refine lv_iadd hx hb dL_law_474 ?_
  refine lv_topi (fun v3 ev3 => ?_)
  have ev3 : v3 = 2 := ev3.trans (by decide +kernel)
  subst ev3
  refine va_sld hx hb hX hbl hbA hS (by unfold vp_in; decide) dL_law_475 ?_
  refine lv_topi (fun x4 ex4 => ?_)
  refine lv_aload_n hx hb dL_law_476 rfl (lv_at hl 4 rfl) ?_
  refine lv_iload hx hb dL_law_477 (lv_at hl 0 rfl) ?_
  refine lv_iconst (v := 3) hx hb dL_law_479 (by decide) ?_
  refine lv_iadd hx hb dL_law_480 ?_
  refine lv_topi (fun v5 ev5 => ?_)
  have ev5 : v5 = 3 := ev5.trans (by decide +kernel)
  subst ev5
  refine va_sld hx hb hX hbl hbA hS (by unfold vp_in; decide) dL_law_481 ?_
  refine lv_topi (fun x6 ex6 => ?_)
  refine lv_i2l hx hb dL_law_482 rfl ?_
  refine lv_topl (fun z7 ez7 => ?_)
  refine lv_bipush (v := 32) hx hb dL_law_483 (by decide) ?_
  refine lv_lshl hx hb dL_law_485 rfl ?_
  refine lv_topl (fun z8 ez8 => ?_)
  refine lv_aload_n hx hb dL_law_486 rfl (lv_at hl 4 rfl) ?_
  refine lv_iload hx hb dL_law_487 (lv_at hl 0 rfl) ?_
  refine lv_iconst (v := 4) hx hb dL_law_489 (by decide) ?_
  refine lv_iadd hx hb dL_law_490 ?_
  refine lv_topi (fun v9 ev9 => ?_)
  have ev9 : v9 = 4 := ev9.trans (by decide +kernel)
  subst ev9
  refine va_sld hx hb hX hbl hbA hS (by unfold vp_in; decide) dL_law_491 ?_
  refine lv_topi (fun x10 ex10 => ?_)
  refine lv_i2l hx hb dL_law_492 rfl ?_
  refine lv_topl (fun z11 ez11 => ?_)
  refine lv_ldc2 (v := 4294967295) hx hb hown (hts (.constantLong RL 60 4294967295) (by decide +kernel)) dL_law_493 ?_
  refine lv_land hx hb dL_law_496 ?_
  refine lv_topl (fun z12 ez12 => ?_)
  refine lv_lor hx hb dL_law_497 ?_
  refine lv_topl (fun z13 ez13 => ?_)
  refine lv_aload_n hx hb dL_law_498 rfl (lv_at hl 1 rfl) ?_
  have hPc := hP.sub (ws' := [(x, .inr (15, [.ref aq1, .ref aq3, .ref aq5, .ref aq7, .ref aq9, .ref aq11, .ref aq16, .ref aq19, .ref aq22, .ref aq37, .ref aq55, .ref aq57, .ref aq59, .int 0, .null])), (aq22, .inr (11, [.ref aq23, .ref aq24, .ref aq27, .ref aq29, .ref aq35, .null, .null])), (aq23, .inr (3, [.int 0, .ref e0, .int 0])), (o, .inl (y 2, 1, .inr (.inl (fun _ => 0))))]) [0, 1, 2, 4] rfl
  have hDc := hD.sub (ws' := [(x, .inr (15, [.ref aq1, .ref aq3, .ref aq5, .ref aq7, .ref aq9, .ref aq11, .ref aq16, .ref aq19, .ref aq22, .ref aq37, .ref aq55, .ref aq57, .ref aq59, .int 0, .null])), (aq22, .inr (11, [.ref aq23, .ref aq24, .ref aq27, .ref aq29, .ref aq35, .null, .null])), (aq23, .inr (3, [.int 0, .ref e0, .int 0])), (o, .inl (y 2, 1, .inr (.inl (fun _ => 0))))]) [0, 1, 2, 4] (by decide) rfl
  have hFc := va_free (wc := [(x, .inr (15, [.ref aq1, .ref aq3, .ref aq5, .ref aq7, .ref aq9, .ref aq11, .ref aq16, .ref aq19, .ref aq22, .ref aq37, .ref aq55, .ref aq57, .ref aq59, .int 0, .null])), (aq22, .inr (11, [.ref aq23, .ref aq24, .ref aq27, .ref aq29, .ref aq35, .null, .null])), (aq23, .inr (3, [.int 0, .ref e0, .int 0])), (o, .inl (y 2, 1, .inr (.inl (fun _ => 0))))]) hD hS hA [0, 1, 2, 4] rfl
  refine va_calli (vx_runSW (As := [.ref x, .int x2, .int x4, .long z13, .ref o]) (rest := []) ⟨hx, hb, hml, hown, hts⟩ (c_L_usable l hl0 D y H.size x aq22 aq23 ((.ref aq1)) ((.ref aq3)) ((.ref aq5)) ((.ref aq7)) ((.ref aq9)) ((.ref aq11)) ((.ref aq16)) ((.ref aq19)) ((.ref aq37)) ((.ref aq55)) ((.ref aq57)) ((.ref aq59)) ((.int 0)) ((.null)) ((.ref aq24)) ((.ref aq27)) ((.ref aq29)) ((.ref aq35)) ((.null)) ((.null)) ((.int 0)) ((.ref e0)) o ((fun _ => 0)) x2 x4 z13) (vx_cwSW 5 hts gv_law_7_c_L_usable_97 rfl rfl rfl (by decide +kernel) ⟨(Nat.le_of_ble_eq_true rfl), (Nat.le_of_ble_eq_true rfl)⟩) (zB.preS hPc hDc hK hN hE hO hT hG hS hFc (List.forall_mem_cons.mpr ⟨List.mem_of_getElem? (i := 7) rfl, (List.forall_mem_cons.mpr ⟨List.mem_of_getElem? (i := 8) rfl, (List.forall_mem_cons.mpr ⟨List.mem_of_getElem? (i := 9) rfl, (List.forall_mem_cons.mpr ⟨List.mem_of_getElem? (i := 10) rfl, (fun _ h => nomatch h)⟩)⟩)⟩)⟩) (fun _ h => nomatch h) (fun _ h => h) (fun _ h => nomatch h)) rfl rfl hl.1 rfl (lv_room (Nat.le_of_ble_eq_true rfl)) dL_law_499 ⟨(Nat.le_of_ble_eq_true rfl), (Nat.le_of_ble_eq_true rfl)⟩) hS (fun q _ h => hFc q h) hFc (fun r14 u t H1 locs ht hvm hw hB hz1 hk1 hS => ?_)
  obtain ⟨hP1, hD1⟩ := hB
  rw [ht] at hP1
  obtain ⟨hP, hD⟩ := va_join (wr := [(mo, .inr (16, [.int 0, .int 0, .ref mq1, .ref mq2, .int 0, .ref mq3, .int 0, .ref mq4, .ref mq5, .ref mq6, .int 0, .ref mq7, .ref mq8, .ref mq9, .int 0, .ref mq10, .ref mq11, .ref mq12, .ref mq13, .ref mq14, .int 0, .ref mq15, .ref mq16, .long 0, .ref mq17, .ref mq18, .ref mq19, .int 0, .null, .int 0, .int 0, .int 0, .null, .int 0, .int 0, .int 0, .null, .ref mq20, .int 0, .int 0, .long 0, .null, .null, .null, .null, .int 0, .int 0, .int 0, .int 0, .int 0, .int 0, .null, .long 0, .long 0, .long 0, .null, .null, .null, .int 0, .int 0, .int 0, .ref mq21, .null, .null]))]) (w1 := [(o, .inl (y 2, 1, .inr (.inl (fun _ => 0))))]) hP hD [0, 1, 2, 4] [3] rfl rfl (by decide) (by decide) hk1 hFc hP1 hD1
  generalize H1 = H at hP hS ⊢
  have hP : va_P D vwCl [(mo, .inr (16, [.int 0, .int 0, .ref mq1, .ref mq2, .int 0, .ref mq3, .int 0, .ref mq4, .ref mq5, .ref mq6, .int 0, .ref mq7, .ref mq8, .ref mq9, .int 0, .ref mq10, .ref mq11, .ref mq12, .ref mq13, .ref mq14, .int 0, .ref mq15, .ref mq16, .long 0, .ref mq17, .ref mq18, .ref mq19, .int 0, .null, .int 0, .int 0, .int 0, .null, .int 0, .int 0, .int 0, .null, .ref mq20, .int 0, .int 0, .long 0, .null, .null, .null, .null, .int 0, .int 0, .int 0, .int 0, .int 0, .int 0, .null, .long 0, .long 0, .long 0, .null, .null, .null, .int 0, .int 0, .int 0, .ref mq21, .null, .null])), (o, .inl (y 2, 1, .inr (.inl (fun _ => 0))))] H := hP
  have hD : va_D A [(mo, .inr (16, [.int 0, .int 0, .ref mq1, .ref mq2, .int 0, .ref mq3, .int 0, .ref mq4, .ref mq5, .ref mq6, .int 0, .ref mq7, .ref mq8, .ref mq9, .int 0, .ref mq10, .ref mq11, .ref mq12, .ref mq13, .ref mq14, .int 0, .ref mq15, .ref mq16, .long 0, .ref mq17, .ref mq18, .ref mq19, .int 0, .null, .int 0, .int 0, .int 0, .null, .int 0, .int 0, .int 0, .null, .ref mq20, .int 0, .int 0, .long 0, .null, .null, .null, .null, .int 0, .int 0, .int 0, .int 0, .int 0, .int 0, .null, .long 0, .long 0, .long 0, .null, .null, .null, .int 0, .int 0, .int 0, .ref mq21, .null, .null])), (o, .inl (y 2, 1, .inr (.inl (fun _ => 0))))] := hD
  have hw : r14 = 1 := hw
  subst hw
  refine lv_istore (lv' := [(5, .int 1), (4, .int 0), (3, .ref o), (2, .ref mo), (1, .ref x), (0, .ref b)]) hx hb dL_law_502 hl (by decide) rfl (fun ls hl => ?_)
  refine lv_aload_n hx hb dL_law_504 rfl (lv_at hl 3 rfl) ?_
  refine lv_aload_n hx hb dL_law_505 rfl (lv_at hl 5 rfl) ?_
  refine lv_iload hx hb dL_law_506 (lv_at hl 1 rfl) ?_
  refine lv_iconst (v := 1) hx hb dL_law_508 (by decide) ?_
  refine lv_iadd hx hb dL_law_509 ?_
  refine lv_topi (fun v15 ev15 => ?_)
  have ev15 : v15 = 1 := ev15.trans (by decide +kernel)
  subst ev15
  refine va_sld hx hb hX hbl hbA hS (by unfold vp_in; decide) dL_law_510 ?_
  refine lv_topi (fun x16 ex16 => ?_)
  have fx16 : x2 = x16 := ex2.trans ex16.symm
  subst fx16
  refine lv_aload_n hx hb dL_law_511 rfl (lv_at hl 5 rfl) ?_
  refine lv_iload hx hb dL_law_512 (lv_at hl 1 rfl) ?_
  refine lv_iconst (v := 2) hx hb dL_law_514 (by decide) ?_
  refine lv_iadd hx hb dL_law_515 ?_
  refine lv_topi (fun v17 ev17 => ?_)
  have ev17 : v17 = 2 := ev17.trans (by decide +kernel)
  subst ev17
  refine va_sld hx hb hX hbl hbA hS (by unfold vp_in; decide) dL_law_516 ?_
  refine lv_topi (fun x18 ex18 => ?_)
  have fx18 : x4 = x18 := ex4.trans ex18.symm
  subst fx18
  refine lv_aload_n hx hb dL_law_517 rfl (lv_at hl 5 rfl) ?_
  refine lv_iload hx hb dL_law_518 (lv_at hl 1 rfl) ?_
  refine lv_iconst (v := 3) hx hb dL_law_520 (by decide) ?_
  refine lv_iadd hx hb dL_law_521 ?_
  refine lv_topi (fun v19 ev19 => ?_)
  have ev19 : v19 = 3 := ev19.trans (by decide +kernel)
  subst ev19
  refine va_sld hx hb hX hbl hbA hS (by unfold vp_in; decide) dL_law_522 ?_
  refine lv_topi (fun x20 ex20 => ?_)
  have fx20 : x6 = x20 := ex6.trans ex20.symm
  subst fx20
  refine lv_i2l hx hb dL_law_523 rfl ?_
  refine lv_topl (fun z21 ez21 => ?_)
  have fz21 : z7 = z21 := ez7.trans ez21.symm
  subst fz21
  refine lv_bipush (v := 32) hx hb dL_law_524 (by decide) ?_
  refine lv_lshl hx hb dL_law_526 rfl ?_
  refine lv_topl (fun z22 ez22 => ?_)
  have fz22 : z8 = z22 := ez8.trans ez22.symm
  subst fz22
  refine lv_aload_n hx hb dL_law_527 rfl (lv_at hl 5 rfl) ?_
  refine lv_iload hx hb dL_law_528 (lv_at hl 1 rfl) ?_
  refine lv_iconst (v := 4) hx hb dL_law_530 (by decide) ?_
  refine lv_iadd hx hb dL_law_531 ?_
  refine lv_topi (fun v23 ev23 => ?_)
  have ev23 : v23 = 4 := ev23.trans (by decide +kernel)
  subst ev23
  refine va_sld hx hb hX hbl hbA hS (by unfold vp_in; decide) dL_law_532 ?_
  refine lv_topi (fun x24 ex24 => ?_)
  have fx24 : x10 = x24 := ex10.trans ex24.symm
  subst fx24
  refine lv_i2l hx hb dL_law_533 rfl ?_
  refine lv_topl (fun z25 ez25 => ?_)
  have fz25 : z11 = z25 := ez11.trans ez25.symm
  subst fz25
  refine lv_ldc2 (v := 4294967295) hx hb hown (hts (.constantLong RL 60 4294967295) (by decide +kernel)) dL_law_534 ?_
  refine lv_land hx hb dL_law_537 ?_
  refine lv_topl (fun z26 ez26 => ?_)
  have fz26 : z12 = z26 := ez12.trans ez26.symm
  subst fz26
  refine lv_lor hx hb dL_law_538 ?_
  refine lv_topl (fun z27 ez27 => ?_)
  have fz27 : z13 = z27 := ez13.trans ez27.symm
  subst fz27
  have hPc := hP.sub (ws' := [(mo, .inr (16, [.int 0, .int 0, .ref mq1, .ref mq2, .int 0, .ref mq3, .int 0, .ref mq4, .ref mq5, .ref mq6, .int 0, .ref mq7, .ref mq8, .ref mq9, .int 0, .ref mq10, .ref mq11, .ref mq12, .ref mq13, .ref mq14, .int 0, .ref mq15, .ref mq16, .long 0, .ref mq17, .ref mq18, .ref mq19, .int 0, .null, .int 0, .int 0, .int 0, .null, .int 0, .int 0, .int 0, .null, .ref mq20, .int 0, .int 0, .long 0, .null, .null, .null, .null, .int 0, .int 0, .int 0, .int 0, .int 0, .int 0, .null, .long 0, .long 0, .long 0, .null, .null, .null, .int 0, .int 0, .int 0, .ref mq21, .null, .null]))]) [0] rfl
  have hDc := hD.sub (ws' := [(mo, .inr (16, [.int 0, .int 0, .ref mq1, .ref mq2, .int 0, .ref mq3, .int 0, .ref mq4, .ref mq5, .ref mq6, .int 0, .ref mq7, .ref mq8, .ref mq9, .int 0, .ref mq10, .ref mq11, .ref mq12, .ref mq13, .ref mq14, .int 0, .ref mq15, .ref mq16, .long 0, .ref mq17, .ref mq18, .ref mq19, .int 0, .null, .int 0, .int 0, .int 0, .null, .int 0, .int 0, .int 0, .null, .ref mq20, .int 0, .int 0, .long 0, .null, .null, .null, .null, .int 0, .int 0, .int 0, .int 0, .int 0, .int 0, .null, .long 0, .long 0, .long 0, .null, .null, .null, .int 0, .int 0, .int 0, .ref mq21, .null, .null]))]) [0] (by decide) rfl
  have hFc := va_free (wc := [(mo, .inr (16, [.int 0, .int 0, .ref mq1, .ref mq2, .int 0, .ref mq3, .int 0, .ref mq4, .ref mq5, .ref mq6, .int 0, .ref mq7, .ref mq8, .ref mq9, .int 0, .ref mq10, .ref mq11, .ref mq12, .ref mq13, .ref mq14, .int 0, .ref mq15, .ref mq16, .long 0, .ref mq17, .ref mq18, .ref mq19, .int 0, .null, .int 0, .int 0, .int 0, .null, .int 0, .int 0, .int 0, .null, .ref mq20, .int 0, .int 0, .long 0, .null, .null, .null, .null, .int 0, .int 0, .int 0, .int 0, .int 0, .int 0, .null, .long 0, .long 0, .long 0, .null, .null, .null, .int 0, .int 0, .int 0, .ref mq21, .null, .null]))]) hD hS hA [0] rfl
  refine va_calli (va_runV (As := [.int x2, .int x4, .long z13]) (rest := []) ⟨hx, hb, hml, hown, hts⟩ (c_M_usable l D y H.size mo ((.int 0)) ((.int 0)) ((.ref mq1)) ((.ref mq2)) ((.int 0)) ((.ref mq3)) ((.ref mq4)) ((.ref mq5)) ((.ref mq6)) ((.int 0)) ((.ref mq7)) ((.ref mq8)) ((.ref mq9)) ((.int 0)) ((.ref mq10)) ((.ref mq11)) ((.ref mq12)) ((.ref mq13)) ((.ref mq14)) ((.int 0)) ((.ref mq15)) ((.ref mq16)) ((.long 0)) ((.ref mq17)) ((.ref mq18)) ((.ref mq19)) ((.int 0)) ((.null)) ((.int 0)) ((.int 0)) ((.int 0)) ((.null)) ((.int 0)) ((.int 0)) ((.int 0)) ((.null)) ((.ref mq20)) ((.int 0)) ((.int 0)) ((.long 0)) ((.null)) ((.null)) ((.null)) ((.null)) ((.int 0)) ((.int 0)) ((.int 0)) ((.int 0)) ((.int 0)) ((.int 0)) ((.null)) ((.long 0)) ((.long 0)) ((.long 0)) ((.null)) ((.null)) ((.null)) ((.int 0)) ((.int 0)) ((.int 0)) ((.ref mq21)) ((.null)) ((.null)) x2 x4 z13) (cwV 3 hts gv_law_7_c_M_usable_100 rfl rfl rfl (by decide +kernel) ⟨(Nat.le_of_ble_eq_true rfl), (Nat.le_of_ble_eq_true rfl)⟩) (zB.preV hPc hDc hK hN hE hO hT hG hS hFc (fun _ h => nomatch h) (fun _ h => nomatch h) (fun _ h => nomatch h) (fun _ h => nomatch h) (va_recv hK hPc (ci := 16) (q0 := 0) rfl rfl)) rfl rfl hl.1 rfl (lv_room (Nat.le_of_ble_eq_true rfl)) dL_law_539 ⟨(Nat.le_of_ble_eq_true rfl), (Nat.le_of_ble_eq_true rfl)⟩) hS (fun q _ h => hFc q h) hFc (fun r28 u t H1 locs ht hvm hw hB hz1 hk1 hS => ?_)
  obtain ⟨hP1, hD1⟩ := hB
  rw [ht] at hP1
  obtain ⟨hP, hD⟩ := va_join (wr := [(o, .inl (y 2, 1, .inr (.inl (fun _ => 0))))]) (w1 := [(mo, .inr (16, [.int 1, .int 0, .ref mq1, .ref mq2, .int 0, .ref mq3, .int 0, .ref mq4, .ref mq5, .ref mq6, .int 0, .ref mq7, .ref mq8, .ref mq9, .int 0, .ref mq10, .ref mq11, .ref mq12, .ref mq13, .ref mq14, .int 0, .ref mq15, .ref mq16, .long 0, .ref mq17, .ref mq18, .ref mq19, .int 0, .null, .int 0, .int 0, .int 0, .null, .int 0, .int 0, .int 0, .null, .ref mq20, .int 0, .int 0, .long 0, .null, .null, .null, .null, .int 0, .int 0, .int 0, .int 0, .int 0, .int 0, .null, .long 0, .long 0, .long 0, .null, .null, .null, .int 0, .int 0, .int 0, .ref mq21, .null, .null]))]) hP hD [0] [1] rfl rfl (by decide) (by decide) hk1 hFc hP1 hD1
  generalize H1 = H at hP hS ⊢
  have hP : va_P D vwCl [(o, .inl (y 2, 1, .inr (.inl (fun _ => 0)))), (mo, .inr (16, [.int 1, .int 0, .ref mq1, .ref mq2, .int 0, .ref mq3, .int 0, .ref mq4, .ref mq5, .ref mq6, .int 0, .ref mq7, .ref mq8, .ref mq9, .int 0, .ref mq10, .ref mq11, .ref mq12, .ref mq13, .ref mq14, .int 0, .ref mq15, .ref mq16, .long 0, .ref mq17, .ref mq18, .ref mq19, .int 0, .null, .int 0, .int 0, .int 0, .null, .int 0, .int 0, .int 0, .null, .ref mq20, .int 0, .int 0, .long 0, .null, .null, .null, .null, .int 0, .int 0, .int 0, .int 0, .int 0, .int 0, .null, .long 0, .long 0, .long 0, .null, .null, .null, .int 0, .int 0, .int 0, .ref mq21, .null, .null]))] H := hP
  have hD : va_D A [(o, .inl (y 2, 1, .inr (.inl (fun _ => 0)))), (mo, .inr (16, [.int 1, .int 0, .ref mq1, .ref mq2, .int 0, .ref mq3, .int 0, .ref mq4, .ref mq5, .ref mq6, .int 0, .ref mq7, .ref mq8, .ref mq9, .int 0, .ref mq10, .ref mq11, .ref mq12, .ref mq13, .ref mq14, .int 0, .ref mq15, .ref mq16, .long 0, .ref mq17, .ref mq18, .ref mq19, .int 0, .null, .int 0, .int 0, .int 0, .null, .int 0, .int 0, .int 0, .null, .ref mq20, .int 0, .int 0, .long 0, .null, .null, .null, .null, .int 0, .int 0, .int 0, .int 0, .int 0, .int 0, .null, .long 0, .long 0, .long 0, .null, .null, .null, .int 0, .int 0, .int 0, .ref mq21, .null, .null]))] := hD
  have hw : r28 = 0 := hw
  subst hw
  refine lv_istore (lv' := [(6, .int 0), (5, .int 1), (4, .int 0), (3, .ref o), (2, .ref mo), (1, .ref x), (0, .ref b)]) hx hb dL_law_542 hl (by decide) rfl (fun ls hl => ?_)
  refine lv_aload_n hx hb dL_law_544 rfl (lv_at hl 4 rfl) ?_
  have hPc := hP.sub (ws' := [(mo, .inr (16, [.int 1, .int 0, .ref mq1, .ref mq2, .int 0, .ref mq3, .int 0, .ref mq4, .ref mq5, .ref mq6, .int 0, .ref mq7, .ref mq8, .ref mq9, .int 0, .ref mq10, .ref mq11, .ref mq12, .ref mq13, .ref mq14, .int 0, .ref mq15, .ref mq16, .long 0, .ref mq17, .ref mq18, .ref mq19, .int 0, .null, .int 0, .int 0, .int 0, .null, .int 0, .int 0, .int 0, .null, .ref mq20, .int 0, .int 0, .long 0, .null, .null, .null, .null, .int 0, .int 0, .int 0, .int 0, .int 0, .int 0, .null, .long 0, .long 0, .long 0, .null, .null, .null, .int 0, .int 0, .int 0, .ref mq21, .null, .null]))]) [1] rfl
  have hDc := hD.sub (ws' := [(mo, .inr (16, [.int 1, .int 0, .ref mq1, .ref mq2, .int 0, .ref mq3, .int 0, .ref mq4, .ref mq5, .ref mq6, .int 0, .ref mq7, .ref mq8, .ref mq9, .int 0, .ref mq10, .ref mq11, .ref mq12, .ref mq13, .ref mq14, .int 0, .ref mq15, .ref mq16, .long 0, .ref mq17, .ref mq18, .ref mq19, .int 0, .null, .int 0, .int 0, .int 0, .null, .int 0, .int 0, .int 0, .null, .ref mq20, .int 0, .int 0, .long 0, .null, .null, .null, .null, .int 0, .int 0, .int 0, .int 0, .int 0, .int 0, .null, .long 0, .long 0, .long 0, .null, .null, .null, .int 0, .int 0, .int 0, .ref mq21, .null, .null]))]) [1] (by decide) rfl
  have hFc := va_free (wc := [(mo, .inr (16, [.int 1, .int 0, .ref mq1, .ref mq2, .int 0, .ref mq3, .int 0, .ref mq4, .ref mq5, .ref mq6, .int 0, .ref mq7, .ref mq8, .ref mq9, .int 0, .ref mq10, .ref mq11, .ref mq12, .ref mq13, .ref mq14, .int 0, .ref mq15, .ref mq16, .long 0, .ref mq17, .ref mq18, .ref mq19, .int 0, .null, .int 0, .int 0, .int 0, .null, .int 0, .int 0, .int 0, .null, .ref mq20, .int 0, .int 0, .long 0, .null, .null, .null, .null, .int 0, .int 0, .int 0, .int 0, .int 0, .int 0, .null, .long 0, .long 0, .long 0, .null, .null, .null, .int 0, .int 0, .int 0, .ref mq21, .null, .null]))]) hD hS hA [1] rfl
  refine va_calli (va_runV (As := []) (rest := []) ⟨hx, hb, hml, hown, hts⟩ (c_M_thrown l D y H.size mo ((.int 0)) ((.ref mq1)) ((.ref mq2)) ((.int 0)) ((.ref mq3)) ((.int 0)) ((.ref mq4)) ((.ref mq5)) ((.ref mq6)) ((.int 0)) ((.ref mq7)) ((.ref mq8)) ((.ref mq9)) ((.int 0)) ((.ref mq10)) ((.ref mq11)) ((.ref mq12)) ((.ref mq13)) ((.ref mq14)) ((.int 0)) ((.ref mq15)) ((.ref mq16)) ((.long 0)) ((.ref mq17)) ((.ref mq18)) ((.ref mq19)) ((.int 0)) ((.null)) ((.int 0)) ((.int 0)) ((.int 0)) ((.null)) ((.int 0)) ((.int 0)) ((.int 0)) ((.null)) ((.ref mq20)) ((.int 0)) ((.int 0)) ((.long 0)) ((.null)) ((.null)) ((.null)) ((.null)) ((.int 0)) ((.int 0)) ((.int 0)) ((.int 0)) ((.int 0)) ((.int 0)) ((.null)) ((.long 0)) ((.long 0)) ((.long 0)) ((.null)) ((.null)) ((.null)) ((.int 0)) ((.int 0)) ((.int 0)) ((.ref mq21)) ((.null)) ((.null)) 1) (cwV 0 hts gv_law_7_c_M_thrown_82 rfl rfl rfl (by decide +kernel) ⟨(Nat.le_of_ble_eq_true rfl), (Nat.le_of_ble_eq_true rfl)⟩) (zB.preV hPc hDc hK hN hE hO hT hG hS hFc (fun _ h => nomatch h) (fun _ h => nomatch h) (fun _ h => nomatch h) (fun _ h => nomatch h) (va_recv hK hPc (ci := 16) (q0 := 0) rfl rfl)) rfl rfl hl.1 rfl (lv_room (Nat.le_of_ble_eq_true rfl)) dL_law_545 ⟨(Nat.le_of_ble_eq_true rfl), (Nat.le_of_ble_eq_true rfl)⟩) hS (fun q _ h => hFc q h) hFc (fun r29 u t H1 locs ht hvm hw hB hz1 hk1 hS => ?_)
  obtain ⟨hP1, hD1⟩ := hB
  rw [ht] at hP1
  obtain ⟨hP, hD⟩ := va_join (wr := [(o, .inl (y 2, 1, .inr (.inl (fun _ => 0))))]) (w1 := [(mo, .inr (16, [.int 1, .int 0, .ref mq1, .ref mq2, .int 0, .ref mq3, .int 0, .ref mq4, .ref mq5, .ref mq6, .int 0, .ref mq7, .ref mq8, .ref mq9, .int 0, .ref mq10, .ref mq11, .ref mq12, .ref mq13, .ref mq14, .int 0, .ref mq15, .ref mq16, .long 0, .ref mq17, .ref mq18, .ref mq19, .int 0, .null, .int 0, .int 0, .int 0, .null, .int 0, .int 0, .int 0, .null, .ref mq20, .int 0, .int 0, .long 0, .null, .null, .null, .null, .int 0, .int 0, .int 0, .int 0, .int 0, .int 0, .null, .long 0, .long 0, .long 0, .null, .null, .null, .int 0, .int 0, .int 0, .ref mq21, .null, .null]))]) hP hD [1] [0] rfl rfl (by decide) (by decide) hk1 hFc hP1 hD1
  generalize H1 = H at hP hS ⊢
  have hP : va_P D vwCl [(o, .inl (y 2, 1, .inr (.inl (fun _ => 0)))), (mo, .inr (16, [.int 1, .int 0, .ref mq1, .ref mq2, .int 0, .ref mq3, .int 0, .ref mq4, .ref mq5, .ref mq6, .int 0, .ref mq7, .ref mq8, .ref mq9, .int 0, .ref mq10, .ref mq11, .ref mq12, .ref mq13, .ref mq14, .int 0, .ref mq15, .ref mq16, .long 0, .ref mq17, .ref mq18, .ref mq19, .int 0, .null, .int 0, .int 0, .int 0, .null, .int 0, .int 0, .int 0, .null, .ref mq20, .int 0, .int 0, .long 0, .null, .null, .null, .null, .int 0, .int 0, .int 0, .int 0, .int 0, .int 0, .null, .long 0, .long 0, .long 0, .null, .null, .null, .int 0, .int 0, .int 0, .ref mq21, .null, .null]))] H := hP
  have hD : va_D A [(o, .inl (y 2, 1, .inr (.inl (fun _ => 0)))), (mo, .inr (16, [.int 1, .int 0, .ref mq1, .ref mq2, .int 0, .ref mq3, .int 0, .ref mq4, .ref mq5, .ref mq6, .int 0, .ref mq7, .ref mq8, .ref mq9, .int 0, .ref mq10, .ref mq11, .ref mq12, .ref mq13, .ref mq14, .int 0, .ref mq15, .ref mq16, .long 0, .ref mq17, .ref mq18, .ref mq19, .int 0, .null, .int 0, .int 0, .int 0, .null, .int 0, .int 0, .int 0, .null, .ref mq20, .int 0, .int 0, .long 0, .null, .null, .null, .null, .int 0, .int 0, .int 0, .int 0, .int 0, .int 0, .null, .long 0, .long 0, .long 0, .null, .null, .null, .int 0, .int 0, .int 0, .ref mq21, .null, .null]))] := hD
  have hw : r29 = 1 := hw
  subst hw
  refine lv_iload hx hb dL_law_548 (lv_at hl 1 rfl) ?_
  refine lv_icmp_eq (tgt := 555) hx hb dL_law_550 (by decide) (fun _ => ?_) (fun c9 => absurd (by decide) c9)
  refine lv_iload hx hb dL_law_555 (lv_at hl 1 rfl) ?_
  refine lv_if_ne (tgt := 572) hx hb dL_law_557 (by decide) (fun _ => ?_) (fun c9 => absurd c9 (by decide))
  refine lv_goto (tgt := 1017) hx hb dL_law_572 (by decide) ?_
  refine lv_iinc (v := 6) (lv' := [(4, .int 6), (6, .int 0), (5, .int 1), (3, .ref o), (2, .ref mo), (1, .ref x), (0, .ref b)]) hx hb dL_law_1017 hl (k := 2) rfl (by decide) (by decide) rfl (fun ls hl => ?_)
  refine lv_goto (tgt := 23) hx hb dL_law_1020 (by decide) ?_
  refine lv_iload hx hb dL_law_23 (lv_at hl 0 rfl) ?_
  refine lv_aload_n hx hb dL_law_25 rfl (lv_at hl 6 rfl) ?_
  refine va_slen hx hb hX hbl hbA hS dL_law_26 ?_
  refine lv_bipush (v := 6) hx hb dL_law_27 (by decide) ?_
  refine lv_isub hx hb dL_law_29 ?_
  refine lv_topi (fun v30 ev30 => ?_)
  have ev30 : v30 = 0 := ev30.trans (by decide +kernel)
  subst ev30
  refine lv_icmp_gt (tgt := 1023) hx hb dL_law_30 (by decide) (fun _ => ?_) (fun c9 => absurd (by decide) c9)
  refine lv_iconst (v := 1) hx hb dL_law_1023 (by decide) ?_
  refine va_forget (fun q hq => hAf _ (hS.2.2 q hq)) ?_
  refine W.widen (k := 600002) (n := 7302232) (Nat.le_of_ble_eq_true rfl) (Nat.le_of_ble_eq_true rfl) ?_
  exact lw_ret hx hb hr hlocks dL_law_1024
set_option maxRecDepth 100000 in
theorem gv_law_8_c_L_seal_101 : GoodIn zt (va_wsS RL 101 yL_seal wz_c_L_seal) := goodIn_app (goodIn_of _ (by decide +kernel)) gl_c_L_seal
set_option maxRecDepth 100000 in
theorem gv_law_8_c_M_seal_104 : GoodIn zt (wsV RL 104 RX12 yX12_seal wz_c_M_seal) := goodIn_app (goodIn_of _ (by decide +kernel)) gl_c_M_seal
set_option maxRecDepth 100000 in
theorem gv_law_8_c_M_thrown_82 : GoodIn zt (wsV RL 82 RX12 yX12_thrown wz_c_M_thrown) := goodIn_app (goodIn_of _ (by decide +kernel)) gl_c_M_thrown
set_option maxHeartbeats 4000000 in
set_option maxRecDepth 100000 in
theorem law_8 {p : Program} {l : Launch} {e : Env} {s : State} {m : MethodId} {below : List Frame} {meth : Method} {c : Code} {b : Nat} {xs : Nat → Int32} (hl0 : l.stackTraces = false) (C0 : lw_At p s m meth c b 6 xs) {A : Nat → Prop} (hA : ∀ q : Nat, s.heap.size ≤ q → A q) (hAf : ∀ q : Nat, A q → s.heap.size ≤ q) {D : va_G} {y : Nat → ClassId} {e0 e1 e2 e3 e4 sa0 sa1 sa2 sa3 sa4 sa5 sa6 sa7 sa8 sa9 sa10 sa11 st0 st1 st2 st3 st4 st5 st6 st7 st8 st9 st10 st11 : Nat} (hK : va_K D vwCl (zT y) s) (hN : zN zL s) (hE : zE (zEL e0 e1 e2 e3 e4) A s s.heap) (hO : zAO s) (hT : zQ zTh A s s.heap) (hG : zG (zGL e1 e2 e3 e4 sa0 sa1 sa2 sa3 sa4 sa5 sa6 sa7 sa8 sa9 sa10 sa11 st0 st1 st2 st3 st4 st5 st6 st7 st8 st9 st10 st11) A s s.heap) {o x mo aq1 aq3 aq5 aq7 aq9 mq1 mq2 mq3 mq4 mq5 mq6 mq7 mq8 mq9 aq11 aq16 aq19 aq22 aq23 aq24 aq27 aq29 aq35 aq37 aq55 aq57 aq59 mq10 mq11 mq12 mq13 mq14 mq15 mq16 mq17 mq18 mq19 mq20 mq21 : Nat} {H : Heap} {locs : List Loc} (hP : va_P D vwCl [(x, .inr (15, [.ref aq1, .ref aq3, .ref aq5, .ref aq7, .ref aq9, .ref aq11, .ref aq16, .ref aq19, .ref aq22, .ref aq37, .ref aq55, .ref aq57, .ref aq59, .int 0, .null])), (aq22, .inr (11, [.ref aq23, .ref aq24, .ref aq27, .ref aq29, .ref aq35, .null, .null])), (aq23, .inr (3, [.int 0, .ref e0, .int 0])), (mo, .inr (16, [.int 0, .int 0, .ref mq1, .ref mq2, .int 0, .ref mq3, .int 0, .ref mq4, .ref mq5, .ref mq6, .int 0, .ref mq7, .ref mq8, .ref mq9, .int 0, .ref mq10, .ref mq11, .ref mq12, .ref mq13, .ref mq14, .int 0, .ref mq15, .ref mq16, .long 0, .ref mq17, .ref mq18, .ref mq19, .int 0, .null, .int 0, .int 0, .int 0, .null, .int 0, .int 0, .int 0, .null, .ref mq20, .int 0, .int 0, .long 0, .null, .null, .null, .null, .int 0, .int 0, .int 0, .int 0, .int 0, .int 0, .null, .long 0, .long 0, .long 0, .null, .null, .null, .int 0, .int 0, .int 0, .ref mq21, .null, .null])), (o, .inl (y 2, 1, .inr (.inl (fun _ => 0))))] H) (hD : va_D A [(x, .inr (15, [.ref aq1, .ref aq3, .ref aq5, .ref aq7, .ref aq9, .ref aq11, .ref aq16, .ref aq19, .ref aq22, .ref aq37, .ref aq55, .ref aq57, .ref aq59, .int 0, .null])), (aq22, .inr (11, [.ref aq23, .ref aq24, .ref aq27, .ref aq29, .ref aq35, .null, .null])), (aq23, .inr (3, [.int 0, .ref e0, .int 0])), (mo, .inr (16, [.int 0, .int 0, .ref mq1, .ref mq2, .int 0, .ref mq3, .int 0, .ref mq4, .ref mq5, .ref mq6, .int 0, .ref mq7, .ref mq8, .ref mq9, .int 0, .ref mq10, .ref mq11, .ref mq12, .ref mq13, .ref mq14, .int 0, .ref mq15, .ref mq16, .long 0, .ref mq17, .ref mq18, .ref mq19, .int 0, .null, .int 0, .int 0, .int 0, .null, .int 0, .int 0, .int 0, .null, .ref mq20, .int 0, .int 0, .long 0, .null, .null, .null, .null, .int 0, .int 0, .int 0, .int 0, .int 0, .int 0, .null, .long 0, .long 0, .long 0, .null, .null, .null, .int 0, .int 0, .int 0, .ref mq21, .null, .null])), (o, .inl (y 2, 1, .inr (.inl (fun _ => 0))))]) (hS : va_S A s.heap H locs) {ls : Array Slot} (hl : lv_has ls 8 [(4, .int 0), (3, .ref o), (2, .ref mo), (1, .ref x), (0, .ref b)]) : W p l e room_1 s m #[Value.ref b] below meth c H locs 84 139562 (lw_Z below #[Value.ref b] s) (F0 m 575 ls []) := by
  obtain ⟨hx, hb, hr, hml, hown, hts, hX, hbl, hlocks, hgv⟩ := C0
  have hts := zz_hts hts
  have hbA : ¬ A b := fun q => absurd hbl (Nat.not_lt.mpr (hAf b q))
  refine lv_aload_n hx hb dL_law_575 rfl (lv_at hl 3 rfl) ?_
  refine lv_aload_n hx hb dL_law_576 rfl (lv_at hl 4 rfl) ?_
  refine lv_iload hx hb dL_law_577 (lv_at hl 0 rfl) ?_
  refine lv_iconst (v := 1) hx hb dL_law_579 (by decide) ?_
  refine lv_iadd hx hb dL_law_580 ?_
  refine lv_topi (fun v1 ev1 => ?_)
  have ev1 : v1 = 1 := ev1.trans (by decide +kernel)
  subst ev1
  refine va_sld hx hb hX hbl hbA hS (by unfold vp_in; decide) dL_law_581 ?_
  refine lv_topi (fun x2 ex2 => ?_)
  refine lv_aload_n hx hb dL_law_582 rfl (lv_at hl 4 rfl) ?_
  refine lv_iload hx hb dL_law_583 (lv_at hl 0 rfl) ?_
  refine lv_iconst (v := 2) hx hb dL_law_585 (by decide) ?_
  refine lv_iadd hx hb dL_law_586 ?_
  refine lv_topi (fun v3 ev3 => ?_)
  have ev3 : v3 = 2 := ev3.trans (by decide +kernel)
  subst ev3
  refine va_sld hx hb hX hbl hbA hS (by unfold vp_in; decide) dL_law_587 ?_
  refine lv_topi (fun x4 ex4 => ?_)
  refine lv_aload_n hx hb dL_law_588 rfl (lv_at hl 4 rfl) ?_
  refine lv_iload hx hb dL_law_589 (lv_at hl 0 rfl) ?_
  refine lv_iconst (v := 3) hx hb dL_law_591 (by decide) ?_
  refine lv_iadd hx hb dL_law_592 ?_
  refine lv_topi (fun v5 ev5 => ?_)
  have ev5 : v5 = 3 := ev5.trans (by decide +kernel)
  subst ev5
  refine va_sld hx hb hX hbl hbA hS (by unfold vp_in; decide) dL_law_593 ?_
  refine lv_topi (fun x6 ex6 => ?_)
  refine lv_aload_n hx hb dL_law_594 rfl (lv_at hl 4 rfl) ?_
  refine lv_iload hx hb dL_law_595 (lv_at hl 0 rfl) ?_
  refine lv_iconst (v := 4) hx hb dL_law_597 (by decide) ?_
  refine lv_iadd hx hb dL_law_598 ?_
  refine lv_topi (fun v7 ev7 => ?_)
  have ev7 : v7 = 4 := ev7.trans (by decide +kernel)
  subst ev7
  refine va_sld hx hb hX hbl hbA hS (by unfold vp_in; decide) dL_law_599 ?_
  refine lv_topi (fun x8 ex8 => ?_)
  refine lv_i2l hx hb dL_law_600 rfl ?_
  refine lv_topl (fun z9 ez9 => ?_)
  refine lv_bipush (v := 32) hx hb dL_law_601 (by decide) ?_
  refine lv_lshl hx hb dL_law_603 rfl ?_
  refine lv_topl (fun z10 ez10 => ?_)
  refine lv_aload_n hx hb dL_law_604 rfl (lv_at hl 4 rfl) ?_
  refine lv_iload hx hb dL_law_605 (lv_at hl 0 rfl) ?_
  refine lv_iconst (v := 5) hx hb dL_law_607 (by decide) ?_
  refine lv_iadd hx hb dL_law_608 ?_
  refine lv_topi (fun v11 ev11 => ?_)
  have ev11 : v11 = 5 := ev11.trans (by decide +kernel)
  subst ev11
  refine va_sld hx hb hX hbl hbA hS (by unfold vp_in; decide) dL_law_609 ?_
  refine lv_topi (fun x12 ex12 => ?_)
  refine lv_i2l hx hb dL_law_610 rfl ?_
  refine lv_topl (fun z13 ez13 => ?_)
  refine lv_ldc2 (v := 4294967295) hx hb hown (hts (.constantLong RL 60 4294967295) (by decide +kernel)) dL_law_611 ?_
  refine lv_land hx hb dL_law_614 ?_
  refine lv_topl (fun z14 ez14 => ?_)
  refine lv_lor hx hb dL_law_615 ?_
  refine lv_topl (fun z15 ez15 => ?_)
  refine lv_aload_n hx hb dL_law_616 rfl (lv_at hl 1 rfl) ?_
  have hPc := hP.sub (ws' := [(x, .inr (15, [.ref aq1, .ref aq3, .ref aq5, .ref aq7, .ref aq9, .ref aq11, .ref aq16, .ref aq19, .ref aq22, .ref aq37, .ref aq55, .ref aq57, .ref aq59, .int 0, .null])), (aq22, .inr (11, [.ref aq23, .ref aq24, .ref aq27, .ref aq29, .ref aq35, .null, .null])), (aq23, .inr (3, [.int 0, .ref e0, .int 0])), (o, .inl (y 2, 1, .inr (.inl (fun _ => 0))))]) [0, 1, 2, 4] rfl
  have hDc := hD.sub (ws' := [(x, .inr (15, [.ref aq1, .ref aq3, .ref aq5, .ref aq7, .ref aq9, .ref aq11, .ref aq16, .ref aq19, .ref aq22, .ref aq37, .ref aq55, .ref aq57, .ref aq59, .int 0, .null])), (aq22, .inr (11, [.ref aq23, .ref aq24, .ref aq27, .ref aq29, .ref aq35, .null, .null])), (aq23, .inr (3, [.int 0, .ref e0, .int 0])), (o, .inl (y 2, 1, .inr (.inl (fun _ => 0))))]) [0, 1, 2, 4] (by decide) rfl
  have hFc := va_free (wc := [(x, .inr (15, [.ref aq1, .ref aq3, .ref aq5, .ref aq7, .ref aq9, .ref aq11, .ref aq16, .ref aq19, .ref aq22, .ref aq37, .ref aq55, .ref aq57, .ref aq59, .int 0, .null])), (aq22, .inr (11, [.ref aq23, .ref aq24, .ref aq27, .ref aq29, .ref aq35, .null, .null])), (aq23, .inr (3, [.int 0, .ref e0, .int 0])), (o, .inl (y 2, 1, .inr (.inl (fun _ => 0))))]) hD hS hA [0, 1, 2, 4] rfl
  refine va_calli (vx_runSW (As := [.ref x, .int x2, .int x4, .int x6, .long z15, .ref o]) (rest := []) ⟨hx, hb, hml, hown, hts⟩ (c_L_seal l hl0 D y H.size x aq22 aq23 ((.ref aq1)) ((.ref aq3)) ((.ref aq5)) ((.ref aq7)) ((.ref aq9)) ((.ref aq11)) ((.ref aq16)) ((.ref aq19)) ((.ref aq37)) ((.ref aq55)) ((.ref aq57)) ((.ref aq59)) ((.int 0)) ((.null)) ((.ref aq24)) ((.ref aq27)) ((.ref aq29)) ((.ref aq35)) ((.null)) ((.null)) ((.int 0)) ((.ref e0)) o ((fun _ => 0)) x2 x4 x6 z15) (vx_cwSW 6 hts gv_law_8_c_L_seal_101 rfl rfl rfl (by decide +kernel) ⟨(Nat.le_of_ble_eq_true rfl), (Nat.le_of_ble_eq_true rfl)⟩) (zB.preS hPc hDc hK hN hE hO hT hG hS hFc (List.forall_mem_cons.mpr ⟨List.mem_of_getElem? (i := 7) rfl, (List.forall_mem_cons.mpr ⟨List.mem_of_getElem? (i := 8) rfl, (List.forall_mem_cons.mpr ⟨List.mem_of_getElem? (i := 9) rfl, (List.forall_mem_cons.mpr ⟨List.mem_of_getElem? (i := 10) rfl, (fun _ h => nomatch h)⟩)⟩)⟩)⟩) (fun _ h => nomatch h) (fun _ h => h) (fun _ h => nomatch h)) rfl rfl hl.1 rfl (lv_room (Nat.le_of_ble_eq_true rfl)) dL_law_617 ⟨(Nat.le_of_ble_eq_true rfl), (Nat.le_of_ble_eq_true rfl)⟩) hS (fun q _ h => hFc q h) hFc (fun r16 u t H1 locs ht hvm hw hB hz1 hk1 hS => ?_)
  obtain ⟨hP1, hD1⟩ := hB
  rw [ht] at hP1
  obtain ⟨hP, hD⟩ := va_join (wr := [(mo, .inr (16, [.int 0, .int 0, .ref mq1, .ref mq2, .int 0, .ref mq3, .int 0, .ref mq4, .ref mq5, .ref mq6, .int 0, .ref mq7, .ref mq8, .ref mq9, .int 0, .ref mq10, .ref mq11, .ref mq12, .ref mq13, .ref mq14, .int 0, .ref mq15, .ref mq16, .long 0, .ref mq17, .ref mq18, .ref mq19, .int 0, .null, .int 0, .int 0, .int 0, .null, .int 0, .int 0, .int 0, .null, .ref mq20, .int 0, .int 0, .long 0, .null, .null, .null, .null, .int 0, .int 0, .int 0, .int 0, .int 0, .int 0, .null, .long 0, .long 0, .long 0, .null, .null, .null, .int 0, .int 0, .int 0, .ref mq21, .null, .null]))]) (w1 := [(o, .inl (y 2, 1, .inr (.inl (fun _ => 0))))]) hP hD [0, 1, 2, 4] [3] rfl rfl (by decide) (by decide) hk1 hFc hP1 hD1
  generalize H1 = H at hP hS ⊢
  have hP : va_P D vwCl [(mo, .inr (16, [.int 0, .int 0, .ref mq1, .ref mq2, .int 0, .ref mq3, .int 0, .ref mq4, .ref mq5, .ref mq6, .int 0, .ref mq7, .ref mq8, .ref mq9, .int 0, .ref mq10, .ref mq11, .ref mq12, .ref mq13, .ref mq14, .int 0, .ref mq15, .ref mq16, .long 0, .ref mq17, .ref mq18, .ref mq19, .int 0, .null, .int 0, .int 0, .int 0, .null, .int 0, .int 0, .int 0, .null, .ref mq20, .int 0, .int 0, .long 0, .null, .null, .null, .null, .int 0, .int 0, .int 0, .int 0, .int 0, .int 0, .null, .long 0, .long 0, .long 0, .null, .null, .null, .int 0, .int 0, .int 0, .ref mq21, .null, .null])), (o, .inl (y 2, 1, .inr (.inl (fun _ => 0))))] H := hP
  have hD : va_D A [(mo, .inr (16, [.int 0, .int 0, .ref mq1, .ref mq2, .int 0, .ref mq3, .int 0, .ref mq4, .ref mq5, .ref mq6, .int 0, .ref mq7, .ref mq8, .ref mq9, .int 0, .ref mq10, .ref mq11, .ref mq12, .ref mq13, .ref mq14, .int 0, .ref mq15, .ref mq16, .long 0, .ref mq17, .ref mq18, .ref mq19, .int 0, .null, .int 0, .int 0, .int 0, .null, .int 0, .int 0, .int 0, .null, .ref mq20, .int 0, .int 0, .long 0, .null, .null, .null, .null, .int 0, .int 0, .int 0, .int 0, .int 0, .int 0, .null, .long 0, .long 0, .long 0, .null, .null, .null, .int 0, .int 0, .int 0, .ref mq21, .null, .null])), (o, .inl (y 2, 1, .inr (.inl (fun _ => 0))))] := hD
  have hw : r16 = 1 := hw
  subst hw
  refine lv_istore (lv' := [(5, .int 1), (4, .int 0), (3, .ref o), (2, .ref mo), (1, .ref x), (0, .ref b)]) hx hb dL_law_620 hl (by decide) rfl (fun ls hl => ?_)
  refine lv_aload_n hx hb dL_law_622 rfl (lv_at hl 3 rfl) ?_
  refine lv_aload_n hx hb dL_law_623 rfl (lv_at hl 5 rfl) ?_
  refine lv_iload hx hb dL_law_624 (lv_at hl 1 rfl) ?_
  refine lv_iconst (v := 1) hx hb dL_law_626 (by decide) ?_
  refine lv_iadd hx hb dL_law_627 ?_
  refine lv_topi (fun v17 ev17 => ?_)
  have ev17 : v17 = 1 := ev17.trans (by decide +kernel)
  subst ev17
  refine va_sld hx hb hX hbl hbA hS (by unfold vp_in; decide) dL_law_628 ?_
  refine lv_topi (fun x18 ex18 => ?_)
  have fx18 : x2 = x18 := ex2.trans ex18.symm
  subst fx18
  refine lv_aload_n hx hb dL_law_629 rfl (lv_at hl 5 rfl) ?_
  refine lv_iload hx hb dL_law_630 (lv_at hl 1 rfl) ?_
  refine lv_iconst (v := 2) hx hb dL_law_632 (by decide) ?_
  refine lv_iadd hx hb dL_law_633 ?_
  refine lv_topi (fun v19 ev19 => ?_)
  have ev19 : v19 = 2 := ev19.trans (by decide +kernel)
  subst ev19
  refine va_sld hx hb hX hbl hbA hS (by unfold vp_in; decide) dL_law_634 ?_
  refine lv_topi (fun x20 ex20 => ?_)
  have fx20 : x4 = x20 := ex4.trans ex20.symm
  subst fx20
  refine lv_aload_n hx hb dL_law_635 rfl (lv_at hl 5 rfl) ?_
  refine lv_iload hx hb dL_law_636 (lv_at hl 1 rfl) ?_
  refine lv_iconst (v := 3) hx hb dL_law_638 (by decide) ?_
  refine lv_iadd hx hb dL_law_639 ?_
  refine lv_topi (fun v21 ev21 => ?_)
  have ev21 : v21 = 3 := ev21.trans (by decide +kernel)
  subst ev21
  refine va_sld hx hb hX hbl hbA hS (by unfold vp_in; decide) dL_law_640 ?_
  refine lv_topi (fun x22 ex22 => ?_)
  have fx22 : x6 = x22 := ex6.trans ex22.symm
  subst fx22
  refine lv_aload_n hx hb dL_law_641 rfl (lv_at hl 5 rfl) ?_
  refine lv_iload hx hb dL_law_642 (lv_at hl 1 rfl) ?_
  refine lv_iconst (v := 4) hx hb dL_law_644 (by decide) ?_
  refine lv_iadd hx hb dL_law_645 ?_
  refine lv_topi (fun v23 ev23 => ?_)
  have ev23 : v23 = 4 := ev23.trans (by decide +kernel)
  subst ev23
  refine va_sld hx hb hX hbl hbA hS (by unfold vp_in; decide) dL_law_646 ?_
  refine lv_topi (fun x24 ex24 => ?_)
  have fx24 : x8 = x24 := ex8.trans ex24.symm
  subst fx24
  refine lv_i2l hx hb dL_law_647 rfl ?_
  refine lv_topl (fun z25 ez25 => ?_)
  have fz25 : z9 = z25 := ez9.trans ez25.symm
  subst fz25
  refine lv_bipush (v := 32) hx hb dL_law_648 (by decide) ?_
  refine lv_lshl hx hb dL_law_650 rfl ?_
  refine lv_topl (fun z26 ez26 => ?_)
  have fz26 : z10 = z26 := ez10.trans ez26.symm
  subst fz26
  refine lv_aload_n hx hb dL_law_651 rfl (lv_at hl 5 rfl) ?_
  refine lv_iload hx hb dL_law_652 (lv_at hl 1 rfl) ?_
  refine lv_iconst (v := 5) hx hb dL_law_654 (by decide) ?_
  refine lv_iadd hx hb dL_law_655 ?_
  refine lv_topi (fun v27 ev27 => ?_)
  have ev27 : v27 = 5 := ev27.trans (by decide +kernel)
  subst ev27
  refine va_sld hx hb hX hbl hbA hS (by unfold vp_in; decide) dL_law_656 ?_
  refine lv_topi (fun x28 ex28 => ?_)
  have fx28 : x12 = x28 := ex12.trans ex28.symm
  subst fx28
  refine lv_i2l hx hb dL_law_657 rfl ?_
  refine lv_topl (fun z29 ez29 => ?_)
  have fz29 : z13 = z29 := ez13.trans ez29.symm
  subst fz29
  refine lv_ldc2 (v := 4294967295) hx hb hown (hts (.constantLong RL 60 4294967295) (by decide +kernel)) dL_law_658 ?_
  refine lv_land hx hb dL_law_661 ?_
  refine lv_topl (fun z30 ez30 => ?_)
  have fz30 : z14 = z30 := ez14.trans ez30.symm
  subst fz30
  refine lv_lor hx hb dL_law_662 ?_
  refine lv_topl (fun z31 ez31 => ?_)
  have fz31 : z15 = z31 := ez15.trans ez31.symm
  subst fz31
  have hPc := hP.sub (ws' := [(mo, .inr (16, [.int 0, .int 0, .ref mq1, .ref mq2, .int 0, .ref mq3, .int 0, .ref mq4, .ref mq5, .ref mq6, .int 0, .ref mq7, .ref mq8, .ref mq9, .int 0, .ref mq10, .ref mq11, .ref mq12, .ref mq13, .ref mq14, .int 0, .ref mq15, .ref mq16, .long 0, .ref mq17, .ref mq18, .ref mq19, .int 0, .null, .int 0, .int 0, .int 0, .null, .int 0, .int 0, .int 0, .null, .ref mq20, .int 0, .int 0, .long 0, .null, .null, .null, .null, .int 0, .int 0, .int 0, .int 0, .int 0, .int 0, .null, .long 0, .long 0, .long 0, .null, .null, .null, .int 0, .int 0, .int 0, .ref mq21, .null, .null]))]) [0] rfl
  have hDc := hD.sub (ws' := [(mo, .inr (16, [.int 0, .int 0, .ref mq1, .ref mq2, .int 0, .ref mq3, .int 0, .ref mq4, .ref mq5, .ref mq6, .int 0, .ref mq7, .ref mq8, .ref mq9, .int 0, .ref mq10, .ref mq11, .ref mq12, .ref mq13, .ref mq14, .int 0, .ref mq15, .ref mq16, .long 0, .ref mq17, .ref mq18, .ref mq19, .int 0, .null, .int 0, .int 0, .int 0, .null, .int 0, .int 0, .int 0, .null, .ref mq20, .int 0, .int 0, .long 0, .null, .null, .null, .null, .int 0, .int 0, .int 0, .int 0, .int 0, .int 0, .null, .long 0, .long 0, .long 0, .null, .null, .null, .int 0, .int 0, .int 0, .ref mq21, .null, .null]))]) [0] (by decide) rfl
  have hFc := va_free (wc := [(mo, .inr (16, [.int 0, .int 0, .ref mq1, .ref mq2, .int 0, .ref mq3, .int 0, .ref mq4, .ref mq5, .ref mq6, .int 0, .ref mq7, .ref mq8, .ref mq9, .int 0, .ref mq10, .ref mq11, .ref mq12, .ref mq13, .ref mq14, .int 0, .ref mq15, .ref mq16, .long 0, .ref mq17, .ref mq18, .ref mq19, .int 0, .null, .int 0, .int 0, .int 0, .null, .int 0, .int 0, .int 0, .null, .ref mq20, .int 0, .int 0, .long 0, .null, .null, .null, .null, .int 0, .int 0, .int 0, .int 0, .int 0, .int 0, .null, .long 0, .long 0, .long 0, .null, .null, .null, .int 0, .int 0, .int 0, .ref mq21, .null, .null]))]) hD hS hA [0] rfl
  refine va_calli (va_runV (As := [.int x2, .int x4, .int x6, .long z15]) (rest := []) ⟨hx, hb, hml, hown, hts⟩ (c_M_seal l D y H.size mo ((.int 0)) ((.int 0)) ((.ref mq1)) ((.ref mq2)) ((.int 0)) ((.ref mq3)) ((.ref mq4)) ((.ref mq5)) ((.ref mq6)) ((.int 0)) ((.ref mq7)) ((.ref mq8)) ((.ref mq9)) ((.int 0)) ((.ref mq10)) ((.ref mq11)) ((.ref mq12)) ((.ref mq13)) ((.ref mq14)) ((.int 0)) ((.ref mq15)) ((.ref mq16)) ((.long 0)) ((.ref mq17)) ((.ref mq18)) ((.ref mq19)) ((.int 0)) ((.null)) ((.int 0)) ((.int 0)) ((.int 0)) ((.null)) ((.int 0)) ((.int 0)) ((.int 0)) ((.null)) ((.ref mq20)) ((.int 0)) ((.int 0)) ((.long 0)) ((.null)) ((.null)) ((.null)) ((.null)) ((.int 0)) ((.int 0)) ((.int 0)) ((.int 0)) ((.int 0)) ((.int 0)) ((.null)) ((.long 0)) ((.long 0)) ((.long 0)) ((.null)) ((.null)) ((.null)) ((.int 0)) ((.int 0)) ((.int 0)) ((.ref mq21)) ((.null)) ((.null)) x2 x4 x6 z15) (cwV 4 hts gv_law_8_c_M_seal_104 rfl rfl rfl (by decide +kernel) ⟨(Nat.le_of_ble_eq_true rfl), (Nat.le_of_ble_eq_true rfl)⟩) (zB.preV hPc hDc hK hN hE hO hT hG hS hFc (fun _ h => nomatch h) (fun _ h => nomatch h) (fun _ h => nomatch h) (fun _ h => nomatch h) (va_recv hK hPc (ci := 16) (q0 := 0) rfl rfl)) rfl rfl hl.1 rfl (lv_room (Nat.le_of_ble_eq_true rfl)) dL_law_663 ⟨(Nat.le_of_ble_eq_true rfl), (Nat.le_of_ble_eq_true rfl)⟩) hS (fun q _ h => hFc q h) hFc (fun r32 u t H1 locs ht hvm hw hB hz1 hk1 hS => ?_)
  obtain ⟨hP1, hD1⟩ := hB
  rw [ht] at hP1
  obtain ⟨hP, hD⟩ := va_join (wr := [(o, .inl (y 2, 1, .inr (.inl (fun _ => 0))))]) (w1 := [(mo, .inr (16, [.int 1, .int 0, .ref mq1, .ref mq2, .int 0, .ref mq3, .int 0, .ref mq4, .ref mq5, .ref mq6, .int 0, .ref mq7, .ref mq8, .ref mq9, .int 0, .ref mq10, .ref mq11, .ref mq12, .ref mq13, .ref mq14, .int 0, .ref mq15, .ref mq16, .long 0, .ref mq17, .ref mq18, .ref mq19, .int 0, .null, .int 0, .int 0, .int 0, .null, .int 0, .int 0, .int 0, .null, .ref mq20, .int 0, .int 0, .long 0, .null, .null, .null, .null, .int 0, .int 0, .int 0, .int 0, .int 0, .int 0, .null, .long 0, .long 0, .long 0, .null, .null, .null, .int 0, .int 0, .int 0, .ref mq21, .null, .null]))]) hP hD [0] [1] rfl rfl (by decide) (by decide) hk1 hFc hP1 hD1
  generalize H1 = H at hP hS ⊢
  have hP : va_P D vwCl [(o, .inl (y 2, 1, .inr (.inl (fun _ => 0)))), (mo, .inr (16, [.int 1, .int 0, .ref mq1, .ref mq2, .int 0, .ref mq3, .int 0, .ref mq4, .ref mq5, .ref mq6, .int 0, .ref mq7, .ref mq8, .ref mq9, .int 0, .ref mq10, .ref mq11, .ref mq12, .ref mq13, .ref mq14, .int 0, .ref mq15, .ref mq16, .long 0, .ref mq17, .ref mq18, .ref mq19, .int 0, .null, .int 0, .int 0, .int 0, .null, .int 0, .int 0, .int 0, .null, .ref mq20, .int 0, .int 0, .long 0, .null, .null, .null, .null, .int 0, .int 0, .int 0, .int 0, .int 0, .int 0, .null, .long 0, .long 0, .long 0, .null, .null, .null, .int 0, .int 0, .int 0, .ref mq21, .null, .null]))] H := hP
  have hD : va_D A [(o, .inl (y 2, 1, .inr (.inl (fun _ => 0)))), (mo, .inr (16, [.int 1, .int 0, .ref mq1, .ref mq2, .int 0, .ref mq3, .int 0, .ref mq4, .ref mq5, .ref mq6, .int 0, .ref mq7, .ref mq8, .ref mq9, .int 0, .ref mq10, .ref mq11, .ref mq12, .ref mq13, .ref mq14, .int 0, .ref mq15, .ref mq16, .long 0, .ref mq17, .ref mq18, .ref mq19, .int 0, .null, .int 0, .int 0, .int 0, .null, .int 0, .int 0, .int 0, .null, .ref mq20, .int 0, .int 0, .long 0, .null, .null, .null, .null, .int 0, .int 0, .int 0, .int 0, .int 0, .int 0, .null, .long 0, .long 0, .long 0, .null, .null, .null, .int 0, .int 0, .int 0, .ref mq21, .null, .null]))] := hD
  have hw : r32 = 0 := hw
  subst hw
  refine lv_istore (lv' := [(6, .int 0), (5, .int 1), (4, .int 0), (3, .ref o), (2, .ref mo), (1, .ref x), (0, .ref b)]) hx hb dL_law_666 hl (by decide) rfl (fun ls hl => ?_)
  refine lv_aload_n hx hb dL_law_668 rfl (lv_at hl 4 rfl) ?_
  have hPc := hP.sub (ws' := [(mo, .inr (16, [.int 1, .int 0, .ref mq1, .ref mq2, .int 0, .ref mq3, .int 0, .ref mq4, .ref mq5, .ref mq6, .int 0, .ref mq7, .ref mq8, .ref mq9, .int 0, .ref mq10, .ref mq11, .ref mq12, .ref mq13, .ref mq14, .int 0, .ref mq15, .ref mq16, .long 0, .ref mq17, .ref mq18, .ref mq19, .int 0, .null, .int 0, .int 0, .int 0, .null, .int 0, .int 0, .int 0, .null, .ref mq20, .int 0, .int 0, .long 0, .null, .null, .null, .null, .int 0, .int 0, .int 0, .int 0, .int 0, .int 0, .null, .long 0, .long 0, .long 0, .null, .null, .null, .int 0, .int 0, .int 0, .ref mq21, .null, .null]))]) [1] rfl
  have hDc := hD.sub (ws' := [(mo, .inr (16, [.int 1, .int 0, .ref mq1, .ref mq2, .int 0, .ref mq3, .int 0, .ref mq4, .ref mq5, .ref mq6, .int 0, .ref mq7, .ref mq8, .ref mq9, .int 0, .ref mq10, .ref mq11, .ref mq12, .ref mq13, .ref mq14, .int 0, .ref mq15, .ref mq16, .long 0, .ref mq17, .ref mq18, .ref mq19, .int 0, .null, .int 0, .int 0, .int 0, .null, .int 0, .int 0, .int 0, .null, .ref mq20, .int 0, .int 0, .long 0, .null, .null, .null, .null, .int 0, .int 0, .int 0, .int 0, .int 0, .int 0, .null, .long 0, .long 0, .long 0, .null, .null, .null, .int 0, .int 0, .int 0, .ref mq21, .null, .null]))]) [1] (by decide) rfl
  have hFc := va_free (wc := [(mo, .inr (16, [.int 1, .int 0, .ref mq1, .ref mq2, .int 0, .ref mq3, .int 0, .ref mq4, .ref mq5, .ref mq6, .int 0, .ref mq7, .ref mq8, .ref mq9, .int 0, .ref mq10, .ref mq11, .ref mq12, .ref mq13, .ref mq14, .int 0, .ref mq15, .ref mq16, .long 0, .ref mq17, .ref mq18, .ref mq19, .int 0, .null, .int 0, .int 0, .int 0, .null, .int 0, .int 0, .int 0, .null, .ref mq20, .int 0, .int 0, .long 0, .null, .null, .null, .null, .int 0, .int 0, .int 0, .int 0, .int 0, .int 0, .null, .long 0, .long 0, .long 0, .null, .null, .null, .int 0, .int 0, .int 0, .ref mq21, .null, .null]))]) hD hS hA [1] rfl
  refine va_calli (va_runV (As := []) (rest := []) ⟨hx, hb, hml, hown, hts⟩ (c_M_thrown l D y H.size mo ((.int 0)) ((.ref mq1)) ((.ref mq2)) ((.int 0)) ((.ref mq3)) ((.int 0)) ((.ref mq4)) ((.ref mq5)) ((.ref mq6)) ((.int 0)) ((.ref mq7)) ((.ref mq8)) ((.ref mq9)) ((.int 0)) ((.ref mq10)) ((.ref mq11)) ((.ref mq12)) ((.ref mq13)) ((.ref mq14)) ((.int 0)) ((.ref mq15)) ((.ref mq16)) ((.long 0)) ((.ref mq17)) ((.ref mq18)) ((.ref mq19)) ((.int 0)) ((.null)) ((.int 0)) ((.int 0)) ((.int 0)) ((.null)) ((.int 0)) ((.int 0)) ((.int 0)) ((.null)) ((.ref mq20)) ((.int 0)) ((.int 0)) ((.long 0)) ((.null)) ((.null)) ((.null)) ((.null)) ((.int 0)) ((.int 0)) ((.int 0)) ((.int 0)) ((.int 0)) ((.int 0)) ((.null)) ((.long 0)) ((.long 0)) ((.long 0)) ((.null)) ((.null)) ((.null)) ((.int 0)) ((.int 0)) ((.int 0)) ((.ref mq21)) ((.null)) ((.null)) 1) (cwV 0 hts gv_law_8_c_M_thrown_82 rfl rfl rfl (by decide +kernel) ⟨(Nat.le_of_ble_eq_true rfl), (Nat.le_of_ble_eq_true rfl)⟩) (zB.preV hPc hDc hK hN hE hO hT hG hS hFc (fun _ h => nomatch h) (fun _ h => nomatch h) (fun _ h => nomatch h) (fun _ h => nomatch h) (va_recv hK hPc (ci := 16) (q0 := 0) rfl rfl)) rfl rfl hl.1 rfl (lv_room (Nat.le_of_ble_eq_true rfl)) dL_law_669 ⟨(Nat.le_of_ble_eq_true rfl), (Nat.le_of_ble_eq_true rfl)⟩) hS (fun q _ h => hFc q h) hFc (fun r33 u t H1 locs ht hvm hw hB hz1 hk1 hS => ?_)
  obtain ⟨hP1, hD1⟩ := hB
  rw [ht] at hP1
  obtain ⟨hP, hD⟩ := va_join (wr := [(o, .inl (y 2, 1, .inr (.inl (fun _ => 0))))]) (w1 := [(mo, .inr (16, [.int 1, .int 0, .ref mq1, .ref mq2, .int 0, .ref mq3, .int 0, .ref mq4, .ref mq5, .ref mq6, .int 0, .ref mq7, .ref mq8, .ref mq9, .int 0, .ref mq10, .ref mq11, .ref mq12, .ref mq13, .ref mq14, .int 0, .ref mq15, .ref mq16, .long 0, .ref mq17, .ref mq18, .ref mq19, .int 0, .null, .int 0, .int 0, .int 0, .null, .int 0, .int 0, .int 0, .null, .ref mq20, .int 0, .int 0, .long 0, .null, .null, .null, .null, .int 0, .int 0, .int 0, .int 0, .int 0, .int 0, .null, .long 0, .long 0, .long 0, .null, .null, .null, .int 0, .int 0, .int 0, .ref mq21, .null, .null]))]) hP hD [1] [0] rfl rfl (by decide) (by decide) hk1 hFc hP1 hD1
  generalize H1 = H at hP hS ⊢
  have hP : va_P D vwCl [(o, .inl (y 2, 1, .inr (.inl (fun _ => 0)))), (mo, .inr (16, [.int 1, .int 0, .ref mq1, .ref mq2, .int 0, .ref mq3, .int 0, .ref mq4, .ref mq5, .ref mq6, .int 0, .ref mq7, .ref mq8, .ref mq9, .int 0, .ref mq10, .ref mq11, .ref mq12, .ref mq13, .ref mq14, .int 0, .ref mq15, .ref mq16, .long 0, .ref mq17, .ref mq18, .ref mq19, .int 0, .null, .int 0, .int 0, .int 0, .null, .int 0, .int 0, .int 0, .null, .ref mq20, .int 0, .int 0, .long 0, .null, .null, .null, .null, .int 0, .int 0, .int 0, .int 0, .int 0, .int 0, .null, .long 0, .long 0, .long 0, .null, .null, .null, .int 0, .int 0, .int 0, .ref mq21, .null, .null]))] H := hP
  have hD : va_D A [(o, .inl (y 2, 1, .inr (.inl (fun _ => 0)))), (mo, .inr (16, [.int 1, .int 0, .ref mq1, .ref mq2, .int 0, .ref mq3, .int 0, .ref mq4, .ref mq5, .ref mq6, .int 0, .ref mq7, .ref mq8, .ref mq9, .int 0, .ref mq10, .ref mq11, .ref mq12, .ref mq13, .ref mq14, .int 0, .ref mq15, .ref mq16, .long 0, .ref mq17, .ref mq18, .ref mq19, .int 0, .null, .int 0, .int 0, .int 0, .null, .int 0, .int 0, .int 0, .null, .ref mq20, .int 0, .int 0, .long 0, .null, .null, .null, .null, .int 0, .int 0, .int 0, .int 0, .int 0, .int 0, .null, .long 0, .long 0, .long 0, .null, .null, .null, .int 0, .int 0, .int 0, .ref mq21, .null, .null]))] := hD
  have hw : r33 = 1 := hw
  subst hw
  refine lv_iload hx hb dL_law_672 (lv_at hl 1 rfl) ?_
  refine lv_icmp_eq (tgt := 679) hx hb dL_law_674 (by decide) (fun _ => ?_) (fun c9 => absurd (by decide) c9)
  refine lv_iload hx hb dL_law_679 (lv_at hl 1 rfl) ?_
  refine lv_if_ne (tgt := 696) hx hb dL_law_681 (by decide) (fun _ => ?_) (fun c9 => absurd c9 (by decide))
  refine lv_goto (tgt := 1017) hx hb dL_law_696 (by decide) ?_
  refine lv_iinc (v := 6) (lv' := [(4, .int 6), (6, .int 0), (5, .int 1), (3, .ref o), (2, .ref mo), (1, .ref x), (0, .ref b)]) hx hb dL_law_1017 hl (k := 2) rfl (by decide) (by decide) rfl (fun ls hl => ?_)
  refine lv_goto (tgt := 23) hx hb dL_law_1020 (by decide) ?_
  refine lv_iload hx hb dL_law_23 (lv_at hl 0 rfl) ?_
  refine lv_aload_n hx hb dL_law_25 rfl (lv_at hl 6 rfl) ?_
  refine va_slen hx hb hX hbl hbA hS dL_law_26 ?_
  refine lv_bipush (v := 6) hx hb dL_law_27 (by decide) ?_
  refine lv_isub hx hb dL_law_29 ?_
  refine lv_topi (fun v34 ev34 => ?_)
  have ev34 : v34 = 0 := ev34.trans (by decide +kernel)
  subst ev34
  refine lv_icmp_gt (tgt := 1023) hx hb dL_law_30 (by decide) (fun _ => ?_) (fun c9 => absurd (by decide) c9)
  refine lv_iconst (v := 1) hx hb dL_law_1023 (by decide) ?_
  refine va_forget (fun q hq => hAf _ (hS.2.2 q hq)) ?_
  refine W.widen (k := 600002) (n := 7302232) (Nat.le_of_ble_eq_true rfl) (Nat.le_of_ble_eq_true rfl) ?_
  exact lw_ret hx hb hr hlocks dL_law_1024
set_option maxRecDepth 100000 in
theorem gv_law_9_c_L_export_105 : GoodIn zt (va_wsS RL 105 yL_export wz_c_L_export) := goodIn_app (goodIn_of _ (by decide +kernel)) gl_c_L_export
set_option maxRecDepth 100000 in
theorem gv_law_9_c_M_export_108 : GoodIn zt (wsV RL 108 RX12 yX12_export wz_c_M_export) := goodIn_app (goodIn_of _ (by decide +kernel)) gl_c_M_export
set_option maxRecDepth 100000 in
theorem gv_law_9_c_M_thrown_82 : GoodIn zt (wsV RL 82 RX12 yX12_thrown wz_c_M_thrown) := goodIn_app (goodIn_of _ (by decide +kernel)) gl_c_M_thrown
set_option maxHeartbeats 4000000 in
set_option maxRecDepth 100000 in
theorem law_9 {p : Program} {l : Launch} {e : Env} {s : State} {m : MethodId} {below : List Frame} {meth : Method} {c : Code} {b : Nat} {xs : Nat → Int32} (hl0 : l.stackTraces = false) (C0 : lw_At p s m meth c b 6 xs) {A : Nat → Prop} (hA : ∀ q : Nat, s.heap.size ≤ q → A q) (hAf : ∀ q : Nat, A q → s.heap.size ≤ q) {D : va_G} {y : Nat → ClassId} {e0 e1 e2 e3 e4 sa0 sa1 sa2 sa3 sa4 sa5 sa6 sa7 sa8 sa9 sa10 sa11 st0 st1 st2 st3 st4 st5 st6 st7 st8 st9 st10 st11 : Nat} (hK : va_K D vwCl (zT y) s) (hN : zN zL s) (hE : zE (zEL e0 e1 e2 e3 e4) A s s.heap) (hO : zAO s) (hT : zQ zTh A s s.heap) (hG : zG (zGL e1 e2 e3 e4 sa0 sa1 sa2 sa3 sa4 sa5 sa6 sa7 sa8 sa9 sa10 sa11 st0 st1 st2 st3 st4 st5 st6 st7 st8 st9 st10 st11) A s s.heap) {o x mo aq1 aq3 aq5 aq7 aq9 mq1 mq2 mq3 mq4 mq5 mq6 mq7 mq8 mq9 aq11 aq16 aq19 aq22 aq23 aq24 aq27 aq29 aq35 aq37 aq55 aq57 aq59 mq10 mq11 mq12 mq13 mq14 mq15 mq16 mq17 mq18 mq19 mq20 mq21 : Nat} {H : Heap} {locs : List Loc} (hP : va_P D vwCl [(x, .inr (15, [.ref aq1, .ref aq3, .ref aq5, .ref aq7, .ref aq9, .ref aq11, .ref aq16, .ref aq19, .ref aq22, .ref aq37, .ref aq55, .ref aq57, .ref aq59, .int 0, .null])), (aq22, .inr (11, [.ref aq23, .ref aq24, .ref aq27, .ref aq29, .ref aq35, .null, .null])), (aq23, .inr (3, [.int 0, .ref e0, .int 0])), (mo, .inr (16, [.int 0, .int 0, .ref mq1, .ref mq2, .int 0, .ref mq3, .int 0, .ref mq4, .ref mq5, .ref mq6, .int 0, .ref mq7, .ref mq8, .ref mq9, .int 0, .ref mq10, .ref mq11, .ref mq12, .ref mq13, .ref mq14, .int 0, .ref mq15, .ref mq16, .long 0, .ref mq17, .ref mq18, .ref mq19, .int 0, .null, .int 0, .int 0, .int 0, .null, .int 0, .int 0, .int 0, .null, .ref mq20, .int 0, .int 0, .long 0, .null, .null, .null, .null, .int 0, .int 0, .int 0, .int 0, .int 0, .int 0, .null, .long 0, .long 0, .long 0, .null, .null, .null, .int 0, .int 0, .int 0, .ref mq21, .null, .null])), (o, .inl (y 2, 1, .inr (.inl (fun _ => 0))))] H) (hD : va_D A [(x, .inr (15, [.ref aq1, .ref aq3, .ref aq5, .ref aq7, .ref aq9, .ref aq11, .ref aq16, .ref aq19, .ref aq22, .ref aq37, .ref aq55, .ref aq57, .ref aq59, .int 0, .null])), (aq22, .inr (11, [.ref aq23, .ref aq24, .ref aq27, .ref aq29, .ref aq35, .null, .null])), (aq23, .inr (3, [.int 0, .ref e0, .int 0])), (mo, .inr (16, [.int 0, .int 0, .ref mq1, .ref mq2, .int 0, .ref mq3, .int 0, .ref mq4, .ref mq5, .ref mq6, .int 0, .ref mq7, .ref mq8, .ref mq9, .int 0, .ref mq10, .ref mq11, .ref mq12, .ref mq13, .ref mq14, .int 0, .ref mq15, .ref mq16, .long 0, .ref mq17, .ref mq18, .ref mq19, .int 0, .null, .int 0, .int 0, .int 0, .null, .int 0, .int 0, .int 0, .null, .ref mq20, .int 0, .int 0, .long 0, .null, .null, .null, .null, .int 0, .int 0, .int 0, .int 0, .int 0, .int 0, .null, .long 0, .long 0, .long 0, .null, .null, .null, .int 0, .int 0, .int 0, .ref mq21, .null, .null])), (o, .inl (y 2, 1, .inr (.inl (fun _ => 0))))]) (hS : va_S A s.heap H locs) {ls : Array Slot} (hl : lv_has ls 8 [(4, .int 0), (3, .ref o), (2, .ref mo), (1, .ref x), (0, .ref b)]) : W p l e room_1 s m #[Value.ref b] below meth c H locs 84 139562 (lw_Z below #[Value.ref b] s) (F0 m 699 ls []) := by
  obtain ⟨hx, hb, hr, hml, hown, hts, hX, hbl, hlocks, hgv⟩ := C0
  have hts := zz_hts hts
  have hbA : ¬ A b := fun q => absurd hbl (Nat.not_lt.mpr (hAf b q))
  refine lv_aload_n hx hb dL_law_699 rfl (lv_at hl 3 rfl) ?_
  refine lv_aload_n hx hb dL_law_700 rfl (lv_at hl 4 rfl) ?_
  refine lv_iload hx hb dL_law_701 (lv_at hl 0 rfl) ?_
  refine lv_iconst (v := 1) hx hb dL_law_703 (by decide) ?_
  refine lv_iadd hx hb dL_law_704 ?_
  refine lv_topi (fun v1 ev1 => ?_)
  have ev1 : v1 = 1 := ev1.trans (by decide +kernel)
  subst ev1
  refine va_sld hx hb hX hbl hbA hS (by unfold vp_in; decide) dL_law_705 ?_
  refine lv_topi (fun x2 ex2 => ?_)
  refine lv_aload_n hx hb dL_law_706 rfl (lv_at hl 1 rfl) ?_
  have hPc := hP.sub (ws' := [(x, .inr (15, [.ref aq1, .ref aq3, .ref aq5, .ref aq7, .ref aq9, .ref aq11, .ref aq16, .ref aq19, .ref aq22, .ref aq37, .ref aq55, .ref aq57, .ref aq59, .int 0, .null])), (aq22, .inr (11, [.ref aq23, .ref aq24, .ref aq27, .ref aq29, .ref aq35, .null, .null])), (aq23, .inr (3, [.int 0, .ref e0, .int 0])), (o, .inl (y 2, 1, .inr (.inl (fun _ => 0))))]) [0, 1, 2, 4] rfl
  have hDc := hD.sub (ws' := [(x, .inr (15, [.ref aq1, .ref aq3, .ref aq5, .ref aq7, .ref aq9, .ref aq11, .ref aq16, .ref aq19, .ref aq22, .ref aq37, .ref aq55, .ref aq57, .ref aq59, .int 0, .null])), (aq22, .inr (11, [.ref aq23, .ref aq24, .ref aq27, .ref aq29, .ref aq35, .null, .null])), (aq23, .inr (3, [.int 0, .ref e0, .int 0])), (o, .inl (y 2, 1, .inr (.inl (fun _ => 0))))]) [0, 1, 2, 4] (by decide) rfl
  have hFc := va_free (wc := [(x, .inr (15, [.ref aq1, .ref aq3, .ref aq5, .ref aq7, .ref aq9, .ref aq11, .ref aq16, .ref aq19, .ref aq22, .ref aq37, .ref aq55, .ref aq57, .ref aq59, .int 0, .null])), (aq22, .inr (11, [.ref aq23, .ref aq24, .ref aq27, .ref aq29, .ref aq35, .null, .null])), (aq23, .inr (3, [.int 0, .ref e0, .int 0])), (o, .inl (y 2, 1, .inr (.inl (fun _ => 0))))]) hD hS hA [0, 1, 2, 4] rfl
  refine va_calli (vx_runSW (As := [.ref x, .int x2, .ref o]) (rest := []) ⟨hx, hb, hml, hown, hts⟩ (c_L_export l hl0 D y H.size x aq22 aq23 ((.ref aq1)) ((.ref aq3)) ((.ref aq5)) ((.ref aq7)) ((.ref aq9)) ((.ref aq11)) ((.ref aq16)) ((.ref aq19)) ((.ref aq37)) ((.ref aq55)) ((.ref aq57)) ((.ref aq59)) ((.int 0)) ((.null)) ((.ref aq24)) ((.ref aq27)) ((.ref aq29)) ((.ref aq35)) ((.null)) ((.null)) ((.int 0)) ((.ref e0)) o ((fun _ => 0)) x2) (vx_cwSW 3 hts gv_law_9_c_L_export_105 rfl rfl rfl (by decide +kernel) ⟨(Nat.le_of_ble_eq_true rfl), (Nat.le_of_ble_eq_true rfl)⟩) (zB.preS hPc hDc hK hN hE hO hT hG hS hFc (List.forall_mem_cons.mpr ⟨List.mem_of_getElem? (i := 7) rfl, (List.forall_mem_cons.mpr ⟨List.mem_of_getElem? (i := 8) rfl, (List.forall_mem_cons.mpr ⟨List.mem_of_getElem? (i := 9) rfl, (List.forall_mem_cons.mpr ⟨List.mem_of_getElem? (i := 10) rfl, (fun _ h => nomatch h)⟩)⟩)⟩)⟩) (fun _ h => nomatch h) (fun _ h => h) (fun _ h => nomatch h)) rfl rfl hl.1 rfl (lv_room (Nat.le_of_ble_eq_true rfl)) dL_law_707 ⟨(Nat.le_of_ble_eq_true rfl), (Nat.le_of_ble_eq_true rfl)⟩) hS (fun q _ h => hFc q h) hFc (fun r3 u t H1 locs ht hvm hw hB hz1 hk1 hS => ?_)
  obtain ⟨hP1, hD1⟩ := hB
  rw [ht] at hP1
  obtain ⟨hP, hD⟩ := va_join (wr := [(mo, .inr (16, [.int 0, .int 0, .ref mq1, .ref mq2, .int 0, .ref mq3, .int 0, .ref mq4, .ref mq5, .ref mq6, .int 0, .ref mq7, .ref mq8, .ref mq9, .int 0, .ref mq10, .ref mq11, .ref mq12, .ref mq13, .ref mq14, .int 0, .ref mq15, .ref mq16, .long 0, .ref mq17, .ref mq18, .ref mq19, .int 0, .null, .int 0, .int 0, .int 0, .null, .int 0, .int 0, .int 0, .null, .ref mq20, .int 0, .int 0, .long 0, .null, .null, .null, .null, .int 0, .int 0, .int 0, .int 0, .int 0, .int 0, .null, .long 0, .long 0, .long 0, .null, .null, .null, .int 0, .int 0, .int 0, .ref mq21, .null, .null]))]) (w1 := [(o, .inl (y 2, 1, .inr (.inl (fun _ => 0))))]) hP hD [0, 1, 2, 4] [3] rfl rfl (by decide) (by decide) hk1 hFc hP1 hD1
  generalize H1 = H at hP hS ⊢
  have hP : va_P D vwCl [(mo, .inr (16, [.int 0, .int 0, .ref mq1, .ref mq2, .int 0, .ref mq3, .int 0, .ref mq4, .ref mq5, .ref mq6, .int 0, .ref mq7, .ref mq8, .ref mq9, .int 0, .ref mq10, .ref mq11, .ref mq12, .ref mq13, .ref mq14, .int 0, .ref mq15, .ref mq16, .long 0, .ref mq17, .ref mq18, .ref mq19, .int 0, .null, .int 0, .int 0, .int 0, .null, .int 0, .int 0, .int 0, .null, .ref mq20, .int 0, .int 0, .long 0, .null, .null, .null, .null, .int 0, .int 0, .int 0, .int 0, .int 0, .int 0, .null, .long 0, .long 0, .long 0, .null, .null, .null, .int 0, .int 0, .int 0, .ref mq21, .null, .null])), (o, .inl (y 2, 1, .inr (.inl (fun _ => 0))))] H := hP
  have hD : va_D A [(mo, .inr (16, [.int 0, .int 0, .ref mq1, .ref mq2, .int 0, .ref mq3, .int 0, .ref mq4, .ref mq5, .ref mq6, .int 0, .ref mq7, .ref mq8, .ref mq9, .int 0, .ref mq10, .ref mq11, .ref mq12, .ref mq13, .ref mq14, .int 0, .ref mq15, .ref mq16, .long 0, .ref mq17, .ref mq18, .ref mq19, .int 0, .null, .int 0, .int 0, .int 0, .null, .int 0, .int 0, .int 0, .null, .ref mq20, .int 0, .int 0, .long 0, .null, .null, .null, .null, .int 0, .int 0, .int 0, .int 0, .int 0, .int 0, .null, .long 0, .long 0, .long 0, .null, .null, .null, .int 0, .int 0, .int 0, .ref mq21, .null, .null])), (o, .inl (y 2, 1, .inr (.inl (fun _ => 0))))] := hD
  have hw : r3 = 1 := hw
  subst hw
  refine lv_istore (lv' := [(5, .int 1), (4, .int 0), (3, .ref o), (2, .ref mo), (1, .ref x), (0, .ref b)]) hx hb dL_law_710 hl (by decide) rfl (fun ls hl => ?_)
  refine lv_aload_n hx hb dL_law_712 rfl (lv_at hl 3 rfl) ?_
  refine lv_aload_n hx hb dL_law_713 rfl (lv_at hl 5 rfl) ?_
  refine lv_iload hx hb dL_law_714 (lv_at hl 1 rfl) ?_
  refine lv_iconst (v := 1) hx hb dL_law_716 (by decide) ?_
  refine lv_iadd hx hb dL_law_717 ?_
  refine lv_topi (fun v4 ev4 => ?_)
  have ev4 : v4 = 1 := ev4.trans (by decide +kernel)
  subst ev4
  refine va_sld hx hb hX hbl hbA hS (by unfold vp_in; decide) dL_law_718 ?_
  refine lv_topi (fun x5 ex5 => ?_)
  have fx5 : x2 = x5 := ex2.trans ex5.symm
  subst fx5
  have hPc := hP.sub (ws' := [(mo, .inr (16, [.int 0, .int 0, .ref mq1, .ref mq2, .int 0, .ref mq3, .int 0, .ref mq4, .ref mq5, .ref mq6, .int 0, .ref mq7, .ref mq8, .ref mq9, .int 0, .ref mq10, .ref mq11, .ref mq12, .ref mq13, .ref mq14, .int 0, .ref mq15, .ref mq16, .long 0, .ref mq17, .ref mq18, .ref mq19, .int 0, .null, .int 0, .int 0, .int 0, .null, .int 0, .int 0, .int 0, .null, .ref mq20, .int 0, .int 0, .long 0, .null, .null, .null, .null, .int 0, .int 0, .int 0, .int 0, .int 0, .int 0, .null, .long 0, .long 0, .long 0, .null, .null, .null, .int 0, .int 0, .int 0, .ref mq21, .null, .null]))]) [0] rfl
  have hDc := hD.sub (ws' := [(mo, .inr (16, [.int 0, .int 0, .ref mq1, .ref mq2, .int 0, .ref mq3, .int 0, .ref mq4, .ref mq5, .ref mq6, .int 0, .ref mq7, .ref mq8, .ref mq9, .int 0, .ref mq10, .ref mq11, .ref mq12, .ref mq13, .ref mq14, .int 0, .ref mq15, .ref mq16, .long 0, .ref mq17, .ref mq18, .ref mq19, .int 0, .null, .int 0, .int 0, .int 0, .null, .int 0, .int 0, .int 0, .null, .ref mq20, .int 0, .int 0, .long 0, .null, .null, .null, .null, .int 0, .int 0, .int 0, .int 0, .int 0, .int 0, .null, .long 0, .long 0, .long 0, .null, .null, .null, .int 0, .int 0, .int 0, .ref mq21, .null, .null]))]) [0] (by decide) rfl
  have hFc := va_free (wc := [(mo, .inr (16, [.int 0, .int 0, .ref mq1, .ref mq2, .int 0, .ref mq3, .int 0, .ref mq4, .ref mq5, .ref mq6, .int 0, .ref mq7, .ref mq8, .ref mq9, .int 0, .ref mq10, .ref mq11, .ref mq12, .ref mq13, .ref mq14, .int 0, .ref mq15, .ref mq16, .long 0, .ref mq17, .ref mq18, .ref mq19, .int 0, .null, .int 0, .int 0, .int 0, .null, .int 0, .int 0, .int 0, .null, .ref mq20, .int 0, .int 0, .long 0, .null, .null, .null, .null, .int 0, .int 0, .int 0, .int 0, .int 0, .int 0, .null, .long 0, .long 0, .long 0, .null, .null, .null, .int 0, .int 0, .int 0, .ref mq21, .null, .null]))]) hD hS hA [0] rfl
  refine va_calli (va_runV (As := [.int x2]) (rest := []) ⟨hx, hb, hml, hown, hts⟩ (c_M_export l D y H.size mo ((.int 0)) ((.int 0)) ((.ref mq1)) ((.ref mq2)) ((.int 0)) ((.ref mq3)) ((.ref mq4)) ((.ref mq5)) ((.ref mq6)) ((.int 0)) ((.ref mq7)) ((.ref mq8)) ((.ref mq9)) ((.int 0)) ((.ref mq10)) ((.ref mq11)) ((.ref mq12)) ((.ref mq13)) ((.ref mq14)) ((.int 0)) ((.ref mq15)) ((.ref mq16)) ((.long 0)) ((.ref mq17)) ((.ref mq18)) ((.ref mq19)) ((.int 0)) ((.null)) ((.int 0)) ((.int 0)) ((.int 0)) ((.null)) ((.int 0)) ((.int 0)) ((.int 0)) ((.null)) ((.ref mq20)) ((.int 0)) ((.int 0)) ((.long 0)) ((.null)) ((.null)) ((.null)) ((.null)) ((.int 0)) ((.int 0)) ((.int 0)) ((.int 0)) ((.int 0)) ((.int 0)) ((.null)) ((.long 0)) ((.long 0)) ((.long 0)) ((.null)) ((.null)) ((.null)) ((.int 0)) ((.int 0)) ((.int 0)) ((.ref mq21)) ((.null)) ((.null)) x2) (cwV 1 hts gv_law_9_c_M_export_108 rfl rfl rfl (by decide +kernel) ⟨(Nat.le_of_ble_eq_true rfl), (Nat.le_of_ble_eq_true rfl)⟩) (zB.preV hPc hDc hK hN hE hO hT hG hS hFc (fun _ h => nomatch h) (fun _ h => nomatch h) (fun _ h => nomatch h) (fun _ h => nomatch h) (va_recv hK hPc (ci := 16) (q0 := 0) rfl rfl)) rfl rfl hl.1 rfl (lv_room (Nat.le_of_ble_eq_true rfl)) dL_law_719 ⟨(Nat.le_of_ble_eq_true rfl), (Nat.le_of_ble_eq_true rfl)⟩) hS (fun q _ h => hFc q h) hFc (fun r6 u t H1 locs ht hvm hw hB hz1 hk1 hS => ?_)
  obtain ⟨hP1, hD1⟩ := hB
  rw [ht] at hP1
  obtain ⟨hP, hD⟩ := va_join (wr := [(o, .inl (y 2, 1, .inr (.inl (fun _ => 0))))]) (w1 := [(mo, .inr (16, [.int 1, .int 0, .ref mq1, .ref mq2, .int 0, .ref mq3, .int 0, .ref mq4, .ref mq5, .ref mq6, .int 0, .ref mq7, .ref mq8, .ref mq9, .int 0, .ref mq10, .ref mq11, .ref mq12, .ref mq13, .ref mq14, .int 0, .ref mq15, .ref mq16, .long 0, .ref mq17, .ref mq18, .ref mq19, .int 0, .null, .int 0, .int 0, .int 0, .null, .int 0, .int 0, .int 0, .null, .ref mq20, .int 0, .int 0, .long 0, .null, .null, .null, .null, .int 0, .int 0, .int 0, .int 0, .int 0, .int 0, .null, .long 0, .long 0, .long 0, .null, .null, .null, .int 0, .int 0, .int 0, .ref mq21, .null, .null]))]) hP hD [0] [1] rfl rfl (by decide) (by decide) hk1 hFc hP1 hD1
  generalize H1 = H at hP hS ⊢
  have hP : va_P D vwCl [(o, .inl (y 2, 1, .inr (.inl (fun _ => 0)))), (mo, .inr (16, [.int 1, .int 0, .ref mq1, .ref mq2, .int 0, .ref mq3, .int 0, .ref mq4, .ref mq5, .ref mq6, .int 0, .ref mq7, .ref mq8, .ref mq9, .int 0, .ref mq10, .ref mq11, .ref mq12, .ref mq13, .ref mq14, .int 0, .ref mq15, .ref mq16, .long 0, .ref mq17, .ref mq18, .ref mq19, .int 0, .null, .int 0, .int 0, .int 0, .null, .int 0, .int 0, .int 0, .null, .ref mq20, .int 0, .int 0, .long 0, .null, .null, .null, .null, .int 0, .int 0, .int 0, .int 0, .int 0, .int 0, .null, .long 0, .long 0, .long 0, .null, .null, .null, .int 0, .int 0, .int 0, .ref mq21, .null, .null]))] H := hP
  have hD : va_D A [(o, .inl (y 2, 1, .inr (.inl (fun _ => 0)))), (mo, .inr (16, [.int 1, .int 0, .ref mq1, .ref mq2, .int 0, .ref mq3, .int 0, .ref mq4, .ref mq5, .ref mq6, .int 0, .ref mq7, .ref mq8, .ref mq9, .int 0, .ref mq10, .ref mq11, .ref mq12, .ref mq13, .ref mq14, .int 0, .ref mq15, .ref mq16, .long 0, .ref mq17, .ref mq18, .ref mq19, .int 0, .null, .int 0, .int 0, .int 0, .null, .int 0, .int 0, .int 0, .null, .ref mq20, .int 0, .int 0, .long 0, .null, .null, .null, .null, .int 0, .int 0, .int 0, .int 0, .int 0, .int 0, .null, .long 0, .long 0, .long 0, .null, .null, .null, .int 0, .int 0, .int 0, .ref mq21, .null, .null]))] := hD
  have hw : r6 = 0 := hw
  subst hw
  refine lv_istore (lv' := [(6, .int 0), (5, .int 1), (4, .int 0), (3, .ref o), (2, .ref mo), (1, .ref x), (0, .ref b)]) hx hb dL_law_722 hl (by decide) rfl (fun ls hl => ?_)
  refine lv_aload_n hx hb dL_law_724 rfl (lv_at hl 4 rfl) ?_
  have hPc := hP.sub (ws' := [(mo, .inr (16, [.int 1, .int 0, .ref mq1, .ref mq2, .int 0, .ref mq3, .int 0, .ref mq4, .ref mq5, .ref mq6, .int 0, .ref mq7, .ref mq8, .ref mq9, .int 0, .ref mq10, .ref mq11, .ref mq12, .ref mq13, .ref mq14, .int 0, .ref mq15, .ref mq16, .long 0, .ref mq17, .ref mq18, .ref mq19, .int 0, .null, .int 0, .int 0, .int 0, .null, .int 0, .int 0, .int 0, .null, .ref mq20, .int 0, .int 0, .long 0, .null, .null, .null, .null, .int 0, .int 0, .int 0, .int 0, .int 0, .int 0, .null, .long 0, .long 0, .long 0, .null, .null, .null, .int 0, .int 0, .int 0, .ref mq21, .null, .null]))]) [1] rfl
  have hDc := hD.sub (ws' := [(mo, .inr (16, [.int 1, .int 0, .ref mq1, .ref mq2, .int 0, .ref mq3, .int 0, .ref mq4, .ref mq5, .ref mq6, .int 0, .ref mq7, .ref mq8, .ref mq9, .int 0, .ref mq10, .ref mq11, .ref mq12, .ref mq13, .ref mq14, .int 0, .ref mq15, .ref mq16, .long 0, .ref mq17, .ref mq18, .ref mq19, .int 0, .null, .int 0, .int 0, .int 0, .null, .int 0, .int 0, .int 0, .null, .ref mq20, .int 0, .int 0, .long 0, .null, .null, .null, .null, .int 0, .int 0, .int 0, .int 0, .int 0, .int 0, .null, .long 0, .long 0, .long 0, .null, .null, .null, .int 0, .int 0, .int 0, .ref mq21, .null, .null]))]) [1] (by decide) rfl
  have hFc := va_free (wc := [(mo, .inr (16, [.int 1, .int 0, .ref mq1, .ref mq2, .int 0, .ref mq3, .int 0, .ref mq4, .ref mq5, .ref mq6, .int 0, .ref mq7, .ref mq8, .ref mq9, .int 0, .ref mq10, .ref mq11, .ref mq12, .ref mq13, .ref mq14, .int 0, .ref mq15, .ref mq16, .long 0, .ref mq17, .ref mq18, .ref mq19, .int 0, .null, .int 0, .int 0, .int 0, .null, .int 0, .int 0, .int 0, .null, .ref mq20, .int 0, .int 0, .long 0, .null, .null, .null, .null, .int 0, .int 0, .int 0, .int 0, .int 0, .int 0, .null, .long 0, .long 0, .long 0, .null, .null, .null, .int 0, .int 0, .int 0, .ref mq21, .null, .null]))]) hD hS hA [1] rfl
  refine va_calli (va_runV (As := []) (rest := []) ⟨hx, hb, hml, hown, hts⟩ (c_M_thrown l D y H.size mo ((.int 0)) ((.ref mq1)) ((.ref mq2)) ((.int 0)) ((.ref mq3)) ((.int 0)) ((.ref mq4)) ((.ref mq5)) ((.ref mq6)) ((.int 0)) ((.ref mq7)) ((.ref mq8)) ((.ref mq9)) ((.int 0)) ((.ref mq10)) ((.ref mq11)) ((.ref mq12)) ((.ref mq13)) ((.ref mq14)) ((.int 0)) ((.ref mq15)) ((.ref mq16)) ((.long 0)) ((.ref mq17)) ((.ref mq18)) ((.ref mq19)) ((.int 0)) ((.null)) ((.int 0)) ((.int 0)) ((.int 0)) ((.null)) ((.int 0)) ((.int 0)) ((.int 0)) ((.null)) ((.ref mq20)) ((.int 0)) ((.int 0)) ((.long 0)) ((.null)) ((.null)) ((.null)) ((.null)) ((.int 0)) ((.int 0)) ((.int 0)) ((.int 0)) ((.int 0)) ((.int 0)) ((.null)) ((.long 0)) ((.long 0)) ((.long 0)) ((.null)) ((.null)) ((.null)) ((.int 0)) ((.int 0)) ((.int 0)) ((.ref mq21)) ((.null)) ((.null)) 1) (cwV 0 hts gv_law_9_c_M_thrown_82 rfl rfl rfl (by decide +kernel) ⟨(Nat.le_of_ble_eq_true rfl), (Nat.le_of_ble_eq_true rfl)⟩) (zB.preV hPc hDc hK hN hE hO hT hG hS hFc (fun _ h => nomatch h) (fun _ h => nomatch h) (fun _ h => nomatch h) (fun _ h => nomatch h) (va_recv hK hPc (ci := 16) (q0 := 0) rfl rfl)) rfl rfl hl.1 rfl (lv_room (Nat.le_of_ble_eq_true rfl)) dL_law_725 ⟨(Nat.le_of_ble_eq_true rfl), (Nat.le_of_ble_eq_true rfl)⟩) hS (fun q _ h => hFc q h) hFc (fun r7 u t H1 locs ht hvm hw hB hz1 hk1 hS => ?_)
  obtain ⟨hP1, hD1⟩ := hB
  rw [ht] at hP1
  obtain ⟨hP, hD⟩ := va_join (wr := [(o, .inl (y 2, 1, .inr (.inl (fun _ => 0))))]) (w1 := [(mo, .inr (16, [.int 1, .int 0, .ref mq1, .ref mq2, .int 0, .ref mq3, .int 0, .ref mq4, .ref mq5, .ref mq6, .int 0, .ref mq7, .ref mq8, .ref mq9, .int 0, .ref mq10, .ref mq11, .ref mq12, .ref mq13, .ref mq14, .int 0, .ref mq15, .ref mq16, .long 0, .ref mq17, .ref mq18, .ref mq19, .int 0, .null, .int 0, .int 0, .int 0, .null, .int 0, .int 0, .int 0, .null, .ref mq20, .int 0, .int 0, .long 0, .null, .null, .null, .null, .int 0, .int 0, .int 0, .int 0, .int 0, .int 0, .null, .long 0, .long 0, .long 0, .null, .null, .null, .int 0, .int 0, .int 0, .ref mq21, .null, .null]))]) hP hD [1] [0] rfl rfl (by decide) (by decide) hk1 hFc hP1 hD1
  generalize H1 = H at hP hS ⊢
  have hP : va_P D vwCl [(o, .inl (y 2, 1, .inr (.inl (fun _ => 0)))), (mo, .inr (16, [.int 1, .int 0, .ref mq1, .ref mq2, .int 0, .ref mq3, .int 0, .ref mq4, .ref mq5, .ref mq6, .int 0, .ref mq7, .ref mq8, .ref mq9, .int 0, .ref mq10, .ref mq11, .ref mq12, .ref mq13, .ref mq14, .int 0, .ref mq15, .ref mq16, .long 0, .ref mq17, .ref mq18, .ref mq19, .int 0, .null, .int 0, .int 0, .int 0, .null, .int 0, .int 0, .int 0, .null, .ref mq20, .int 0, .int 0, .long 0, .null, .null, .null, .null, .int 0, .int 0, .int 0, .int 0, .int 0, .int 0, .null, .long 0, .long 0, .long 0, .null, .null, .null, .int 0, .int 0, .int 0, .ref mq21, .null, .null]))] H := hP
  have hD : va_D A [(o, .inl (y 2, 1, .inr (.inl (fun _ => 0)))), (mo, .inr (16, [.int 1, .int 0, .ref mq1, .ref mq2, .int 0, .ref mq3, .int 0, .ref mq4, .ref mq5, .ref mq6, .int 0, .ref mq7, .ref mq8, .ref mq9, .int 0, .ref mq10, .ref mq11, .ref mq12, .ref mq13, .ref mq14, .int 0, .ref mq15, .ref mq16, .long 0, .ref mq17, .ref mq18, .ref mq19, .int 0, .null, .int 0, .int 0, .int 0, .null, .int 0, .int 0, .int 0, .null, .ref mq20, .int 0, .int 0, .long 0, .null, .null, .null, .null, .int 0, .int 0, .int 0, .int 0, .int 0, .int 0, .null, .long 0, .long 0, .long 0, .null, .null, .null, .int 0, .int 0, .int 0, .ref mq21, .null, .null]))] := hD
  have hw : r7 = 1 := hw
  subst hw
  refine lv_iload hx hb dL_law_728 (lv_at hl 1 rfl) ?_
  refine lv_icmp_eq (tgt := 735) hx hb dL_law_730 (by decide) (fun _ => ?_) (fun c9 => absurd (by decide) c9)
  refine lv_iload hx hb dL_law_735 (lv_at hl 1 rfl) ?_
  refine lv_if_ne (tgt := 752) hx hb dL_law_737 (by decide) (fun _ => ?_) (fun c9 => absurd c9 (by decide))
  refine lv_goto (tgt := 1017) hx hb dL_law_752 (by decide) ?_
  refine lv_iinc (v := 6) (lv' := [(4, .int 6), (6, .int 0), (5, .int 1), (3, .ref o), (2, .ref mo), (1, .ref x), (0, .ref b)]) hx hb dL_law_1017 hl (k := 2) rfl (by decide) (by decide) rfl (fun ls hl => ?_)
  refine lv_goto (tgt := 23) hx hb dL_law_1020 (by decide) ?_
  refine lv_iload hx hb dL_law_23 (lv_at hl 0 rfl) ?_
  refine lv_aload_n hx hb dL_law_25 rfl (lv_at hl 6 rfl) ?_
  refine va_slen hx hb hX hbl hbA hS dL_law_26 ?_
  refine lv_bipush (v := 6) hx hb dL_law_27 (by decide) ?_
  refine lv_isub hx hb dL_law_29 ?_
  refine lv_topi (fun v8 ev8 => ?_)
  have ev8 : v8 = 0 := ev8.trans (by decide +kernel)
  subst ev8
  refine lv_icmp_gt (tgt := 1023) hx hb dL_law_30 (by decide) (fun _ => ?_) (fun c9 => absurd (by decide) c9)
  refine lv_iconst (v := 1) hx hb dL_law_1023 (by decide) ?_
  refine va_forget (fun q hq => hAf _ (hS.2.2 q hq)) ?_
  refine W.widen (k := 600002) (n := 7302232) (Nat.le_of_ble_eq_true rfl) (Nat.le_of_ble_eq_true rfl) ?_
  exact lw_ret hx hb hr hlocks dL_law_1024
set_option maxRecDepth 100000 in
theorem gv_law_11_c_L_out_112 : GoodIn zt (va_wsS RL 112 yL_out wz_c_L_out) := goodIn_app (goodIn_of _ (by decide +kernel)) gl_c_L_out
set_option maxRecDepth 100000 in
theorem gv_law_11_c_M_out_114 : GoodIn zt (wsV RL 114 RX12 yX12_out wz_c_M_out) := goodIn_app (goodIn_of _ (by decide +kernel)) gl_c_M_out
set_option maxRecDepth 100000 in
theorem gv_law_11_c_M_thrown_82 : GoodIn zt (wsV RL 82 RX12 yX12_thrown wz_c_M_thrown) := goodIn_app (goodIn_of _ (by decide +kernel)) gl_c_M_thrown
set_option maxHeartbeats 4000000 in
set_option maxRecDepth 100000 in
theorem law_11 {p : Program} {l : Launch} {e : Env} {s : State} {m : MethodId} {below : List Frame} {meth : Method} {c : Code} {b : Nat} {xs : Nat → Int32} (hl0 : l.stackTraces = false) (C0 : lw_At p s m meth c b 6 xs) {A : Nat → Prop} (hA : ∀ q : Nat, s.heap.size ≤ q → A q) (hAf : ∀ q : Nat, A q → s.heap.size ≤ q) {D : va_G} {y : Nat → ClassId} {e0 e1 e2 e3 e4 sa0 sa1 sa2 sa3 sa4 sa5 sa6 sa7 sa8 sa9 sa10 sa11 st0 st1 st2 st3 st4 st5 st6 st7 st8 st9 st10 st11 : Nat} (hK : va_K D vwCl (zT y) s) (hN : zN zL s) (hE : zE (zEL e0 e1 e2 e3 e4) A s s.heap) (hO : zAO s) (hT : zQ zTh A s s.heap) (hG : zG (zGL e1 e2 e3 e4 sa0 sa1 sa2 sa3 sa4 sa5 sa6 sa7 sa8 sa9 sa10 sa11 st0 st1 st2 st3 st4 st5 st6 st7 st8 st9 st10 st11) A s s.heap) {o x mo aq1 aq3 aq5 aq7 aq9 mq1 mq2 mq3 mq4 mq5 mq6 mq7 mq8 mq9 aq11 aq16 aq19 aq22 aq37 aq55 aq57 aq58 aq59 mq10 mq11 mq12 mq13 mq14 mq15 mq16 mq17 mq18 mq19 mq20 mq21 : Nat} {H : Heap} {locs : List Loc} (hP : va_P D vwCl [(x, .inr (15, [.ref aq1, .ref aq3, .ref aq5, .ref aq7, .ref aq9, .ref aq11, .ref aq16, .ref aq19, .ref aq22, .ref aq37, .ref aq55, .ref aq57, .ref aq59, .int 0, .null])), (aq57, .inr (4, [.ref aq58, .int 0, .int 0])), (mo, .inr (16, [.int 0, .int 0, .ref mq1, .ref mq2, .int 0, .ref mq3, .int 0, .ref mq4, .ref mq5, .ref mq6, .int 0, .ref mq7, .ref mq8, .ref mq9, .int 0, .ref mq10, .ref mq11, .ref mq12, .ref mq13, .ref mq14, .int 0, .ref mq15, .ref mq16, .long 0, .ref mq17, .ref mq18, .ref mq19, .int 0, .null, .int 0, .int 0, .int 0, .null, .int 0, .int 0, .int 0, .null, .ref mq20, .int 0, .int 0, .long 0, .null, .null, .null, .null, .int 0, .int 0, .int 0, .int 0, .int 0, .int 0, .null, .long 0, .long 0, .long 0, .null, .null, .null, .int 0, .int 0, .int 0, .ref mq21, .null, .null])), (o, .inl (y 2, 1, .inr (.inl (fun _ => 0))))] H) (hD : va_D A [(x, .inr (15, [.ref aq1, .ref aq3, .ref aq5, .ref aq7, .ref aq9, .ref aq11, .ref aq16, .ref aq19, .ref aq22, .ref aq37, .ref aq55, .ref aq57, .ref aq59, .int 0, .null])), (aq57, .inr (4, [.ref aq58, .int 0, .int 0])), (mo, .inr (16, [.int 0, .int 0, .ref mq1, .ref mq2, .int 0, .ref mq3, .int 0, .ref mq4, .ref mq5, .ref mq6, .int 0, .ref mq7, .ref mq8, .ref mq9, .int 0, .ref mq10, .ref mq11, .ref mq12, .ref mq13, .ref mq14, .int 0, .ref mq15, .ref mq16, .long 0, .ref mq17, .ref mq18, .ref mq19, .int 0, .null, .int 0, .int 0, .int 0, .null, .int 0, .int 0, .int 0, .null, .ref mq20, .int 0, .int 0, .long 0, .null, .null, .null, .null, .int 0, .int 0, .int 0, .int 0, .int 0, .int 0, .null, .long 0, .long 0, .long 0, .null, .null, .null, .int 0, .int 0, .int 0, .ref mq21, .null, .null])), (o, .inl (y 2, 1, .inr (.inl (fun _ => 0))))]) (hS : va_S A s.heap H locs) {ls : Array Slot} (hl : lv_has ls 8 [(4, .int 0), (3, .ref o), (2, .ref mo), (1, .ref x), (0, .ref b)]) : W p l e room_1 s m #[Value.ref b] below meth c H locs 84 139562 (lw_Z below #[Value.ref b] s) (F0 m 811 ls []) := by
  obtain ⟨hx, hb, hr, hml, hown, hts, hX, hbl, hlocks, hgv⟩ := C0
  have hts := zz_hts hts
  have hbA : ¬ A b := fun q => absurd hbl (Nat.not_lt.mpr (hAf b q))
  refine lv_aload_n hx hb dL_law_811 rfl (lv_at hl 3 rfl) ?_
  refine lv_aload_n hx hb dL_law_812 rfl (lv_at hl 4 rfl) ?_
  refine lv_iload hx hb dL_law_813 (lv_at hl 0 rfl) ?_
  refine lv_iconst (v := 1) hx hb dL_law_815 (by decide) ?_
  refine lv_iadd hx hb dL_law_816 ?_
  refine lv_topi (fun v1 ev1 => ?_)
  have ev1 : v1 = 1 := ev1.trans (by decide +kernel)
  subst ev1
  refine va_sld hx hb hX hbl hbA hS (by unfold vp_in; decide) dL_law_817 ?_
  refine lv_topi (fun x2 ex2 => ?_)
  refine lv_aload_n hx hb dL_law_818 rfl (lv_at hl 1 rfl) ?_
  have hPc := hP.sub (ws' := [(x, .inr (15, [.ref aq1, .ref aq3, .ref aq5, .ref aq7, .ref aq9, .ref aq11, .ref aq16, .ref aq19, .ref aq22, .ref aq37, .ref aq55, .ref aq57, .ref aq59, .int 0, .null])), (aq57, .inr (4, [.ref aq58, .int 0, .int 0])), (o, .inl (y 2, 1, .inr (.inl (fun _ => 0))))]) [0, 1, 3] rfl
  have hDc := hD.sub (ws' := [(x, .inr (15, [.ref aq1, .ref aq3, .ref aq5, .ref aq7, .ref aq9, .ref aq11, .ref aq16, .ref aq19, .ref aq22, .ref aq37, .ref aq55, .ref aq57, .ref aq59, .int 0, .null])), (aq57, .inr (4, [.ref aq58, .int 0, .int 0])), (o, .inl (y 2, 1, .inr (.inl (fun _ => 0))))]) [0, 1, 3] (by decide) rfl
  have hFc := va_free (wc := [(x, .inr (15, [.ref aq1, .ref aq3, .ref aq5, .ref aq7, .ref aq9, .ref aq11, .ref aq16, .ref aq19, .ref aq22, .ref aq37, .ref aq55, .ref aq57, .ref aq59, .int 0, .null])), (aq57, .inr (4, [.ref aq58, .int 0, .int 0])), (o, .inl (y 2, 1, .inr (.inl (fun _ => 0))))]) hD hS hA [0, 1, 3] rfl
  refine va_calli (vx_runSW (As := [.ref x, .int x2, .ref o]) (rest := []) ⟨hx, hb, hml, hown, hts⟩ (c_L_out l hl0 D y H.size x aq57 ((.ref aq1)) ((.ref aq3)) ((.ref aq5)) ((.ref aq7)) ((.ref aq9)) ((.ref aq11)) ((.ref aq16)) ((.ref aq19)) ((.ref aq22)) ((.ref aq37)) ((.ref aq55)) ((.ref aq59)) ((.int 0)) ((.null)) ((.ref aq58)) ((.int 0)) o ((fun _ => 0)) x2) (vx_cwSW 3 hts gv_law_11_c_L_out_112 rfl rfl rfl (by decide +kernel) ⟨(Nat.le_of_ble_eq_true rfl), (Nat.le_of_ble_eq_true rfl)⟩) (zB.preS hPc hDc hK hN hE hO hT hG hS hFc (List.forall_mem_cons.mpr ⟨List.mem_of_getElem? (i := 11) rfl, (List.forall_mem_cons.mpr ⟨List.mem_of_getElem? (i := 7) rfl, (List.forall_mem_cons.mpr ⟨List.mem_of_getElem? (i := 8) rfl, (List.forall_mem_cons.mpr ⟨List.mem_of_getElem? (i := 9) rfl, (List.forall_mem_cons.mpr ⟨List.mem_of_getElem? (i := 12) rfl, (fun _ h => nomatch h)⟩)⟩)⟩)⟩)⟩) (fun _ h => nomatch h) (fun _ h => h) (fun _ h => nomatch h)) rfl rfl hl.1 rfl (lv_room (Nat.le_of_ble_eq_true rfl)) dL_law_819 ⟨(Nat.le_of_ble_eq_true rfl), (Nat.le_of_ble_eq_true rfl)⟩) hS (fun q _ h => hFc q h) hFc (fun r3 u t H1 locs ht hvm hw hB hz1 hk1 hS => ?_)
  obtain ⟨hP1, hD1⟩ := hB
  rw [ht] at hP1
  obtain ⟨hP, hD⟩ := va_join (wr := [(mo, .inr (16, [.int 0, .int 0, .ref mq1, .ref mq2, .int 0, .ref mq3, .int 0, .ref mq4, .ref mq5, .ref mq6, .int 0, .ref mq7, .ref mq8, .ref mq9, .int 0, .ref mq10, .ref mq11, .ref mq12, .ref mq13, .ref mq14, .int 0, .ref mq15, .ref mq16, .long 0, .ref mq17, .ref mq18, .ref mq19, .int 0, .null, .int 0, .int 0, .int 0, .null, .int 0, .int 0, .int 0, .null, .ref mq20, .int 0, .int 0, .long 0, .null, .null, .null, .null, .int 0, .int 0, .int 0, .int 0, .int 0, .int 0, .null, .long 0, .long 0, .long 0, .null, .null, .null, .int 0, .int 0, .int 0, .ref mq21, .null, .null]))]) (w1 := [(o, .inl (y 2, 1, .inr (.inl (fun _ => 0))))]) hP hD [0, 1, 3] [2] rfl rfl (by decide) (by decide) hk1 hFc hP1 hD1
  generalize H1 = H at hP hS ⊢
  have hP : va_P D vwCl [(mo, .inr (16, [.int 0, .int 0, .ref mq1, .ref mq2, .int 0, .ref mq3, .int 0, .ref mq4, .ref mq5, .ref mq6, .int 0, .ref mq7, .ref mq8, .ref mq9, .int 0, .ref mq10, .ref mq11, .ref mq12, .ref mq13, .ref mq14, .int 0, .ref mq15, .ref mq16, .long 0, .ref mq17, .ref mq18, .ref mq19, .int 0, .null, .int 0, .int 0, .int 0, .null, .int 0, .int 0, .int 0, .null, .ref mq20, .int 0, .int 0, .long 0, .null, .null, .null, .null, .int 0, .int 0, .int 0, .int 0, .int 0, .int 0, .null, .long 0, .long 0, .long 0, .null, .null, .null, .int 0, .int 0, .int 0, .ref mq21, .null, .null])), (o, .inl (y 2, 1, .inr (.inl (fun _ => 0))))] H := hP
  have hD : va_D A [(mo, .inr (16, [.int 0, .int 0, .ref mq1, .ref mq2, .int 0, .ref mq3, .int 0, .ref mq4, .ref mq5, .ref mq6, .int 0, .ref mq7, .ref mq8, .ref mq9, .int 0, .ref mq10, .ref mq11, .ref mq12, .ref mq13, .ref mq14, .int 0, .ref mq15, .ref mq16, .long 0, .ref mq17, .ref mq18, .ref mq19, .int 0, .null, .int 0, .int 0, .int 0, .null, .int 0, .int 0, .int 0, .null, .ref mq20, .int 0, .int 0, .long 0, .null, .null, .null, .null, .int 0, .int 0, .int 0, .int 0, .int 0, .int 0, .null, .long 0, .long 0, .long 0, .null, .null, .null, .int 0, .int 0, .int 0, .ref mq21, .null, .null])), (o, .inl (y 2, 1, .inr (.inl (fun _ => 0))))] := hD
  have hw : r3 = 1 := hw
  subst hw
  refine lv_istore (lv' := [(5, .int 1), (4, .int 0), (3, .ref o), (2, .ref mo), (1, .ref x), (0, .ref b)]) hx hb dL_law_822 hl (by decide) rfl (fun ls hl => ?_)
  refine lv_aload_n hx hb dL_law_824 rfl (lv_at hl 3 rfl) ?_
  refine lv_aload_n hx hb dL_law_825 rfl (lv_at hl 5 rfl) ?_
  refine lv_iload hx hb dL_law_826 (lv_at hl 1 rfl) ?_
  refine lv_iconst (v := 1) hx hb dL_law_828 (by decide) ?_
  refine lv_iadd hx hb dL_law_829 ?_
  refine lv_topi (fun v4 ev4 => ?_)
  have ev4 : v4 = 1 := ev4.trans (by decide +kernel)
  subst ev4
  refine va_sld hx hb hX hbl hbA hS (by unfold vp_in; decide) dL_law_830 ?_
  refine lv_topi (fun x5 ex5 => ?_)
  have fx5 : x2 = x5 := ex2.trans ex5.symm
  subst fx5
  have hPc := hP.sub (ws' := [(mo, .inr (16, [.int 0, .int 0, .ref mq1, .ref mq2, .int 0, .ref mq3, .int 0, .ref mq4, .ref mq5, .ref mq6, .int 0, .ref mq7, .ref mq8, .ref mq9, .int 0, .ref mq10, .ref mq11, .ref mq12, .ref mq13, .ref mq14, .int 0, .ref mq15, .ref mq16, .long 0, .ref mq17, .ref mq18, .ref mq19, .int 0, .null, .int 0, .int 0, .int 0, .null, .int 0, .int 0, .int 0, .null, .ref mq20, .int 0, .int 0, .long 0, .null, .null, .null, .null, .int 0, .int 0, .int 0, .int 0, .int 0, .int 0, .null, .long 0, .long 0, .long 0, .null, .null, .null, .int 0, .int 0, .int 0, .ref mq21, .null, .null]))]) [0] rfl
  have hDc := hD.sub (ws' := [(mo, .inr (16, [.int 0, .int 0, .ref mq1, .ref mq2, .int 0, .ref mq3, .int 0, .ref mq4, .ref mq5, .ref mq6, .int 0, .ref mq7, .ref mq8, .ref mq9, .int 0, .ref mq10, .ref mq11, .ref mq12, .ref mq13, .ref mq14, .int 0, .ref mq15, .ref mq16, .long 0, .ref mq17, .ref mq18, .ref mq19, .int 0, .null, .int 0, .int 0, .int 0, .null, .int 0, .int 0, .int 0, .null, .ref mq20, .int 0, .int 0, .long 0, .null, .null, .null, .null, .int 0, .int 0, .int 0, .int 0, .int 0, .int 0, .null, .long 0, .long 0, .long 0, .null, .null, .null, .int 0, .int 0, .int 0, .ref mq21, .null, .null]))]) [0] (by decide) rfl
  have hFc := va_free (wc := [(mo, .inr (16, [.int 0, .int 0, .ref mq1, .ref mq2, .int 0, .ref mq3, .int 0, .ref mq4, .ref mq5, .ref mq6, .int 0, .ref mq7, .ref mq8, .ref mq9, .int 0, .ref mq10, .ref mq11, .ref mq12, .ref mq13, .ref mq14, .int 0, .ref mq15, .ref mq16, .long 0, .ref mq17, .ref mq18, .ref mq19, .int 0, .null, .int 0, .int 0, .int 0, .null, .int 0, .int 0, .int 0, .null, .ref mq20, .int 0, .int 0, .long 0, .null, .null, .null, .null, .int 0, .int 0, .int 0, .int 0, .int 0, .int 0, .null, .long 0, .long 0, .long 0, .null, .null, .null, .int 0, .int 0, .int 0, .ref mq21, .null, .null]))]) hD hS hA [0] rfl
  refine va_calli (va_runV (As := [.int x2]) (rest := []) ⟨hx, hb, hml, hown, hts⟩ (c_M_out l D y H.size mo ((.int 0)) ((.int 0)) ((.ref mq1)) ((.ref mq2)) ((.ref mq3)) ((.int 0)) ((.ref mq4)) ((.ref mq5)) ((.ref mq6)) ((.int 0)) ((.ref mq7)) ((.ref mq8)) ((.ref mq9)) ((.int 0)) ((.ref mq10)) ((.ref mq11)) ((.ref mq12)) ((.ref mq13)) ((.ref mq14)) ((.int 0)) ((.ref mq15)) ((.ref mq16)) ((.long 0)) ((.ref mq17)) ((.ref mq18)) ((.ref mq19)) ((.int 0)) ((.null)) ((.int 0)) ((.int 0)) ((.int 0)) ((.null)) ((.int 0)) ((.int 0)) ((.int 0)) ((.null)) ((.ref mq20)) ((.int 0)) ((.int 0)) ((.long 0)) ((.null)) ((.null)) ((.null)) ((.null)) ((.int 0)) ((.int 0)) ((.int 0)) ((.int 0)) ((.int 0)) ((.int 0)) ((.null)) ((.long 0)) ((.long 0)) ((.long 0)) ((.null)) ((.null)) ((.null)) ((.int 0)) ((.int 0)) ((.int 0)) ((.ref mq21)) ((.null)) ((.null)) x2) (cwV 1 hts gv_law_11_c_M_out_114 rfl rfl rfl (by decide +kernel) ⟨(Nat.le_of_ble_eq_true rfl), (Nat.le_of_ble_eq_true rfl)⟩) (zB.preV hPc hDc hK hN hE hO hT hG hS hFc (fun _ h => nomatch h) (fun _ h => nomatch h) (fun _ h => nomatch h) (fun _ h => nomatch h) (va_recv hK hPc (ci := 16) (q0 := 0) rfl rfl)) rfl rfl hl.1 rfl (lv_room (Nat.le_of_ble_eq_true rfl)) dL_law_831 ⟨(Nat.le_of_ble_eq_true rfl), (Nat.le_of_ble_eq_true rfl)⟩) hS (fun q _ h => hFc q h) hFc (fun r6 u t H1 locs ht hvm hw hB hz1 hk1 hS => ?_)
  obtain ⟨hP1, hD1⟩ := hB
  rw [ht] at hP1
  obtain ⟨hP, hD⟩ := va_join (wr := [(o, .inl (y 2, 1, .inr (.inl (fun _ => 0))))]) (w1 := [(mo, .inr (16, [.int 1, .int 0, .ref mq1, .ref mq2, .int 0, .ref mq3, .int 0, .ref mq4, .ref mq5, .ref mq6, .int 0, .ref mq7, .ref mq8, .ref mq9, .int 0, .ref mq10, .ref mq11, .ref mq12, .ref mq13, .ref mq14, .int 0, .ref mq15, .ref mq16, .long 0, .ref mq17, .ref mq18, .ref mq19, .int 0, .null, .int 0, .int 0, .int 0, .null, .int 0, .int 0, .int 0, .null, .ref mq20, .int 0, .int 0, .long 0, .null, .null, .null, .null, .int 0, .int 0, .int 0, .int 0, .int 0, .int 0, .null, .long 0, .long 0, .long 0, .null, .null, .null, .int 0, .int 0, .int 0, .ref mq21, .null, .null]))]) hP hD [0] [1] rfl rfl (by decide) (by decide) hk1 hFc hP1 hD1
  generalize H1 = H at hP hS ⊢
  have hP : va_P D vwCl [(o, .inl (y 2, 1, .inr (.inl (fun _ => 0)))), (mo, .inr (16, [.int 1, .int 0, .ref mq1, .ref mq2, .int 0, .ref mq3, .int 0, .ref mq4, .ref mq5, .ref mq6, .int 0, .ref mq7, .ref mq8, .ref mq9, .int 0, .ref mq10, .ref mq11, .ref mq12, .ref mq13, .ref mq14, .int 0, .ref mq15, .ref mq16, .long 0, .ref mq17, .ref mq18, .ref mq19, .int 0, .null, .int 0, .int 0, .int 0, .null, .int 0, .int 0, .int 0, .null, .ref mq20, .int 0, .int 0, .long 0, .null, .null, .null, .null, .int 0, .int 0, .int 0, .int 0, .int 0, .int 0, .null, .long 0, .long 0, .long 0, .null, .null, .null, .int 0, .int 0, .int 0, .ref mq21, .null, .null]))] H := hP
  have hD : va_D A [(o, .inl (y 2, 1, .inr (.inl (fun _ => 0)))), (mo, .inr (16, [.int 1, .int 0, .ref mq1, .ref mq2, .int 0, .ref mq3, .int 0, .ref mq4, .ref mq5, .ref mq6, .int 0, .ref mq7, .ref mq8, .ref mq9, .int 0, .ref mq10, .ref mq11, .ref mq12, .ref mq13, .ref mq14, .int 0, .ref mq15, .ref mq16, .long 0, .ref mq17, .ref mq18, .ref mq19, .int 0, .null, .int 0, .int 0, .int 0, .null, .int 0, .int 0, .int 0, .null, .ref mq20, .int 0, .int 0, .long 0, .null, .null, .null, .null, .int 0, .int 0, .int 0, .int 0, .int 0, .int 0, .null, .long 0, .long 0, .long 0, .null, .null, .null, .int 0, .int 0, .int 0, .ref mq21, .null, .null]))] := hD
  have hw : r6 = 0 := hw
  subst hw
  refine lv_istore (lv' := [(6, .int 0), (5, .int 1), (4, .int 0), (3, .ref o), (2, .ref mo), (1, .ref x), (0, .ref b)]) hx hb dL_law_834 hl (by decide) rfl (fun ls hl => ?_)
  refine lv_aload_n hx hb dL_law_836 rfl (lv_at hl 4 rfl) ?_
  have hPc := hP.sub (ws' := [(mo, .inr (16, [.int 1, .int 0, .ref mq1, .ref mq2, .int 0, .ref mq3, .int 0, .ref mq4, .ref mq5, .ref mq6, .int 0, .ref mq7, .ref mq8, .ref mq9, .int 0, .ref mq10, .ref mq11, .ref mq12, .ref mq13, .ref mq14, .int 0, .ref mq15, .ref mq16, .long 0, .ref mq17, .ref mq18, .ref mq19, .int 0, .null, .int 0, .int 0, .int 0, .null, .int 0, .int 0, .int 0, .null, .ref mq20, .int 0, .int 0, .long 0, .null, .null, .null, .null, .int 0, .int 0, .int 0, .int 0, .int 0, .int 0, .null, .long 0, .long 0, .long 0, .null, .null, .null, .int 0, .int 0, .int 0, .ref mq21, .null, .null]))]) [1] rfl
  have hDc := hD.sub (ws' := [(mo, .inr (16, [.int 1, .int 0, .ref mq1, .ref mq2, .int 0, .ref mq3, .int 0, .ref mq4, .ref mq5, .ref mq6, .int 0, .ref mq7, .ref mq8, .ref mq9, .int 0, .ref mq10, .ref mq11, .ref mq12, .ref mq13, .ref mq14, .int 0, .ref mq15, .ref mq16, .long 0, .ref mq17, .ref mq18, .ref mq19, .int 0, .null, .int 0, .int 0, .int 0, .null, .int 0, .int 0, .int 0, .null, .ref mq20, .int 0, .int 0, .long 0, .null, .null, .null, .null, .int 0, .int 0, .int 0, .int 0, .int 0, .int 0, .null, .long 0, .long 0, .long 0, .null, .null, .null, .int 0, .int 0, .int 0, .ref mq21, .null, .null]))]) [1] (by decide) rfl
  have hFc := va_free (wc := [(mo, .inr (16, [.int 1, .int 0, .ref mq1, .ref mq2, .int 0, .ref mq3, .int 0, .ref mq4, .ref mq5, .ref mq6, .int 0, .ref mq7, .ref mq8, .ref mq9, .int 0, .ref mq10, .ref mq11, .ref mq12, .ref mq13, .ref mq14, .int 0, .ref mq15, .ref mq16, .long 0, .ref mq17, .ref mq18, .ref mq19, .int 0, .null, .int 0, .int 0, .int 0, .null, .int 0, .int 0, .int 0, .null, .ref mq20, .int 0, .int 0, .long 0, .null, .null, .null, .null, .int 0, .int 0, .int 0, .int 0, .int 0, .int 0, .null, .long 0, .long 0, .long 0, .null, .null, .null, .int 0, .int 0, .int 0, .ref mq21, .null, .null]))]) hD hS hA [1] rfl
  refine va_calli (va_runV (As := []) (rest := []) ⟨hx, hb, hml, hown, hts⟩ (c_M_thrown l D y H.size mo ((.int 0)) ((.ref mq1)) ((.ref mq2)) ((.int 0)) ((.ref mq3)) ((.int 0)) ((.ref mq4)) ((.ref mq5)) ((.ref mq6)) ((.int 0)) ((.ref mq7)) ((.ref mq8)) ((.ref mq9)) ((.int 0)) ((.ref mq10)) ((.ref mq11)) ((.ref mq12)) ((.ref mq13)) ((.ref mq14)) ((.int 0)) ((.ref mq15)) ((.ref mq16)) ((.long 0)) ((.ref mq17)) ((.ref mq18)) ((.ref mq19)) ((.int 0)) ((.null)) ((.int 0)) ((.int 0)) ((.int 0)) ((.null)) ((.int 0)) ((.int 0)) ((.int 0)) ((.null)) ((.ref mq20)) ((.int 0)) ((.int 0)) ((.long 0)) ((.null)) ((.null)) ((.null)) ((.null)) ((.int 0)) ((.int 0)) ((.int 0)) ((.int 0)) ((.int 0)) ((.int 0)) ((.null)) ((.long 0)) ((.long 0)) ((.long 0)) ((.null)) ((.null)) ((.null)) ((.int 0)) ((.int 0)) ((.int 0)) ((.ref mq21)) ((.null)) ((.null)) 1) (cwV 0 hts gv_law_11_c_M_thrown_82 rfl rfl rfl (by decide +kernel) ⟨(Nat.le_of_ble_eq_true rfl), (Nat.le_of_ble_eq_true rfl)⟩) (zB.preV hPc hDc hK hN hE hO hT hG hS hFc (fun _ h => nomatch h) (fun _ h => nomatch h) (fun _ h => nomatch h) (fun _ h => nomatch h) (va_recv hK hPc (ci := 16) (q0 := 0) rfl rfl)) rfl rfl hl.1 rfl (lv_room (Nat.le_of_ble_eq_true rfl)) dL_law_837 ⟨(Nat.le_of_ble_eq_true rfl), (Nat.le_of_ble_eq_true rfl)⟩) hS (fun q _ h => hFc q h) hFc (fun r7 u t H1 locs ht hvm hw hB hz1 hk1 hS => ?_)
  obtain ⟨hP1, hD1⟩ := hB
  rw [ht] at hP1
  obtain ⟨hP, hD⟩ := va_join (wr := [(o, .inl (y 2, 1, .inr (.inl (fun _ => 0))))]) (w1 := [(mo, .inr (16, [.int 1, .int 0, .ref mq1, .ref mq2, .int 0, .ref mq3, .int 0, .ref mq4, .ref mq5, .ref mq6, .int 0, .ref mq7, .ref mq8, .ref mq9, .int 0, .ref mq10, .ref mq11, .ref mq12, .ref mq13, .ref mq14, .int 0, .ref mq15, .ref mq16, .long 0, .ref mq17, .ref mq18, .ref mq19, .int 0, .null, .int 0, .int 0, .int 0, .null, .int 0, .int 0, .int 0, .null, .ref mq20, .int 0, .int 0, .long 0, .null, .null, .null, .null, .int 0, .int 0, .int 0, .int 0, .int 0, .int 0, .null, .long 0, .long 0, .long 0, .null, .null, .null, .int 0, .int 0, .int 0, .ref mq21, .null, .null]))]) hP hD [1] [0] rfl rfl (by decide) (by decide) hk1 hFc hP1 hD1
  generalize H1 = H at hP hS ⊢
  have hP : va_P D vwCl [(o, .inl (y 2, 1, .inr (.inl (fun _ => 0)))), (mo, .inr (16, [.int 1, .int 0, .ref mq1, .ref mq2, .int 0, .ref mq3, .int 0, .ref mq4, .ref mq5, .ref mq6, .int 0, .ref mq7, .ref mq8, .ref mq9, .int 0, .ref mq10, .ref mq11, .ref mq12, .ref mq13, .ref mq14, .int 0, .ref mq15, .ref mq16, .long 0, .ref mq17, .ref mq18, .ref mq19, .int 0, .null, .int 0, .int 0, .int 0, .null, .int 0, .int 0, .int 0, .null, .ref mq20, .int 0, .int 0, .long 0, .null, .null, .null, .null, .int 0, .int 0, .int 0, .int 0, .int 0, .int 0, .null, .long 0, .long 0, .long 0, .null, .null, .null, .int 0, .int 0, .int 0, .ref mq21, .null, .null]))] H := hP
  have hD : va_D A [(o, .inl (y 2, 1, .inr (.inl (fun _ => 0)))), (mo, .inr (16, [.int 1, .int 0, .ref mq1, .ref mq2, .int 0, .ref mq3, .int 0, .ref mq4, .ref mq5, .ref mq6, .int 0, .ref mq7, .ref mq8, .ref mq9, .int 0, .ref mq10, .ref mq11, .ref mq12, .ref mq13, .ref mq14, .int 0, .ref mq15, .ref mq16, .long 0, .ref mq17, .ref mq18, .ref mq19, .int 0, .null, .int 0, .int 0, .int 0, .null, .int 0, .int 0, .int 0, .null, .ref mq20, .int 0, .int 0, .long 0, .null, .null, .null, .null, .int 0, .int 0, .int 0, .int 0, .int 0, .int 0, .null, .long 0, .long 0, .long 0, .null, .null, .null, .int 0, .int 0, .int 0, .ref mq21, .null, .null]))] := hD
  have hw : r7 = 1 := hw
  subst hw
  refine lv_iload hx hb dL_law_840 (lv_at hl 1 rfl) ?_
  refine lv_icmp_eq (tgt := 847) hx hb dL_law_842 (by decide) (fun _ => ?_) (fun c9 => absurd (by decide) c9)
  refine lv_iload hx hb dL_law_847 (lv_at hl 1 rfl) ?_
  refine lv_if_ne (tgt := 864) hx hb dL_law_849 (by decide) (fun _ => ?_) (fun c9 => absurd c9 (by decide))
  refine lv_goto (tgt := 1017) hx hb dL_law_864 (by decide) ?_
  refine lv_iinc (v := 6) (lv' := [(4, .int 6), (6, .int 0), (5, .int 1), (3, .ref o), (2, .ref mo), (1, .ref x), (0, .ref b)]) hx hb dL_law_1017 hl (k := 2) rfl (by decide) (by decide) rfl (fun ls hl => ?_)
  refine lv_goto (tgt := 23) hx hb dL_law_1020 (by decide) ?_
  refine lv_iload hx hb dL_law_23 (lv_at hl 0 rfl) ?_
  refine lv_aload_n hx hb dL_law_25 rfl (lv_at hl 6 rfl) ?_
  refine va_slen hx hb hX hbl hbA hS dL_law_26 ?_
  refine lv_bipush (v := 6) hx hb dL_law_27 (by decide) ?_
  refine lv_isub hx hb dL_law_29 ?_
  refine lv_topi (fun v8 ev8 => ?_)
  have ev8 : v8 = 0 := ev8.trans (by decide +kernel)
  subst ev8
  refine lv_icmp_gt (tgt := 1023) hx hb dL_law_30 (by decide) (fun _ => ?_) (fun c9 => absurd (by decide) c9)
  refine lv_iconst (v := 1) hx hb dL_law_1023 (by decide) ?_
  refine va_forget (fun q hq => hAf _ (hS.2.2 q hq)) ?_
  refine W.widen (k := 600002) (n := 7302232) (Nat.le_of_ble_eq_true rfl) (Nat.le_of_ble_eq_true rfl) ?_
  exact lw_ret hx hb hr hlocks dL_law_1024
set_option maxRecDepth 100000 in
theorem gv_law_14_c_L_drop_123 : GoodIn zt (va_wsS RL 123 yL_drop wz_c_L_drop) := goodIn_app (goodIn_of _ (by decide +kernel)) gl_c_L_drop
set_option maxRecDepth 100000 in
theorem gv_law_14_c_M_drop_125 : GoodIn zt (wsV RL 125 RX12 yX12_drop wz_c_M_drop) := goodIn_app (goodIn_of _ (by decide +kernel)) gl_c_M_drop
set_option maxRecDepth 100000 in
theorem gv_law_14_c_M_thrown_82 : GoodIn zt (wsV RL 82 RX12 yX12_thrown wz_c_M_thrown) := goodIn_app (goodIn_of _ (by decide +kernel)) gl_c_M_thrown
set_option maxHeartbeats 4000000 in
set_option maxRecDepth 100000 in
theorem law_14 {p : Program} {l : Launch} {e : Env} {s : State} {m : MethodId} {below : List Frame} {meth : Method} {c : Code} {b : Nat} {xs : Nat → Int32} (hl0 : l.stackTraces = false) (C0 : lw_At p s m meth c b 6 xs) {A : Nat → Prop} (hA : ∀ q : Nat, s.heap.size ≤ q → A q) (hAf : ∀ q : Nat, A q → s.heap.size ≤ q) {D : va_G} {y : Nat → ClassId} {e0 e1 e2 e3 e4 sa0 sa1 sa2 sa3 sa4 sa5 sa6 sa7 sa8 sa9 sa10 sa11 st0 st1 st2 st3 st4 st5 st6 st7 st8 st9 st10 st11 : Nat} (hK : va_K D vwCl (zT y) s) (hN : zN zL s) (hE : zE (zEL e0 e1 e2 e3 e4) A s s.heap) (hO : zAO s) (hT : zQ zTh A s s.heap) (hG : zG (zGL e1 e2 e3 e4 sa0 sa1 sa2 sa3 sa4 sa5 sa6 sa7 sa8 sa9 sa10 sa11 st0 st1 st2 st3 st4 st5 st6 st7 st8 st9 st10 st11) A s s.heap) {o x mo aq1 aq3 aq5 aq7 aq9 mq1 mq2 mq3 mq4 mq5 mq6 mq7 mq8 mq9 aq11 aq16 aq19 aq22 aq23 aq24 aq27 aq29 aq35 aq37 aq55 aq57 aq59 mq10 mq11 mq12 mq13 mq14 mq15 mq16 mq17 mq18 mq19 mq20 mq21 : Nat} {H : Heap} {locs : List Loc} (hP : va_P D vwCl [(x, .inr (15, [.ref aq1, .ref aq3, .ref aq5, .ref aq7, .ref aq9, .ref aq11, .ref aq16, .ref aq19, .ref aq22, .ref aq37, .ref aq55, .ref aq57, .ref aq59, .int 0, .null])), (aq22, .inr (11, [.ref aq23, .ref aq24, .ref aq27, .ref aq29, .ref aq35, .null, .null])), (aq23, .inr (3, [.int 0, .ref e0, .int 0])), (mo, .inr (16, [.int 0, .int 0, .ref mq1, .ref mq2, .int 0, .ref mq3, .int 0, .ref mq4, .ref mq5, .ref mq6, .int 0, .ref mq7, .ref mq8, .ref mq9, .int 0, .ref mq10, .ref mq11, .ref mq12, .ref mq13, .ref mq14, .int 0, .ref mq15, .ref mq16, .long 0, .ref mq17, .ref mq18, .ref mq19, .int 0, .null, .int 0, .int 0, .int 0, .null, .int 0, .int 0, .int 0, .null, .ref mq20, .int 0, .int 0, .long 0, .null, .null, .null, .null, .int 0, .int 0, .int 0, .int 0, .int 0, .int 0, .null, .long 0, .long 0, .long 0, .null, .null, .null, .int 0, .int 0, .int 0, .ref mq21, .null, .null])), (o, .inl (y 2, 1, .inr (.inl (fun _ => 0))))] H) (hD : va_D A [(x, .inr (15, [.ref aq1, .ref aq3, .ref aq5, .ref aq7, .ref aq9, .ref aq11, .ref aq16, .ref aq19, .ref aq22, .ref aq37, .ref aq55, .ref aq57, .ref aq59, .int 0, .null])), (aq22, .inr (11, [.ref aq23, .ref aq24, .ref aq27, .ref aq29, .ref aq35, .null, .null])), (aq23, .inr (3, [.int 0, .ref e0, .int 0])), (mo, .inr (16, [.int 0, .int 0, .ref mq1, .ref mq2, .int 0, .ref mq3, .int 0, .ref mq4, .ref mq5, .ref mq6, .int 0, .ref mq7, .ref mq8, .ref mq9, .int 0, .ref mq10, .ref mq11, .ref mq12, .ref mq13, .ref mq14, .int 0, .ref mq15, .ref mq16, .long 0, .ref mq17, .ref mq18, .ref mq19, .int 0, .null, .int 0, .int 0, .int 0, .null, .int 0, .int 0, .int 0, .null, .ref mq20, .int 0, .int 0, .long 0, .null, .null, .null, .null, .int 0, .int 0, .int 0, .int 0, .int 0, .int 0, .null, .long 0, .long 0, .long 0, .null, .null, .null, .int 0, .int 0, .int 0, .ref mq21, .null, .null])), (o, .inl (y 2, 1, .inr (.inl (fun _ => 0))))]) (hS : va_S A s.heap H locs) {ls : Array Slot} (hl : lv_has ls 8 [(4, .int 0), (3, .ref o), (2, .ref mo), (1, .ref x), (0, .ref b)]) : W p l e room_1 s m #[Value.ref b] below meth c H locs 84 139562 (lw_Z below #[Value.ref b] s) (F0 m 893 ls []) := by
  obtain ⟨hx, hb, hr, hml, hown, hts, hX, hbl, hlocks, hgv⟩ := C0
  have hts := zz_hts hts
  have hbA : ¬ A b := fun q => absurd hbl (Nat.not_lt.mpr (hAf b q))
  refine lv_aload_n hx hb dL_law_893 rfl (lv_at hl 3 rfl) ?_
  refine lv_aload_n hx hb dL_law_894 rfl (lv_at hl 4 rfl) ?_
  refine lv_iload hx hb dL_law_895 (lv_at hl 0 rfl) ?_
  refine lv_iconst (v := 1) hx hb dL_law_897 (by decide) ?_
  refine lv_iadd hx hb dL_law_898 ?_
  refine lv_topi (fun v1 ev1 => ?_)
  have ev1 : v1 = 1 := ev1.trans (by decide +kernel)
  subst ev1
  refine va_sld hx hb hX hbl hbA hS (by unfold vp_in; decide) dL_law_899 ?_
  refine lv_topi (fun x2 ex2 => ?_)
  refine lv_aload_n hx hb dL_law_900 rfl (lv_at hl 1 rfl) ?_
  have hPc := hP.sub (ws' := [(x, .inr (15, [.ref aq1, .ref aq3, .ref aq5, .ref aq7, .ref aq9, .ref aq11, .ref aq16, .ref aq19, .ref aq22, .ref aq37, .ref aq55, .ref aq57, .ref aq59, .int 0, .null])), (aq22, .inr (11, [.ref aq23, .ref aq24, .ref aq27, .ref aq29, .ref aq35, .null, .null])), (aq23, .inr (3, [.int 0, .ref e0, .int 0])), (o, .inl (y 2, 1, .inr (.inl (fun _ => 0))))]) [0, 1, 2, 4] rfl
  have hDc := hD.sub (ws' := [(x, .inr (15, [.ref aq1, .ref aq3, .ref aq5, .ref aq7, .ref aq9, .ref aq11, .ref aq16, .ref aq19, .ref aq22, .ref aq37, .ref aq55, .ref aq57, .ref aq59, .int 0, .null])), (aq22, .inr (11, [.ref aq23, .ref aq24, .ref aq27, .ref aq29, .ref aq35, .null, .null])), (aq23, .inr (3, [.int 0, .ref e0, .int 0])), (o, .inl (y 2, 1, .inr (.inl (fun _ => 0))))]) [0, 1, 2, 4] (by decide) rfl
  have hFc := va_free (wc := [(x, .inr (15, [.ref aq1, .ref aq3, .ref aq5, .ref aq7, .ref aq9, .ref aq11, .ref aq16, .ref aq19, .ref aq22, .ref aq37, .ref aq55, .ref aq57, .ref aq59, .int 0, .null])), (aq22, .inr (11, [.ref aq23, .ref aq24, .ref aq27, .ref aq29, .ref aq35, .null, .null])), (aq23, .inr (3, [.int 0, .ref e0, .int 0])), (o, .inl (y 2, 1, .inr (.inl (fun _ => 0))))]) hD hS hA [0, 1, 2, 4] rfl
  refine va_calli (vx_runSW (As := [.ref x, .int x2, .ref o]) (rest := []) ⟨hx, hb, hml, hown, hts⟩ (c_L_drop l hl0 D y H.size x aq22 aq23 ((.ref aq1)) ((.ref aq3)) ((.ref aq5)) ((.ref aq7)) ((.ref aq9)) ((.ref aq11)) ((.ref aq16)) ((.ref aq19)) ((.ref aq37)) ((.ref aq55)) ((.ref aq57)) ((.ref aq59)) ((.int 0)) ((.null)) ((.ref aq24)) ((.ref aq27)) ((.ref aq29)) ((.ref aq35)) ((.null)) ((.null)) ((.int 0)) ((.ref e0)) o ((fun _ => 0)) x2) (vx_cwSW 3 hts gv_law_14_c_L_drop_123 rfl rfl rfl (by decide +kernel) ⟨(Nat.le_of_ble_eq_true rfl), (Nat.le_of_ble_eq_true rfl)⟩) (zB.preS hPc hDc hK hN hE hO hT hG hS hFc (List.forall_mem_cons.mpr ⟨List.mem_of_getElem? (i := 7) rfl, (List.forall_mem_cons.mpr ⟨List.mem_of_getElem? (i := 8) rfl, (List.forall_mem_cons.mpr ⟨List.mem_of_getElem? (i := 9) rfl, (List.forall_mem_cons.mpr ⟨List.mem_of_getElem? (i := 10) rfl, (fun _ h => nomatch h)⟩)⟩)⟩)⟩) (fun _ h => nomatch h) (fun _ h => h) (fun _ h => nomatch h)) rfl rfl hl.1 rfl (lv_room (Nat.le_of_ble_eq_true rfl)) dL_law_901 ⟨(Nat.le_of_ble_eq_true rfl), (Nat.le_of_ble_eq_true rfl)⟩) hS (fun q _ h => hFc q h) hFc (fun r3 u t H1 locs ht hvm hw hB hz1 hk1 hS => ?_)
  obtain ⟨hP1, hD1⟩ := hB
  rw [ht] at hP1
  obtain ⟨hP, hD⟩ := va_join (wr := [(mo, .inr (16, [.int 0, .int 0, .ref mq1, .ref mq2, .int 0, .ref mq3, .int 0, .ref mq4, .ref mq5, .ref mq6, .int 0, .ref mq7, .ref mq8, .ref mq9, .int 0, .ref mq10, .ref mq11, .ref mq12, .ref mq13, .ref mq14, .int 0, .ref mq15, .ref mq16, .long 0, .ref mq17, .ref mq18, .ref mq19, .int 0, .null, .int 0, .int 0, .int 0, .null, .int 0, .int 0, .int 0, .null, .ref mq20, .int 0, .int 0, .long 0, .null, .null, .null, .null, .int 0, .int 0, .int 0, .int 0, .int 0, .int 0, .null, .long 0, .long 0, .long 0, .null, .null, .null, .int 0, .int 0, .int 0, .ref mq21, .null, .null]))]) (w1 := [(o, .inl (y 2, 1, .inr (.inl (fun _ => 0))))]) hP hD [0, 1, 2, 4] [3] rfl rfl (by decide) (by decide) hk1 hFc hP1 hD1
  generalize H1 = H at hP hS ⊢
  have hP : va_P D vwCl [(mo, .inr (16, [.int 0, .int 0, .ref mq1, .ref mq2, .int 0, .ref mq3, .int 0, .ref mq4, .ref mq5, .ref mq6, .int 0, .ref mq7, .ref mq8, .ref mq9, .int 0, .ref mq10, .ref mq11, .ref mq12, .ref mq13, .ref mq14, .int 0, .ref mq15, .ref mq16, .long 0, .ref mq17, .ref mq18, .ref mq19, .int 0, .null, .int 0, .int 0, .int 0, .null, .int 0, .int 0, .int 0, .null, .ref mq20, .int 0, .int 0, .long 0, .null, .null, .null, .null, .int 0, .int 0, .int 0, .int 0, .int 0, .int 0, .null, .long 0, .long 0, .long 0, .null, .null, .null, .int 0, .int 0, .int 0, .ref mq21, .null, .null])), (o, .inl (y 2, 1, .inr (.inl (fun _ => 0))))] H := hP
  have hD : va_D A [(mo, .inr (16, [.int 0, .int 0, .ref mq1, .ref mq2, .int 0, .ref mq3, .int 0, .ref mq4, .ref mq5, .ref mq6, .int 0, .ref mq7, .ref mq8, .ref mq9, .int 0, .ref mq10, .ref mq11, .ref mq12, .ref mq13, .ref mq14, .int 0, .ref mq15, .ref mq16, .long 0, .ref mq17, .ref mq18, .ref mq19, .int 0, .null, .int 0, .int 0, .int 0, .null, .int 0, .int 0, .int 0, .null, .ref mq20, .int 0, .int 0, .long 0, .null, .null, .null, .null, .int 0, .int 0, .int 0, .int 0, .int 0, .int 0, .null, .long 0, .long 0, .long 0, .null, .null, .null, .int 0, .int 0, .int 0, .ref mq21, .null, .null])), (o, .inl (y 2, 1, .inr (.inl (fun _ => 0))))] := hD
  have hw : r3 = 1 := hw
  subst hw
  refine lv_istore (lv' := [(5, .int 1), (4, .int 0), (3, .ref o), (2, .ref mo), (1, .ref x), (0, .ref b)]) hx hb dL_law_904 hl (by decide) rfl (fun ls hl => ?_)
  refine lv_aload_n hx hb dL_law_906 rfl (lv_at hl 3 rfl) ?_
  refine lv_aload_n hx hb dL_law_907 rfl (lv_at hl 5 rfl) ?_
  refine lv_iload hx hb dL_law_908 (lv_at hl 1 rfl) ?_
  refine lv_iconst (v := 1) hx hb dL_law_910 (by decide) ?_
  refine lv_iadd hx hb dL_law_911 ?_
  refine lv_topi (fun v4 ev4 => ?_)
  have ev4 : v4 = 1 := ev4.trans (by decide +kernel)
  subst ev4
  refine va_sld hx hb hX hbl hbA hS (by unfold vp_in; decide) dL_law_912 ?_
  refine lv_topi (fun x5 ex5 => ?_)
  have fx5 : x2 = x5 := ex2.trans ex5.symm
  subst fx5
  have hPc := hP.sub (ws' := [(mo, .inr (16, [.int 0, .int 0, .ref mq1, .ref mq2, .int 0, .ref mq3, .int 0, .ref mq4, .ref mq5, .ref mq6, .int 0, .ref mq7, .ref mq8, .ref mq9, .int 0, .ref mq10, .ref mq11, .ref mq12, .ref mq13, .ref mq14, .int 0, .ref mq15, .ref mq16, .long 0, .ref mq17, .ref mq18, .ref mq19, .int 0, .null, .int 0, .int 0, .int 0, .null, .int 0, .int 0, .int 0, .null, .ref mq20, .int 0, .int 0, .long 0, .null, .null, .null, .null, .int 0, .int 0, .int 0, .int 0, .int 0, .int 0, .null, .long 0, .long 0, .long 0, .null, .null, .null, .int 0, .int 0, .int 0, .ref mq21, .null, .null]))]) [0] rfl
  have hDc := hD.sub (ws' := [(mo, .inr (16, [.int 0, .int 0, .ref mq1, .ref mq2, .int 0, .ref mq3, .int 0, .ref mq4, .ref mq5, .ref mq6, .int 0, .ref mq7, .ref mq8, .ref mq9, .int 0, .ref mq10, .ref mq11, .ref mq12, .ref mq13, .ref mq14, .int 0, .ref mq15, .ref mq16, .long 0, .ref mq17, .ref mq18, .ref mq19, .int 0, .null, .int 0, .int 0, .int 0, .null, .int 0, .int 0, .int 0, .null, .ref mq20, .int 0, .int 0, .long 0, .null, .null, .null, .null, .int 0, .int 0, .int 0, .int 0, .int 0, .int 0, .null, .long 0, .long 0, .long 0, .null, .null, .null, .int 0, .int 0, .int 0, .ref mq21, .null, .null]))]) [0] (by decide) rfl
  have hFc := va_free (wc := [(mo, .inr (16, [.int 0, .int 0, .ref mq1, .ref mq2, .int 0, .ref mq3, .int 0, .ref mq4, .ref mq5, .ref mq6, .int 0, .ref mq7, .ref mq8, .ref mq9, .int 0, .ref mq10, .ref mq11, .ref mq12, .ref mq13, .ref mq14, .int 0, .ref mq15, .ref mq16, .long 0, .ref mq17, .ref mq18, .ref mq19, .int 0, .null, .int 0, .int 0, .int 0, .null, .int 0, .int 0, .int 0, .null, .ref mq20, .int 0, .int 0, .long 0, .null, .null, .null, .null, .int 0, .int 0, .int 0, .int 0, .int 0, .int 0, .null, .long 0, .long 0, .long 0, .null, .null, .null, .int 0, .int 0, .int 0, .ref mq21, .null, .null]))]) hD hS hA [0] rfl
  refine va_calli (va_runV (As := [.int x2]) (rest := []) ⟨hx, hb, hml, hown, hts⟩ (c_M_drop l D y H.size mo ((.int 0)) ((.int 0)) ((.ref mq1)) ((.ref mq2)) ((.int 0)) ((.ref mq3)) ((.ref mq4)) ((.ref mq5)) ((.ref mq6)) ((.int 0)) ((.ref mq7)) ((.ref mq8)) ((.ref mq9)) ((.int 0)) ((.ref mq10)) ((.ref mq11)) ((.ref mq12)) ((.ref mq13)) ((.ref mq14)) ((.int 0)) ((.ref mq15)) ((.ref mq16)) ((.long 0)) ((.ref mq17)) ((.ref mq18)) ((.ref mq19)) ((.int 0)) ((.null)) ((.int 0)) ((.int 0)) ((.int 0)) ((.null)) ((.int 0)) ((.int 0)) ((.int 0)) ((.null)) ((.ref mq20)) ((.int 0)) ((.int 0)) ((.long 0)) ((.null)) ((.null)) ((.null)) ((.null)) ((.int 0)) ((.int 0)) ((.int 0)) ((.int 0)) ((.int 0)) ((.int 0)) ((.null)) ((.long 0)) ((.long 0)) ((.long 0)) ((.null)) ((.null)) ((.null)) ((.int 0)) ((.int 0)) ((.int 0)) ((.ref mq21)) ((.null)) ((.null)) x2) (cwV 1 hts gv_law_14_c_M_drop_125 rfl rfl rfl (by decide +kernel) ⟨(Nat.le_of_ble_eq_true rfl), (Nat.le_of_ble_eq_true rfl)⟩) (zB.preV hPc hDc hK hN hE hO hT hG hS hFc (fun _ h => nomatch h) (fun _ h => nomatch h) (fun _ h => nomatch h) (fun _ h => nomatch h) (va_recv hK hPc (ci := 16) (q0 := 0) rfl rfl)) rfl rfl hl.1 rfl (lv_room (Nat.le_of_ble_eq_true rfl)) dL_law_913 ⟨(Nat.le_of_ble_eq_true rfl), (Nat.le_of_ble_eq_true rfl)⟩) hS (fun q _ h => hFc q h) hFc (fun r6 u t H1 locs ht hvm hw hB hz1 hk1 hS => ?_)
  obtain ⟨hP1, hD1⟩ := hB
  rw [ht] at hP1
  obtain ⟨hP, hD⟩ := va_join (wr := [(o, .inl (y 2, 1, .inr (.inl (fun _ => 0))))]) (w1 := [(mo, .inr (16, [.int 1, .int 0, .ref mq1, .ref mq2, .int 0, .ref mq3, .int 0, .ref mq4, .ref mq5, .ref mq6, .int 0, .ref mq7, .ref mq8, .ref mq9, .int 0, .ref mq10, .ref mq11, .ref mq12, .ref mq13, .ref mq14, .int 0, .ref mq15, .ref mq16, .long 0, .ref mq17, .ref mq18, .ref mq19, .int 0, .null, .int 0, .int 0, .int 0, .null, .int 0, .int 0, .int 0, .null, .ref mq20, .int 0, .int 0, .long 0, .null, .null, .null, .null, .int 0, .int 0, .int 0, .int 0, .int 0, .int 0, .null, .long 0, .long 0, .long 0, .null, .null, .null, .int 0, .int 0, .int 0, .ref mq21, .null, .null]))]) hP hD [0] [1] rfl rfl (by decide) (by decide) hk1 hFc hP1 hD1
  generalize H1 = H at hP hS ⊢
  have hP : va_P D vwCl [(o, .inl (y 2, 1, .inr (.inl (fun _ => 0)))), (mo, .inr (16, [.int 1, .int 0, .ref mq1, .ref mq2, .int 0, .ref mq3, .int 0, .ref mq4, .ref mq5, .ref mq6, .int 0, .ref mq7, .ref mq8, .ref mq9, .int 0, .ref mq10, .ref mq11, .ref mq12, .ref mq13, .ref mq14, .int 0, .ref mq15, .ref mq16, .long 0, .ref mq17, .ref mq18, .ref mq19, .int 0, .null, .int 0, .int 0, .int 0, .null, .int 0, .int 0, .int 0, .null, .ref mq20, .int 0, .int 0, .long 0, .null, .null, .null, .null, .int 0, .int 0, .int 0, .int 0, .int 0, .int 0, .null, .long 0, .long 0, .long 0, .null, .null, .null, .int 0, .int 0, .int 0, .ref mq21, .null, .null]))] H := hP
  have hD : va_D A [(o, .inl (y 2, 1, .inr (.inl (fun _ => 0)))), (mo, .inr (16, [.int 1, .int 0, .ref mq1, .ref mq2, .int 0, .ref mq3, .int 0, .ref mq4, .ref mq5, .ref mq6, .int 0, .ref mq7, .ref mq8, .ref mq9, .int 0, .ref mq10, .ref mq11, .ref mq12, .ref mq13, .ref mq14, .int 0, .ref mq15, .ref mq16, .long 0, .ref mq17, .ref mq18, .ref mq19, .int 0, .null, .int 0, .int 0, .int 0, .null, .int 0, .int 0, .int 0, .null, .ref mq20, .int 0, .int 0, .long 0, .null, .null, .null, .null, .int 0, .int 0, .int 0, .int 0, .int 0, .int 0, .null, .long 0, .long 0, .long 0, .null, .null, .null, .int 0, .int 0, .int 0, .ref mq21, .null, .null]))] := hD
  have hw : r6 = 0 := hw
  subst hw
  refine lv_istore (lv' := [(6, .int 0), (5, .int 1), (4, .int 0), (3, .ref o), (2, .ref mo), (1, .ref x), (0, .ref b)]) hx hb dL_law_916 hl (by decide) rfl (fun ls hl => ?_)
  refine lv_aload_n hx hb dL_law_918 rfl (lv_at hl 4 rfl) ?_
  have hPc := hP.sub (ws' := [(mo, .inr (16, [.int 1, .int 0, .ref mq1, .ref mq2, .int 0, .ref mq3, .int 0, .ref mq4, .ref mq5, .ref mq6, .int 0, .ref mq7, .ref mq8, .ref mq9, .int 0, .ref mq10, .ref mq11, .ref mq12, .ref mq13, .ref mq14, .int 0, .ref mq15, .ref mq16, .long 0, .ref mq17, .ref mq18, .ref mq19, .int 0, .null, .int 0, .int 0, .int 0, .null, .int 0, .int 0, .int 0, .null, .ref mq20, .int 0, .int 0, .long 0, .null, .null, .null, .null, .int 0, .int 0, .int 0, .int 0, .int 0, .int 0, .null, .long 0, .long 0, .long 0, .null, .null, .null, .int 0, .int 0, .int 0, .ref mq21, .null, .null]))]) [1] rfl
  have hDc := hD.sub (ws' := [(mo, .inr (16, [.int 1, .int 0, .ref mq1, .ref mq2, .int 0, .ref mq3, .int 0, .ref mq4, .ref mq5, .ref mq6, .int 0, .ref mq7, .ref mq8, .ref mq9, .int 0, .ref mq10, .ref mq11, .ref mq12, .ref mq13, .ref mq14, .int 0, .ref mq15, .ref mq16, .long 0, .ref mq17, .ref mq18, .ref mq19, .int 0, .null, .int 0, .int 0, .int 0, .null, .int 0, .int 0, .int 0, .null, .ref mq20, .int 0, .int 0, .long 0, .null, .null, .null, .null, .int 0, .int 0, .int 0, .int 0, .int 0, .int 0, .null, .long 0, .long 0, .long 0, .null, .null, .null, .int 0, .int 0, .int 0, .ref mq21, .null, .null]))]) [1] (by decide) rfl
  have hFc := va_free (wc := [(mo, .inr (16, [.int 1, .int 0, .ref mq1, .ref mq2, .int 0, .ref mq3, .int 0, .ref mq4, .ref mq5, .ref mq6, .int 0, .ref mq7, .ref mq8, .ref mq9, .int 0, .ref mq10, .ref mq11, .ref mq12, .ref mq13, .ref mq14, .int 0, .ref mq15, .ref mq16, .long 0, .ref mq17, .ref mq18, .ref mq19, .int 0, .null, .int 0, .int 0, .int 0, .null, .int 0, .int 0, .int 0, .null, .ref mq20, .int 0, .int 0, .long 0, .null, .null, .null, .null, .int 0, .int 0, .int 0, .int 0, .int 0, .int 0, .null, .long 0, .long 0, .long 0, .null, .null, .null, .int 0, .int 0, .int 0, .ref mq21, .null, .null]))]) hD hS hA [1] rfl
  refine va_calli (va_runV (As := []) (rest := []) ⟨hx, hb, hml, hown, hts⟩ (c_M_thrown l D y H.size mo ((.int 0)) ((.ref mq1)) ((.ref mq2)) ((.int 0)) ((.ref mq3)) ((.int 0)) ((.ref mq4)) ((.ref mq5)) ((.ref mq6)) ((.int 0)) ((.ref mq7)) ((.ref mq8)) ((.ref mq9)) ((.int 0)) ((.ref mq10)) ((.ref mq11)) ((.ref mq12)) ((.ref mq13)) ((.ref mq14)) ((.int 0)) ((.ref mq15)) ((.ref mq16)) ((.long 0)) ((.ref mq17)) ((.ref mq18)) ((.ref mq19)) ((.int 0)) ((.null)) ((.int 0)) ((.int 0)) ((.int 0)) ((.null)) ((.int 0)) ((.int 0)) ((.int 0)) ((.null)) ((.ref mq20)) ((.int 0)) ((.int 0)) ((.long 0)) ((.null)) ((.null)) ((.null)) ((.null)) ((.int 0)) ((.int 0)) ((.int 0)) ((.int 0)) ((.int 0)) ((.int 0)) ((.null)) ((.long 0)) ((.long 0)) ((.long 0)) ((.null)) ((.null)) ((.null)) ((.int 0)) ((.int 0)) ((.int 0)) ((.ref mq21)) ((.null)) ((.null)) 1) (cwV 0 hts gv_law_14_c_M_thrown_82 rfl rfl rfl (by decide +kernel) ⟨(Nat.le_of_ble_eq_true rfl), (Nat.le_of_ble_eq_true rfl)⟩) (zB.preV hPc hDc hK hN hE hO hT hG hS hFc (fun _ h => nomatch h) (fun _ h => nomatch h) (fun _ h => nomatch h) (fun _ h => nomatch h) (va_recv hK hPc (ci := 16) (q0 := 0) rfl rfl)) rfl rfl hl.1 rfl (lv_room (Nat.le_of_ble_eq_true rfl)) dL_law_919 ⟨(Nat.le_of_ble_eq_true rfl), (Nat.le_of_ble_eq_true rfl)⟩) hS (fun q _ h => hFc q h) hFc (fun r7 u t H1 locs ht hvm hw hB hz1 hk1 hS => ?_)
  obtain ⟨hP1, hD1⟩ := hB
  rw [ht] at hP1
  obtain ⟨hP, hD⟩ := va_join (wr := [(o, .inl (y 2, 1, .inr (.inl (fun _ => 0))))]) (w1 := [(mo, .inr (16, [.int 1, .int 0, .ref mq1, .ref mq2, .int 0, .ref mq3, .int 0, .ref mq4, .ref mq5, .ref mq6, .int 0, .ref mq7, .ref mq8, .ref mq9, .int 0, .ref mq10, .ref mq11, .ref mq12, .ref mq13, .ref mq14, .int 0, .ref mq15, .ref mq16, .long 0, .ref mq17, .ref mq18, .ref mq19, .int 0, .null, .int 0, .int 0, .int 0, .null, .int 0, .int 0, .int 0, .null, .ref mq20, .int 0, .int 0, .long 0, .null, .null, .null, .null, .int 0, .int 0, .int 0, .int 0, .int 0, .int 0, .null, .long 0, .long 0, .long 0, .null, .null, .null, .int 0, .int 0, .int 0, .ref mq21, .null, .null]))]) hP hD [1] [0] rfl rfl (by decide) (by decide) hk1 hFc hP1 hD1
  generalize H1 = H at hP hS ⊢
  have hP : va_P D vwCl [(o, .inl (y 2, 1, .inr (.inl (fun _ => 0)))), (mo, .inr (16, [.int 1, .int 0, .ref mq1, .ref mq2, .int 0, .ref mq3, .int 0, .ref mq4, .ref mq5, .ref mq6, .int 0, .ref mq7, .ref mq8, .ref mq9, .int 0, .ref mq10, .ref mq11, .ref mq12, .ref mq13, .ref mq14, .int 0, .ref mq15, .ref mq16, .long 0, .ref mq17, .ref mq18, .ref mq19, .int 0, .null, .int 0, .int 0, .int 0, .null, .int 0, .int 0, .int 0, .null, .ref mq20, .int 0, .int 0, .long 0, .null, .null, .null, .null, .int 0, .int 0, .int 0, .int 0, .int 0, .int 0, .null, .long 0, .long 0, .long 0, .null, .null, .null, .int 0, .int 0, .int 0, .ref mq21, .null, .null]))] H := hP
  have hD : va_D A [(o, .inl (y 2, 1, .inr (.inl (fun _ => 0)))), (mo, .inr (16, [.int 1, .int 0, .ref mq1, .ref mq2, .int 0, .ref mq3, .int 0, .ref mq4, .ref mq5, .ref mq6, .int 0, .ref mq7, .ref mq8, .ref mq9, .int 0, .ref mq10, .ref mq11, .ref mq12, .ref mq13, .ref mq14, .int 0, .ref mq15, .ref mq16, .long 0, .ref mq17, .ref mq18, .ref mq19, .int 0, .null, .int 0, .int 0, .int 0, .null, .int 0, .int 0, .int 0, .null, .ref mq20, .int 0, .int 0, .long 0, .null, .null, .null, .null, .int 0, .int 0, .int 0, .int 0, .int 0, .int 0, .null, .long 0, .long 0, .long 0, .null, .null, .null, .int 0, .int 0, .int 0, .ref mq21, .null, .null]))] := hD
  have hw : r7 = 1 := hw
  subst hw
  refine lv_iload hx hb dL_law_922 (lv_at hl 1 rfl) ?_
  refine lv_icmp_eq (tgt := 929) hx hb dL_law_924 (by decide) (fun _ => ?_) (fun c9 => absurd (by decide) c9)
  refine lv_iload hx hb dL_law_929 (lv_at hl 1 rfl) ?_
  refine lv_if_ne (tgt := 946) hx hb dL_law_931 (by decide) (fun _ => ?_) (fun c9 => absurd c9 (by decide))
  refine lv_goto (tgt := 1017) hx hb dL_law_946 (by decide) ?_
  refine lv_iinc (v := 6) (lv' := [(4, .int 6), (6, .int 0), (5, .int 1), (3, .ref o), (2, .ref mo), (1, .ref x), (0, .ref b)]) hx hb dL_law_1017 hl (k := 2) rfl (by decide) (by decide) rfl (fun ls hl => ?_)
  refine lv_goto (tgt := 23) hx hb dL_law_1020 (by decide) ?_
  refine lv_iload hx hb dL_law_23 (lv_at hl 0 rfl) ?_
  refine lv_aload_n hx hb dL_law_25 rfl (lv_at hl 6 rfl) ?_
  refine va_slen hx hb hX hbl hbA hS dL_law_26 ?_
  refine lv_bipush (v := 6) hx hb dL_law_27 (by decide) ?_
  refine lv_isub hx hb dL_law_29 ?_
  refine lv_topi (fun v8 ev8 => ?_)
  have ev8 : v8 = 0 := ev8.trans (by decide +kernel)
  subst ev8
  refine lv_icmp_gt (tgt := 1023) hx hb dL_law_30 (by decide) (fun _ => ?_) (fun c9 => absurd (by decide) c9)
  refine lv_iconst (v := 1) hx hb dL_law_1023 (by decide) ?_
  refine va_forget (fun q hq => hAf _ (hS.2.2 q hq)) ?_
  refine W.widen (k := 600002) (n := 7302232) (Nat.le_of_ble_eq_true rfl) (Nat.le_of_ble_eq_true rfl) ?_
  exact lw_ret hx hb hr hlocks dL_law_1024
set_option maxRecDepth 100000 in
theorem gv_law_3_c_L_look_n_76 : GoodIn zt (va_wsS RL 76 yL_look wz_c_L_look_n) := goodIn_app (goodIn_of _ (by decide +kernel)) gl_c_L_look_n
set_option maxRecDepth 100000 in
theorem gv_law_3_c_M_look_n_81 : GoodIn zt (wsV RL 81 RX12 yX12_look wz_c_M_look_n) := goodIn_app (goodIn_of _ (by decide +kernel)) gl_c_M_look_n
set_option maxRecDepth 100000 in
theorem gv_law_3_c_M_thrown_82 : GoodIn zt (wsV RL 82 RX12 yX12_thrown wz_c_M_thrown) := goodIn_app (goodIn_of _ (by decide +kernel)) gl_c_M_thrown
set_option maxRecDepth 100000 in
theorem gv_law_3_c_L_look_m_76 : GoodIn zt (va_wsS RL 76 yL_look wz_c_L_look_m) := goodIn_app (goodIn_of _ (by decide +kernel)) gl_c_L_look_m
set_option maxRecDepth 100000 in
theorem gv_law_3_c_M_look_m_81 : GoodIn zt (wsV RL 81 RX12 yX12_look wz_c_M_look_m) := goodIn_app (goodIn_of _ (by decide +kernel)) gl_c_M_look_m
set_option maxRecDepth 100000 in
theorem gv_law_3_c_L_look_y_76 : GoodIn zt (va_wsS RL 76 yL_look wz_c_L_look_y) := goodIn_app (goodIn_of _ (by decide +kernel)) gl_c_L_look_y
set_option maxRecDepth 100000 in
theorem gv_law_3_c_M_look_y_81 : GoodIn zt (wsV RL 81 RX12 yX12_look wz_c_M_look_y) := goodIn_app (goodIn_of _ (by decide +kernel)) gl_c_M_look_y
set_option maxHeartbeats 4000000 in
set_option maxRecDepth 100000 in
theorem law_3 {p : Program} {l : Launch} {e : Env} {s : State} {m : MethodId} {below : List Frame} {meth : Method} {c : Code} {b : Nat} {xs : Nat → Int32} (hl0 : l.stackTraces = false) (C0 : lw_At p s m meth c b 6 xs) {A : Nat → Prop} (hA : ∀ q : Nat, s.heap.size ≤ q → A q) (hAf : ∀ q : Nat, A q → s.heap.size ≤ q) {D : va_G} {y : Nat → ClassId} {e0 e1 e2 e3 e4 sa0 sa1 sa2 sa3 sa4 sa5 sa6 sa7 sa8 sa9 sa10 sa11 st0 st1 st2 st3 st4 st5 st6 st7 st8 st9 st10 st11 : Nat} (hK : va_K D vwCl (zT y) s) (hN : zN zL s) (hE : zE (zEL e0 e1 e2 e3 e4) A s s.heap) (hO : zAO s) (hT : zQ zTh A s s.heap) (hG : zG (zGL e1 e2 e3 e4 sa0 sa1 sa2 sa3 sa4 sa5 sa6 sa7 sa8 sa9 sa10 sa11 st0 st1 st2 st3 st4 st5 st6 st7 st8 st9 st10 st11) A s s.heap) {o x mo aq1 aq2 aq3 aq4 aq5 aq7 aq9 mq1 mq2 mq3 mq4 mq5 mq6 mq7 mq8 mq9 aq10 aq11 aq13 aq14 aq16 aq19 aq22 aq37 aq55 aq57 aq59 mq10 mq11 mq12 mq13 mq14 mq15 mq16 mq17 mq18 mq19 mq20 mq21 : Nat} {H : Heap} {locs : List Loc} (hP : va_P D vwCl [(x, .inr (15, [.ref aq1, .ref aq3, .ref aq5, .ref aq7, .ref aq9, .ref aq11, .ref aq16, .ref aq19, .ref aq22, .ref aq37, .ref aq55, .ref aq57, .ref aq59, .int 0, .null])), (aq1, .inr (4, [.ref aq2, .int 0, .int 0])), (aq3, .inr (4, [.ref aq4, .int 0, .int 0])), (aq9, .inr (14, [.ref aq10, .int 0, .int 0])), (aq11, .inr (8, [.ref aq13, .ref aq14, .ref aq13, .int 0, .int 0, .int 0])), (mo, .inr (16, [.int 0, .int 0, .ref mq1, .ref mq2, .int 0, .ref mq3, .int 0, .ref mq4, .ref mq5, .ref mq6, .int 0, .ref mq7, .ref mq8, .ref mq9, .int 0, .ref mq10, .ref mq11, .ref mq12, .ref mq13, .ref mq14, .int 0, .ref mq15, .ref mq16, .long 0, .ref mq17, .ref mq18, .ref mq19, .int 0, .null, .int 0, .int 0, .int 0, .null, .int 0, .int 0, .int 0, .null, .ref mq20, .int 0, .int 0, .long 0, .null, .null, .null, .null, .int 0, .int 0, .int 0, .int 0, .int 0, .int 0, .null, .long 0, .long 0, .long 0, .null, .null, .null, .int 0, .int 0, .int 0, .ref mq21, .null, .null])), (o, .inl (y 2, 1, .inr (.inl (fun _ => 0))))] H) (hD : va_D A [(x, .inr (15, [.ref aq1, .ref aq3, .ref aq5, .ref aq7, .ref aq9, .ref aq11, .ref aq16, .ref aq19, .ref aq22, .ref aq37, .ref aq55, .ref aq57, .ref aq59, .int 0, .null])), (aq1, .inr (4, [.ref aq2, .int 0, .int 0])), (aq3, .inr (4, [.ref aq4, .int 0, .int 0])), (aq9, .inr (14, [.ref aq10, .int 0, .int 0])), (aq11, .inr (8, [.ref aq13, .ref aq14, .ref aq13, .int 0, .int 0, .int 0])), (mo, .inr (16, [.int 0, .int 0, .ref mq1, .ref mq2, .int 0, .ref mq3, .int 0, .ref mq4, .ref mq5, .ref mq6, .int 0, .ref mq7, .ref mq8, .ref mq9, .int 0, .ref mq10, .ref mq11, .ref mq12, .ref mq13, .ref mq14, .int 0, .ref mq15, .ref mq16, .long 0, .ref mq17, .ref mq18, .ref mq19, .int 0, .null, .int 0, .int 0, .int 0, .null, .int 0, .int 0, .int 0, .null, .ref mq20, .int 0, .int 0, .long 0, .null, .null, .null, .null, .int 0, .int 0, .int 0, .int 0, .int 0, .int 0, .null, .long 0, .long 0, .long 0, .null, .null, .null, .int 0, .int 0, .int 0, .ref mq21, .null, .null])), (o, .inl (y 2, 1, .inr (.inl (fun _ => 0))))]) (hS : va_S A s.heap H locs) {ls : Array Slot} (hl : lv_has ls 8 [(4, .int 0), (3, .ref o), (2, .ref mo), (1, .ref x), (0, .ref b)]) : W p l e room_1 s m #[Value.ref b] below meth c H locs 84 139562 (lw_Z below #[Value.ref b] s) (F0 m 215 ls []) := by
  obtain ⟨hx, hb, hr, hml, hown, hts, hX, hbl, hlocks, hgv⟩ := C0
  have hts := zz_hts hts
  have hbA : ¬ A b := fun q => absurd hbl (Nat.not_lt.mpr (hAf b q))
  refine lv_aload_n hx hb dL_law_215 rfl (lv_at hl 3 rfl) ?_
  refine lv_aload_n hx hb dL_law_216 rfl (lv_at hl 4 rfl) ?_
  refine lv_iload hx hb dL_law_217 (lv_at hl 0 rfl) ?_
  refine lv_iconst (v := 1) hx hb dL_law_219 (by decide) ?_
  refine lv_iadd hx hb dL_law_220 ?_
  refine lv_topi (fun v1 ev1 => ?_)
  have ev1 : v1 = 1 := ev1.trans (by decide +kernel)
  subst ev1
  refine va_sld hx hb hX hbl hbA hS (by unfold vp_in; decide) dL_law_221 ?_
  refine lv_topi (fun x2 ex2 => ?_)
  refine lv_i2l hx hb dL_law_222 rfl ?_
  refine lv_topl (fun z3 ez3 => ?_)
  refine lv_bipush (v := 32) hx hb dL_law_223 (by decide) ?_
  refine lv_lshl hx hb dL_law_225 rfl ?_
  refine lv_topl (fun z4 ez4 => ?_)
  refine lv_aload_n hx hb dL_law_226 rfl (lv_at hl 4 rfl) ?_
  refine lv_iload hx hb dL_law_227 (lv_at hl 0 rfl) ?_
  refine lv_iconst (v := 2) hx hb dL_law_229 (by decide) ?_
  refine lv_iadd hx hb dL_law_230 ?_
  refine lv_topi (fun v5 ev5 => ?_)
  have ev5 : v5 = 2 := ev5.trans (by decide +kernel)
  subst ev5
  refine va_sld hx hb hX hbl hbA hS (by unfold vp_in; decide) dL_law_231 ?_
  refine lv_topi (fun x6 ex6 => ?_)
  refine lv_i2l hx hb dL_law_232 rfl ?_
  refine lv_topl (fun z7 ez7 => ?_)
  refine lv_ldc2 (v := 4294967295) hx hb hown (hts (.constantLong RL 60 4294967295) (by decide +kernel)) dL_law_233 ?_
  refine lv_land hx hb dL_law_236 ?_
  refine lv_topl (fun z8 ez8 => ?_)
  refine lv_lor hx hb dL_law_237 ?_
  refine lv_topl (fun z9 ez9 => ?_)
  refine lv_aload_n hx hb dL_law_238 rfl (lv_at hl 1 rfl) ?_
  rcases zz_time z9 with h1 | ⟨h1, h2⟩ | ⟨h1, h2⟩
  · have hPc := hP.sub (ws' := [(x, .inr (15, [.ref aq1, .ref aq3, .ref aq5, .ref aq7, .ref aq9, .ref aq11, .ref aq16, .ref aq19, .ref aq22, .ref aq37, .ref aq55, .ref aq57, .ref aq59, .int 0, .null])), (o, .inl (y 2, 1, .inr (.inl (fun _ => 0))))]) [0, 6] rfl
    have hDc := hD.sub (ws' := [(x, .inr (15, [.ref aq1, .ref aq3, .ref aq5, .ref aq7, .ref aq9, .ref aq11, .ref aq16, .ref aq19, .ref aq22, .ref aq37, .ref aq55, .ref aq57, .ref aq59, .int 0, .null])), (o, .inl (y 2, 1, .inr (.inl (fun _ => 0))))]) [0, 6] (by decide) rfl
    have hFc := va_free (wc := [(x, .inr (15, [.ref aq1, .ref aq3, .ref aq5, .ref aq7, .ref aq9, .ref aq11, .ref aq16, .ref aq19, .ref aq22, .ref aq37, .ref aq55, .ref aq57, .ref aq59, .int 0, .null])), (o, .inl (y 2, 1, .inr (.inl (fun _ => 0))))]) hD hS hA [0, 6] rfl
    refine va_calli (vx_runSW (As := [.ref x, .long z9, .ref o]) (rest := []) ⟨hx, hb, hml, hown, hts⟩ (c_L_look_n l hl0 D y H.size x ((.ref aq1)) ((.ref aq3)) ((.ref aq5)) ((.ref aq7)) ((.ref aq9)) ((.ref aq11)) ((.ref aq16)) ((.ref aq19)) ((.ref aq22)) ((.ref aq37)) ((.ref aq55)) ((.ref aq57)) ((.ref aq59)) ((.int 0)) ((.null)) o ((fun _ => 0)) z9 h1) (vx_cwSW 3 hts gv_law_3_c_L_look_n_76 rfl rfl rfl (by decide +kernel) ⟨(Nat.le_of_ble_eq_true rfl), (Nat.le_of_ble_eq_true rfl)⟩) (zB.preS hPc hDc hK hN hE hO hT hG hS hFc (List.forall_mem_cons.mpr ⟨List.mem_of_getElem? (i := 7) rfl, (List.forall_mem_cons.mpr ⟨List.mem_of_getElem? (i := 8) rfl, (List.forall_mem_cons.mpr ⟨List.mem_of_getElem? (i := 9) rfl, (List.forall_mem_cons.mpr ⟨List.mem_of_getElem? (i := 13) rfl, (fun _ h => nomatch h)⟩)⟩)⟩)⟩) (fun _ h => nomatch h) (fun _ h => h) (fun _ h => nomatch h)) rfl rfl hl.1 rfl (lv_room (Nat.le_of_ble_eq_true rfl)) dL_law_239 ⟨(Nat.le_of_ble_eq_true rfl), (Nat.le_of_ble_eq_true rfl)⟩) hS (fun q _ h => hFc q h) hFc (fun r10 u t H1 locs ht hvm hw hB hz1 hk1 hS => ?_)
    obtain ⟨hP1, hD1⟩ := hB
    rw [ht] at hP1
    obtain ⟨hP, hD⟩ := va_join (wr := [(aq1, .inr (4, [.ref aq2, .int 0, .int 0])), (aq3, .inr (4, [.ref aq4, .int 0, .int 0])), (aq9, .inr (14, [.ref aq10, .int 0, .int 0])), (aq11, .inr (8, [.ref aq13, .ref aq14, .ref aq13, .int 0, .int 0, .int 0])), (mo, .inr (16, [.int 0, .int 0, .ref mq1, .ref mq2, .int 0, .ref mq3, .int 0, .ref mq4, .ref mq5, .ref mq6, .int 0, .ref mq7, .ref mq8, .ref mq9, .int 0, .ref mq10, .ref mq11, .ref mq12, .ref mq13, .ref mq14, .int 0, .ref mq15, .ref mq16, .long 0, .ref mq17, .ref mq18, .ref mq19, .int 0, .null, .int 0, .int 0, .int 0, .null, .int 0, .int 0, .int 0, .null, .ref mq20, .int 0, .int 0, .long 0, .null, .null, .null, .null, .int 0, .int 0, .int 0, .int 0, .int 0, .int 0, .null, .long 0, .long 0, .long 0, .null, .null, .null, .int 0, .int 0, .int 0, .ref mq21, .null, .null]))]) (w1 := [(o, .inl (y 2, 1, .inr (.inl (fun _ => 0))))]) hP hD [0, 6] [1, 2, 3, 4, 5] rfl rfl (by decide) (by decide) hk1 hFc hP1 hD1
    generalize H1 = H at hP hS ⊢
    have hP : va_P D vwCl [(aq1, .inr (4, [.ref aq2, .int 0, .int 0])), (aq3, .inr (4, [.ref aq4, .int 0, .int 0])), (aq9, .inr (14, [.ref aq10, .int 0, .int 0])), (aq11, .inr (8, [.ref aq13, .ref aq14, .ref aq13, .int 0, .int 0, .int 0])), (mo, .inr (16, [.int 0, .int 0, .ref mq1, .ref mq2, .int 0, .ref mq3, .int 0, .ref mq4, .ref mq5, .ref mq6, .int 0, .ref mq7, .ref mq8, .ref mq9, .int 0, .ref mq10, .ref mq11, .ref mq12, .ref mq13, .ref mq14, .int 0, .ref mq15, .ref mq16, .long 0, .ref mq17, .ref mq18, .ref mq19, .int 0, .null, .int 0, .int 0, .int 0, .null, .int 0, .int 0, .int 0, .null, .ref mq20, .int 0, .int 0, .long 0, .null, .null, .null, .null, .int 0, .int 0, .int 0, .int 0, .int 0, .int 0, .null, .long 0, .long 0, .long 0, .null, .null, .null, .int 0, .int 0, .int 0, .ref mq21, .null, .null])), (o, .inl (y 2, 1, .inr (.inl (fun _ => 0))))] H := hP
    have hD : va_D A [(aq1, .inr (4, [.ref aq2, .int 0, .int 0])), (aq3, .inr (4, [.ref aq4, .int 0, .int 0])), (aq9, .inr (14, [.ref aq10, .int 0, .int 0])), (aq11, .inr (8, [.ref aq13, .ref aq14, .ref aq13, .int 0, .int 0, .int 0])), (mo, .inr (16, [.int 0, .int 0, .ref mq1, .ref mq2, .int 0, .ref mq3, .int 0, .ref mq4, .ref mq5, .ref mq6, .int 0, .ref mq7, .ref mq8, .ref mq9, .int 0, .ref mq10, .ref mq11, .ref mq12, .ref mq13, .ref mq14, .int 0, .ref mq15, .ref mq16, .long 0, .ref mq17, .ref mq18, .ref mq19, .int 0, .null, .int 0, .int 0, .int 0, .null, .int 0, .int 0, .int 0, .null, .ref mq20, .int 0, .int 0, .long 0, .null, .null, .null, .null, .int 0, .int 0, .int 0, .int 0, .int 0, .int 0, .null, .long 0, .long 0, .long 0, .null, .null, .null, .int 0, .int 0, .int 0, .ref mq21, .null, .null])), (o, .inl (y 2, 1, .inr (.inl (fun _ => 0))))] := hD
    have hw : r10 = 1 := hw
    subst hw
    refine lv_istore (lv' := [(5, .int 1), (4, .int 0), (3, .ref o), (2, .ref mo), (1, .ref x), (0, .ref b)]) hx hb dL_law_242 hl (by decide) rfl (fun ls hl => ?_)
    refine lv_aload_n hx hb dL_law_244 rfl (lv_at hl 3 rfl) ?_
    refine lv_aload_n hx hb dL_law_245 rfl (lv_at hl 5 rfl) ?_
    refine lv_iload hx hb dL_law_246 (lv_at hl 1 rfl) ?_
    refine lv_iconst (v := 1) hx hb dL_law_248 (by decide) ?_
    refine lv_iadd hx hb dL_law_249 ?_
    refine lv_topi (fun v11 ev11 => ?_)
    have ev11 : v11 = 1 := ev11.trans (by decide +kernel)
    subst ev11
    refine va_sld hx hb hX hbl hbA hS (by unfold vp_in; decide) dL_law_250 ?_
    refine lv_topi (fun x12 ex12 => ?_)
    have fx12 : x2 = x12 := ex2.trans ex12.symm
    subst fx12
    refine lv_i2l hx hb dL_law_251 rfl ?_
    refine lv_topl (fun z13 ez13 => ?_)
    have fz13 : z3 = z13 := ez3.trans ez13.symm
    subst fz13
    refine lv_bipush (v := 32) hx hb dL_law_252 (by decide) ?_
    refine lv_lshl hx hb dL_law_254 rfl ?_
    refine lv_topl (fun z14 ez14 => ?_)
    have fz14 : z4 = z14 := ez4.trans ez14.symm
    subst fz14
    refine lv_aload_n hx hb dL_law_255 rfl (lv_at hl 5 rfl) ?_
    refine lv_iload hx hb dL_law_256 (lv_at hl 1 rfl) ?_
    refine lv_iconst (v := 2) hx hb dL_law_258 (by decide) ?_
    refine lv_iadd hx hb dL_law_259 ?_
    refine lv_topi (fun v15 ev15 => ?_)
    have ev15 : v15 = 2 := ev15.trans (by decide +kernel)
    subst ev15
    refine va_sld hx hb hX hbl hbA hS (by unfold vp_in; decide) dL_law_260 ?_
    refine lv_topi (fun x16 ex16 => ?_)
    have fx16 : x6 = x16 := ex6.trans ex16.symm
    subst fx16
    refine lv_i2l hx hb dL_law_261 rfl ?_
    refine lv_topl (fun z17 ez17 => ?_)
    have fz17 : z7 = z17 := ez7.trans ez17.symm
    subst fz17
    refine lv_ldc2 (v := 4294967295) hx hb hown (hts (.constantLong RL 60 4294967295) (by decide +kernel)) dL_law_262 ?_
    refine lv_land hx hb dL_law_265 ?_
    refine lv_topl (fun z18 ez18 => ?_)
    have fz18 : z8 = z18 := ez8.trans ez18.symm
    subst fz18
    refine lv_lor hx hb dL_law_266 ?_
    refine lv_topl (fun z19 ez19 => ?_)
    have fz19 : z9 = z19 := ez9.trans ez19.symm
    subst fz19
    have hPc := hP.sub (ws' := [(mo, .inr (16, [.int 0, .int 0, .ref mq1, .ref mq2, .int 0, .ref mq3, .int 0, .ref mq4, .ref mq5, .ref mq6, .int 0, .ref mq7, .ref mq8, .ref mq9, .int 0, .ref mq10, .ref mq11, .ref mq12, .ref mq13, .ref mq14, .int 0, .ref mq15, .ref mq16, .long 0, .ref mq17, .ref mq18, .ref mq19, .int 0, .null, .int 0, .int 0, .int 0, .null, .int 0, .int 0, .int 0, .null, .ref mq20, .int 0, .int 0, .long 0, .null, .null, .null, .null, .int 0, .int 0, .int 0, .int 0, .int 0, .int 0, .null, .long 0, .long 0, .long 0, .null, .null, .null, .int 0, .int 0, .int 0, .ref mq21, .null, .null]))]) [4] rfl
    have hDc := hD.sub (ws' := [(mo, .inr (16, [.int 0, .int 0, .ref mq1, .ref mq2, .int 0, .ref mq3, .int 0, .ref mq4, .ref mq5, .ref mq6, .int 0, .ref mq7, .ref mq8, .ref mq9, .int 0, .ref mq10, .ref mq11, .ref mq12, .ref mq13, .ref mq14, .int 0, .ref mq15, .ref mq16, .long 0, .ref mq17, .ref mq18, .ref mq19, .int 0, .null, .int 0, .int 0, .int 0, .null, .int 0, .int 0, .int 0, .null, .ref mq20, .int 0, .int 0, .long 0, .null, .null, .null, .null, .int 0, .int 0, .int 0, .int 0, .int 0, .int 0, .null, .long 0, .long 0, .long 0, .null, .null, .null, .int 0, .int 0, .int 0, .ref mq21, .null, .null]))]) [4] (by decide) rfl
    have hFc := va_free (wc := [(mo, .inr (16, [.int 0, .int 0, .ref mq1, .ref mq2, .int 0, .ref mq3, .int 0, .ref mq4, .ref mq5, .ref mq6, .int 0, .ref mq7, .ref mq8, .ref mq9, .int 0, .ref mq10, .ref mq11, .ref mq12, .ref mq13, .ref mq14, .int 0, .ref mq15, .ref mq16, .long 0, .ref mq17, .ref mq18, .ref mq19, .int 0, .null, .int 0, .int 0, .int 0, .null, .int 0, .int 0, .int 0, .null, .ref mq20, .int 0, .int 0, .long 0, .null, .null, .null, .null, .int 0, .int 0, .int 0, .int 0, .int 0, .int 0, .null, .long 0, .long 0, .long 0, .null, .null, .null, .int 0, .int 0, .int 0, .ref mq21, .null, .null]))]) hD hS hA [4] rfl
    refine va_calli (va_runV (As := [.long z9]) (rest := []) ⟨hx, hb, hml, hown, hts⟩ (c_M_look_n l D y H.size mo ((.int 0)) ((.int 0)) ((.ref mq1)) ((.ref mq2)) ((.int 0)) ((.ref mq3)) ((.int 0)) ((.ref mq4)) ((.ref mq5)) ((.ref mq6)) ((.int 0)) ((.ref mq7)) ((.ref mq8)) ((.ref mq9)) ((.int 0)) ((.ref mq10)) ((.ref mq11)) ((.ref mq12)) ((.ref mq13)) ((.ref mq14)) ((.int 0)) ((.ref mq15)) ((.ref mq16)) ((.long 0)) ((.ref mq17)) ((.ref mq18)) ((.ref mq19)) ((.int 0)) ((.null)) ((.int 0)) ((.int 0)) ((.int 0)) ((.null)) ((.int 0)) ((.int 0)) ((.int 0)) ((.null)) ((.ref mq20)) ((.int 0)) ((.int 0)) ((.long 0)) ((.null)) ((.null)) ((.null)) ((.null)) ((.int 0)) ((.int 0)) ((.int 0)) ((.int 0)) ((.int 0)) ((.int 0)) ((.null)) ((.long 0)) ((.long 0)) ((.long 0)) ((.null)) ((.null)) ((.null)) ((.int 0)) ((.int 0)) ((.int 0)) ((.ref mq21)) ((.null)) ((.null)) z9 h1) (cwV 1 hts gv_law_3_c_M_look_n_81 rfl rfl rfl (by decide +kernel) ⟨(Nat.le_of_ble_eq_true rfl), (Nat.le_of_ble_eq_true rfl)⟩) (zB.preV hPc hDc hK hN hE hO hT hG hS hFc (fun _ h => nomatch h) (fun _ h => nomatch h) (fun _ h => nomatch h) (fun _ h => nomatch h) (va_recv hK hPc (ci := 16) (q0 := 0) rfl rfl)) rfl rfl hl.1 rfl (lv_room (Nat.le_of_ble_eq_true rfl)) dL_law_267 ⟨(Nat.le_of_ble_eq_true rfl), (Nat.le_of_ble_eq_true rfl)⟩) hS (fun q _ h => hFc q h) hFc (fun r20 u t H1 locs ht hvm hw hB hz1 hk1 hS => ?_)
    obtain ⟨hP1, hD1⟩ := hB
    rw [ht] at hP1
    obtain ⟨hP, hD⟩ := va_join (wr := [(aq1, .inr (4, [.ref aq2, .int 0, .int 0])), (aq3, .inr (4, [.ref aq4, .int 0, .int 0])), (aq9, .inr (14, [.ref aq10, .int 0, .int 0])), (aq11, .inr (8, [.ref aq13, .ref aq14, .ref aq13, .int 0, .int 0, .int 0])), (o, .inl (y 2, 1, .inr (.inl (fun _ => 0))))]) (w1 := [(mo, .inr (16, [.int 1, .int 0, .ref mq1, .ref mq2, .int 0, .ref mq3, .int 0, .ref mq4, .ref mq5, .ref mq6, .int 0, .ref mq7, .ref mq8, .ref mq9, .int 0, .ref mq10, .ref mq11, .ref mq12, .ref mq13, .ref mq14, .int 0, .ref mq15, .ref mq16, .long 0, .ref mq17, .ref mq18, .ref mq19, .int 0, .null, .int 0, .int 0, .int 0, .null, .int 0, .int 0, .int 0, .null, .ref mq20, .int 0, .int 0, .long 0, .null, .null, .null, .null, .int 0, .int 0, .int 0, .int 0, .int 0, .int 0, .null, .long 0, .long 0, .long 0, .null, .null, .null, .int 0, .int 0, .int 0, .ref mq21, .null, .null]))]) hP hD [4] [0, 1, 2, 3, 5] rfl rfl (by decide) (by decide) hk1 hFc hP1 hD1
    generalize H1 = H at hP hS ⊢
    have hP : va_P D vwCl [(aq1, .inr (4, [.ref aq2, .int 0, .int 0])), (aq3, .inr (4, [.ref aq4, .int 0, .int 0])), (aq9, .inr (14, [.ref aq10, .int 0, .int 0])), (aq11, .inr (8, [.ref aq13, .ref aq14, .ref aq13, .int 0, .int 0, .int 0])), (o, .inl (y 2, 1, .inr (.inl (fun _ => 0)))), (mo, .inr (16, [.int 1, .int 0, .ref mq1, .ref mq2, .int 0, .ref mq3, .int 0, .ref mq4, .ref mq5, .ref mq6, .int 0, .ref mq7, .ref mq8, .ref mq9, .int 0, .ref mq10, .ref mq11, .ref mq12, .ref mq13, .ref mq14, .int 0, .ref mq15, .ref mq16, .long 0, .ref mq17, .ref mq18, .ref mq19, .int 0, .null, .int 0, .int 0, .int 0, .null, .int 0, .int 0, .int 0, .null, .ref mq20, .int 0, .int 0, .long 0, .null, .null, .null, .null, .int 0, .int 0, .int 0, .int 0, .int 0, .int 0, .null, .long 0, .long 0, .long 0, .null, .null, .null, .int 0, .int 0, .int 0, .ref mq21, .null, .null]))] H := hP
    have hD : va_D A [(aq1, .inr (4, [.ref aq2, .int 0, .int 0])), (aq3, .inr (4, [.ref aq4, .int 0, .int 0])), (aq9, .inr (14, [.ref aq10, .int 0, .int 0])), (aq11, .inr (8, [.ref aq13, .ref aq14, .ref aq13, .int 0, .int 0, .int 0])), (o, .inl (y 2, 1, .inr (.inl (fun _ => 0)))), (mo, .inr (16, [.int 1, .int 0, .ref mq1, .ref mq2, .int 0, .ref mq3, .int 0, .ref mq4, .ref mq5, .ref mq6, .int 0, .ref mq7, .ref mq8, .ref mq9, .int 0, .ref mq10, .ref mq11, .ref mq12, .ref mq13, .ref mq14, .int 0, .ref mq15, .ref mq16, .long 0, .ref mq17, .ref mq18, .ref mq19, .int 0, .null, .int 0, .int 0, .int 0, .null, .int 0, .int 0, .int 0, .null, .ref mq20, .int 0, .int 0, .long 0, .null, .null, .null, .null, .int 0, .int 0, .int 0, .int 0, .int 0, .int 0, .null, .long 0, .long 0, .long 0, .null, .null, .null, .int 0, .int 0, .int 0, .ref mq21, .null, .null]))] := hD
    have hw : r20 = 0 := hw
    subst hw
    refine lv_istore (lv' := [(6, .int 0), (5, .int 1), (4, .int 0), (3, .ref o), (2, .ref mo), (1, .ref x), (0, .ref b)]) hx hb dL_law_270 hl (by decide) rfl (fun ls hl => ?_)
    refine lv_aload_n hx hb dL_law_272 rfl (lv_at hl 4 rfl) ?_
    have hPc := hP.sub (ws' := [(mo, .inr (16, [.int 1, .int 0, .ref mq1, .ref mq2, .int 0, .ref mq3, .int 0, .ref mq4, .ref mq5, .ref mq6, .int 0, .ref mq7, .ref mq8, .ref mq9, .int 0, .ref mq10, .ref mq11, .ref mq12, .ref mq13, .ref mq14, .int 0, .ref mq15, .ref mq16, .long 0, .ref mq17, .ref mq18, .ref mq19, .int 0, .null, .int 0, .int 0, .int 0, .null, .int 0, .int 0, .int 0, .null, .ref mq20, .int 0, .int 0, .long 0, .null, .null, .null, .null, .int 0, .int 0, .int 0, .int 0, .int 0, .int 0, .null, .long 0, .long 0, .long 0, .null, .null, .null, .int 0, .int 0, .int 0, .ref mq21, .null, .null]))]) [5] rfl
    have hDc := hD.sub (ws' := [(mo, .inr (16, [.int 1, .int 0, .ref mq1, .ref mq2, .int 0, .ref mq3, .int 0, .ref mq4, .ref mq5, .ref mq6, .int 0, .ref mq7, .ref mq8, .ref mq9, .int 0, .ref mq10, .ref mq11, .ref mq12, .ref mq13, .ref mq14, .int 0, .ref mq15, .ref mq16, .long 0, .ref mq17, .ref mq18, .ref mq19, .int 0, .null, .int 0, .int 0, .int 0, .null, .int 0, .int 0, .int 0, .null, .ref mq20, .int 0, .int 0, .long 0, .null, .null, .null, .null, .int 0, .int 0, .int 0, .int 0, .int 0, .int 0, .null, .long 0, .long 0, .long 0, .null, .null, .null, .int 0, .int 0, .int 0, .ref mq21, .null, .null]))]) [5] (by decide) rfl
    have hFc := va_free (wc := [(mo, .inr (16, [.int 1, .int 0, .ref mq1, .ref mq2, .int 0, .ref mq3, .int 0, .ref mq4, .ref mq5, .ref mq6, .int 0, .ref mq7, .ref mq8, .ref mq9, .int 0, .ref mq10, .ref mq11, .ref mq12, .ref mq13, .ref mq14, .int 0, .ref mq15, .ref mq16, .long 0, .ref mq17, .ref mq18, .ref mq19, .int 0, .null, .int 0, .int 0, .int 0, .null, .int 0, .int 0, .int 0, .null, .ref mq20, .int 0, .int 0, .long 0, .null, .null, .null, .null, .int 0, .int 0, .int 0, .int 0, .int 0, .int 0, .null, .long 0, .long 0, .long 0, .null, .null, .null, .int 0, .int 0, .int 0, .ref mq21, .null, .null]))]) hD hS hA [5] rfl
    refine va_calli (va_runV (As := []) (rest := []) ⟨hx, hb, hml, hown, hts⟩ (c_M_thrown l D y H.size mo ((.int 0)) ((.ref mq1)) ((.ref mq2)) ((.int 0)) ((.ref mq3)) ((.int 0)) ((.ref mq4)) ((.ref mq5)) ((.ref mq6)) ((.int 0)) ((.ref mq7)) ((.ref mq8)) ((.ref mq9)) ((.int 0)) ((.ref mq10)) ((.ref mq11)) ((.ref mq12)) ((.ref mq13)) ((.ref mq14)) ((.int 0)) ((.ref mq15)) ((.ref mq16)) ((.long 0)) ((.ref mq17)) ((.ref mq18)) ((.ref mq19)) ((.int 0)) ((.null)) ((.int 0)) ((.int 0)) ((.int 0)) ((.null)) ((.int 0)) ((.int 0)) ((.int 0)) ((.null)) ((.ref mq20)) ((.int 0)) ((.int 0)) ((.long 0)) ((.null)) ((.null)) ((.null)) ((.null)) ((.int 0)) ((.int 0)) ((.int 0)) ((.int 0)) ((.int 0)) ((.int 0)) ((.null)) ((.long 0)) ((.long 0)) ((.long 0)) ((.null)) ((.null)) ((.null)) ((.int 0)) ((.int 0)) ((.int 0)) ((.ref mq21)) ((.null)) ((.null)) 1) (cwV 0 hts gv_law_3_c_M_thrown_82 rfl rfl rfl (by decide +kernel) ⟨(Nat.le_of_ble_eq_true rfl), (Nat.le_of_ble_eq_true rfl)⟩) (zB.preV hPc hDc hK hN hE hO hT hG hS hFc (fun _ h => nomatch h) (fun _ h => nomatch h) (fun _ h => nomatch h) (fun _ h => nomatch h) (va_recv hK hPc (ci := 16) (q0 := 0) rfl rfl)) rfl rfl hl.1 rfl (lv_room (Nat.le_of_ble_eq_true rfl)) dL_law_273 ⟨(Nat.le_of_ble_eq_true rfl), (Nat.le_of_ble_eq_true rfl)⟩) hS (fun q _ h => hFc q h) hFc (fun r21 u t H1 locs ht hvm hw hB hz1 hk1 hS => ?_)
    obtain ⟨hP1, hD1⟩ := hB
    rw [ht] at hP1
    obtain ⟨hP, hD⟩ := va_join (wr := [(aq1, .inr (4, [.ref aq2, .int 0, .int 0])), (aq3, .inr (4, [.ref aq4, .int 0, .int 0])), (aq9, .inr (14, [.ref aq10, .int 0, .int 0])), (aq11, .inr (8, [.ref aq13, .ref aq14, .ref aq13, .int 0, .int 0, .int 0])), (o, .inl (y 2, 1, .inr (.inl (fun _ => 0))))]) (w1 := [(mo, .inr (16, [.int 1, .int 0, .ref mq1, .ref mq2, .int 0, .ref mq3, .int 0, .ref mq4, .ref mq5, .ref mq6, .int 0, .ref mq7, .ref mq8, .ref mq9, .int 0, .ref mq10, .ref mq11, .ref mq12, .ref mq13, .ref mq14, .int 0, .ref mq15, .ref mq16, .long 0, .ref mq17, .ref mq18, .ref mq19, .int 0, .null, .int 0, .int 0, .int 0, .null, .int 0, .int 0, .int 0, .null, .ref mq20, .int 0, .int 0, .long 0, .null, .null, .null, .null, .int 0, .int 0, .int 0, .int 0, .int 0, .int 0, .null, .long 0, .long 0, .long 0, .null, .null, .null, .int 0, .int 0, .int 0, .ref mq21, .null, .null]))]) hP hD [5] [0, 1, 2, 3, 4] rfl rfl (by decide) (by decide) hk1 hFc hP1 hD1
    generalize H1 = H at hP hS ⊢
    have hP : va_P D vwCl [(aq1, .inr (4, [.ref aq2, .int 0, .int 0])), (aq3, .inr (4, [.ref aq4, .int 0, .int 0])), (aq9, .inr (14, [.ref aq10, .int 0, .int 0])), (aq11, .inr (8, [.ref aq13, .ref aq14, .ref aq13, .int 0, .int 0, .int 0])), (o, .inl (y 2, 1, .inr (.inl (fun _ => 0)))), (mo, .inr (16, [.int 1, .int 0, .ref mq1, .ref mq2, .int 0, .ref mq3, .int 0, .ref mq4, .ref mq5, .ref mq6, .int 0, .ref mq7, .ref mq8, .ref mq9, .int 0, .ref mq10, .ref mq11, .ref mq12, .ref mq13, .ref mq14, .int 0, .ref mq15, .ref mq16, .long 0, .ref mq17, .ref mq18, .ref mq19, .int 0, .null, .int 0, .int 0, .int 0, .null, .int 0, .int 0, .int 0, .null, .ref mq20, .int 0, .int 0, .long 0, .null, .null, .null, .null, .int 0, .int 0, .int 0, .int 0, .int 0, .int 0, .null, .long 0, .long 0, .long 0, .null, .null, .null, .int 0, .int 0, .int 0, .ref mq21, .null, .null]))] H := hP
    have hD : va_D A [(aq1, .inr (4, [.ref aq2, .int 0, .int 0])), (aq3, .inr (4, [.ref aq4, .int 0, .int 0])), (aq9, .inr (14, [.ref aq10, .int 0, .int 0])), (aq11, .inr (8, [.ref aq13, .ref aq14, .ref aq13, .int 0, .int 0, .int 0])), (o, .inl (y 2, 1, .inr (.inl (fun _ => 0)))), (mo, .inr (16, [.int 1, .int 0, .ref mq1, .ref mq2, .int 0, .ref mq3, .int 0, .ref mq4, .ref mq5, .ref mq6, .int 0, .ref mq7, .ref mq8, .ref mq9, .int 0, .ref mq10, .ref mq11, .ref mq12, .ref mq13, .ref mq14, .int 0, .ref mq15, .ref mq16, .long 0, .ref mq17, .ref mq18, .ref mq19, .int 0, .null, .int 0, .int 0, .int 0, .null, .int 0, .int 0, .int 0, .null, .ref mq20, .int 0, .int 0, .long 0, .null, .null, .null, .null, .int 0, .int 0, .int 0, .int 0, .int 0, .int 0, .null, .long 0, .long 0, .long 0, .null, .null, .null, .int 0, .int 0, .int 0, .ref mq21, .null, .null]))] := hD
    have hw : r21 = 1 := hw
    subst hw
    refine lv_iload hx hb dL_law_276 (lv_at hl 1 rfl) ?_
    refine lv_icmp_eq (tgt := 283) hx hb dL_law_278 (by decide) (fun _ => ?_) (fun c9 => absurd (by decide) c9)
    refine lv_iload hx hb dL_law_283 (lv_at hl 1 rfl) ?_
    refine lv_if_ne (tgt := 300) hx hb dL_law_285 (by decide) (fun _ => ?_) (fun c9 => absurd c9 (by decide))
    refine lv_goto (tgt := 1017) hx hb dL_law_300 (by decide) ?_
    refine lv_iinc (v := 6) (lv' := [(4, .int 6), (6, .int 0), (5, .int 1), (3, .ref o), (2, .ref mo), (1, .ref x), (0, .ref b)]) hx hb dL_law_1017 hl (k := 2) rfl (by decide) (by decide) rfl (fun ls hl => ?_)
    refine lv_goto (tgt := 23) hx hb dL_law_1020 (by decide) ?_
    refine lv_iload hx hb dL_law_23 (lv_at hl 0 rfl) ?_
    refine lv_aload_n hx hb dL_law_25 rfl (lv_at hl 6 rfl) ?_
    refine va_slen hx hb hX hbl hbA hS dL_law_26 ?_
    refine lv_bipush (v := 6) hx hb dL_law_27 (by decide) ?_
    refine lv_isub hx hb dL_law_29 ?_
    refine lv_topi (fun v22 ev22 => ?_)
    have ev22 : v22 = 0 := ev22.trans (by decide +kernel)
    subst ev22
    refine lv_icmp_gt (tgt := 1023) hx hb dL_law_30 (by decide) (fun _ => ?_) (fun c9 => absurd (by decide) c9)
    refine lv_iconst (v := 1) hx hb dL_law_1023 (by decide) ?_
    refine va_forget (fun q hq => hAf _ (hS.2.2 q hq)) ?_
    refine W.widen (k := 600002) (n := 7302232) (Nat.le_of_ble_eq_true rfl) (Nat.le_of_ble_eq_true rfl) ?_
    exact lw_ret hx hb hr hlocks dL_law_1024
  · have hPc := hP.sub (ws' := [(x, .inr (15, [.ref aq1, .ref aq3, .ref aq5, .ref aq7, .ref aq9, .ref aq11, .ref aq16, .ref aq19, .ref aq22, .ref aq37, .ref aq55, .ref aq57, .ref aq59, .int 0, .null])), (o, .inl (y 2, 1, .inr (.inl (fun _ => 0))))]) [0, 6] rfl
    have hDc := hD.sub (ws' := [(x, .inr (15, [.ref aq1, .ref aq3, .ref aq5, .ref aq7, .ref aq9, .ref aq11, .ref aq16, .ref aq19, .ref aq22, .ref aq37, .ref aq55, .ref aq57, .ref aq59, .int 0, .null])), (o, .inl (y 2, 1, .inr (.inl (fun _ => 0))))]) [0, 6] (by decide) rfl
    have hFc := va_free (wc := [(x, .inr (15, [.ref aq1, .ref aq3, .ref aq5, .ref aq7, .ref aq9, .ref aq11, .ref aq16, .ref aq19, .ref aq22, .ref aq37, .ref aq55, .ref aq57, .ref aq59, .int 0, .null])), (o, .inl (y 2, 1, .inr (.inl (fun _ => 0))))]) hD hS hA [0, 6] rfl
    refine va_calli (vx_runSW (As := [.ref x, .long z9, .ref o]) (rest := []) ⟨hx, hb, hml, hown, hts⟩ (c_L_look_m l hl0 D y H.size x ((.ref aq1)) ((.ref aq3)) ((.ref aq5)) ((.ref aq7)) ((.ref aq9)) ((.ref aq11)) ((.ref aq16)) ((.ref aq19)) ((.ref aq22)) ((.ref aq37)) ((.ref aq55)) ((.ref aq57)) ((.ref aq59)) ((.int 0)) ((.null)) o ((fun _ => 0)) z9 h1 h2) (vx_cwSW 3 hts gv_law_3_c_L_look_m_76 rfl rfl rfl (by decide +kernel) ⟨(Nat.le_of_ble_eq_true rfl), (Nat.le_of_ble_eq_true rfl)⟩) (zB.preS hPc hDc hK hN hE hO hT hG hS hFc (List.forall_mem_cons.mpr ⟨List.mem_of_getElem? (i := 7) rfl, (List.forall_mem_cons.mpr ⟨List.mem_of_getElem? (i := 8) rfl, (List.forall_mem_cons.mpr ⟨List.mem_of_getElem? (i := 9) rfl, (List.forall_mem_cons.mpr ⟨List.mem_of_getElem? (i := 13) rfl, (fun _ h => nomatch h)⟩)⟩)⟩)⟩) (fun _ h => nomatch h) (fun _ h => h) (fun _ h => nomatch h)) rfl rfl hl.1 rfl (lv_room (Nat.le_of_ble_eq_true rfl)) dL_law_239 ⟨(Nat.le_of_ble_eq_true rfl), (Nat.le_of_ble_eq_true rfl)⟩) hS (fun q _ h => hFc q h) hFc (fun r23 u t H1 locs ht hvm hw hB hz1 hk1 hS => ?_)
    obtain ⟨hP1, hD1⟩ := hB
    rw [ht] at hP1
    obtain ⟨hP, hD⟩ := va_join (wr := [(aq1, .inr (4, [.ref aq2, .int 0, .int 0])), (aq3, .inr (4, [.ref aq4, .int 0, .int 0])), (aq9, .inr (14, [.ref aq10, .int 0, .int 0])), (aq11, .inr (8, [.ref aq13, .ref aq14, .ref aq13, .int 0, .int 0, .int 0])), (mo, .inr (16, [.int 0, .int 0, .ref mq1, .ref mq2, .int 0, .ref mq3, .int 0, .ref mq4, .ref mq5, .ref mq6, .int 0, .ref mq7, .ref mq8, .ref mq9, .int 0, .ref mq10, .ref mq11, .ref mq12, .ref mq13, .ref mq14, .int 0, .ref mq15, .ref mq16, .long 0, .ref mq17, .ref mq18, .ref mq19, .int 0, .null, .int 0, .int 0, .int 0, .null, .int 0, .int 0, .int 0, .null, .ref mq20, .int 0, .int 0, .long 0, .null, .null, .null, .null, .int 0, .int 0, .int 0, .int 0, .int 0, .int 0, .null, .long 0, .long 0, .long 0, .null, .null, .null, .int 0, .int 0, .int 0, .ref mq21, .null, .null]))]) (w1 := [(o, .inl (y 2, 1, .inr (.inl (fun _ => 0))))]) hP hD [0, 6] [1, 2, 3, 4, 5] rfl rfl (by decide) (by decide) hk1 hFc hP1 hD1
    generalize H1 = H at hP hS ⊢
    have hP : va_P D vwCl [(aq1, .inr (4, [.ref aq2, .int 0, .int 0])), (aq3, .inr (4, [.ref aq4, .int 0, .int 0])), (aq9, .inr (14, [.ref aq10, .int 0, .int 0])), (aq11, .inr (8, [.ref aq13, .ref aq14, .ref aq13, .int 0, .int 0, .int 0])), (mo, .inr (16, [.int 0, .int 0, .ref mq1, .ref mq2, .int 0, .ref mq3, .int 0, .ref mq4, .ref mq5, .ref mq6, .int 0, .ref mq7, .ref mq8, .ref mq9, .int 0, .ref mq10, .ref mq11, .ref mq12, .ref mq13, .ref mq14, .int 0, .ref mq15, .ref mq16, .long 0, .ref mq17, .ref mq18, .ref mq19, .int 0, .null, .int 0, .int 0, .int 0, .null, .int 0, .int 0, .int 0, .null, .ref mq20, .int 0, .int 0, .long 0, .null, .null, .null, .null, .int 0, .int 0, .int 0, .int 0, .int 0, .int 0, .null, .long 0, .long 0, .long 0, .null, .null, .null, .int 0, .int 0, .int 0, .ref mq21, .null, .null])), (o, .inl (y 2, 1, .inr (.inl (fun _ => 0))))] H := hP
    have hD : va_D A [(aq1, .inr (4, [.ref aq2, .int 0, .int 0])), (aq3, .inr (4, [.ref aq4, .int 0, .int 0])), (aq9, .inr (14, [.ref aq10, .int 0, .int 0])), (aq11, .inr (8, [.ref aq13, .ref aq14, .ref aq13, .int 0, .int 0, .int 0])), (mo, .inr (16, [.int 0, .int 0, .ref mq1, .ref mq2, .int 0, .ref mq3, .int 0, .ref mq4, .ref mq5, .ref mq6, .int 0, .ref mq7, .ref mq8, .ref mq9, .int 0, .ref mq10, .ref mq11, .ref mq12, .ref mq13, .ref mq14, .int 0, .ref mq15, .ref mq16, .long 0, .ref mq17, .ref mq18, .ref mq19, .int 0, .null, .int 0, .int 0, .int 0, .null, .int 0, .int 0, .int 0, .null, .ref mq20, .int 0, .int 0, .long 0, .null, .null, .null, .null, .int 0, .int 0, .int 0, .int 0, .int 0, .int 0, .null, .long 0, .long 0, .long 0, .null, .null, .null, .int 0, .int 0, .int 0, .ref mq21, .null, .null])), (o, .inl (y 2, 1, .inr (.inl (fun _ => 0))))] := hD
    have hw : r23 = 1 := hw
    subst hw
    refine lv_istore (lv' := [(5, .int 1), (4, .int 0), (3, .ref o), (2, .ref mo), (1, .ref x), (0, .ref b)]) hx hb dL_law_242 hl (by decide) rfl (fun ls hl => ?_)
    refine lv_aload_n hx hb dL_law_244 rfl (lv_at hl 3 rfl) ?_
    refine lv_aload_n hx hb dL_law_245 rfl (lv_at hl 5 rfl) ?_
    refine lv_iload hx hb dL_law_246 (lv_at hl 1 rfl) ?_
    refine lv_iconst (v := 1) hx hb dL_law_248 (by decide) ?_
    refine lv_iadd hx hb dL_law_249 ?_
    refine lv_topi (fun v24 ev24 => ?_)
    have ev24 : v24 = 1 := ev24.trans (by decide +kernel)
    subst ev24
    refine va_sld hx hb hX hbl hbA hS (by unfold vp_in; decide) dL_law_250 ?_
    refine lv_topi (fun x25 ex25 => ?_)
    have fx25 : x2 = x25 := ex2.trans ex25.symm
    subst fx25
    refine lv_i2l hx hb dL_law_251 rfl ?_
    refine lv_topl (fun z26 ez26 => ?_)
    have fz26 : z3 = z26 := ez3.trans ez26.symm
    subst fz26
    refine lv_bipush (v := 32) hx hb dL_law_252 (by decide) ?_
    refine lv_lshl hx hb dL_law_254 rfl ?_
    refine lv_topl (fun z27 ez27 => ?_)
    have fz27 : z4 = z27 := ez4.trans ez27.symm
    subst fz27
    refine lv_aload_n hx hb dL_law_255 rfl (lv_at hl 5 rfl) ?_
    refine lv_iload hx hb dL_law_256 (lv_at hl 1 rfl) ?_
    refine lv_iconst (v := 2) hx hb dL_law_258 (by decide) ?_
    refine lv_iadd hx hb dL_law_259 ?_
    refine lv_topi (fun v28 ev28 => ?_)
    have ev28 : v28 = 2 := ev28.trans (by decide +kernel)
    subst ev28
    refine va_sld hx hb hX hbl hbA hS (by unfold vp_in; decide) dL_law_260 ?_
    refine lv_topi (fun x29 ex29 => ?_)
    have fx29 : x6 = x29 := ex6.trans ex29.symm
    subst fx29
    refine lv_i2l hx hb dL_law_261 rfl ?_
    refine lv_topl (fun z30 ez30 => ?_)
    have fz30 : z7 = z30 := ez7.trans ez30.symm
    subst fz30
    refine lv_ldc2 (v := 4294967295) hx hb hown (hts (.constantLong RL 60 4294967295) (by decide +kernel)) dL_law_262 ?_
    refine lv_land hx hb dL_law_265 ?_
    refine lv_topl (fun z31 ez31 => ?_)
    have fz31 : z8 = z31 := ez8.trans ez31.symm
    subst fz31
    refine lv_lor hx hb dL_law_266 ?_
    refine lv_topl (fun z32 ez32 => ?_)
    have fz32 : z9 = z32 := ez9.trans ez32.symm
    subst fz32
    have hPc := hP.sub (ws' := [(mo, .inr (16, [.int 0, .int 0, .ref mq1, .ref mq2, .int 0, .ref mq3, .int 0, .ref mq4, .ref mq5, .ref mq6, .int 0, .ref mq7, .ref mq8, .ref mq9, .int 0, .ref mq10, .ref mq11, .ref mq12, .ref mq13, .ref mq14, .int 0, .ref mq15, .ref mq16, .long 0, .ref mq17, .ref mq18, .ref mq19, .int 0, .null, .int 0, .int 0, .int 0, .null, .int 0, .int 0, .int 0, .null, .ref mq20, .int 0, .int 0, .long 0, .null, .null, .null, .null, .int 0, .int 0, .int 0, .int 0, .int 0, .int 0, .null, .long 0, .long 0, .long 0, .null, .null, .null, .int 0, .int 0, .int 0, .ref mq21, .null, .null]))]) [4] rfl
    have hDc := hD.sub (ws' := [(mo, .inr (16, [.int 0, .int 0, .ref mq1, .ref mq2, .int 0, .ref mq3, .int 0, .ref mq4, .ref mq5, .ref mq6, .int 0, .ref mq7, .ref mq8, .ref mq9, .int 0, .ref mq10, .ref mq11, .ref mq12, .ref mq13, .ref mq14, .int 0, .ref mq15, .ref mq16, .long 0, .ref mq17, .ref mq18, .ref mq19, .int 0, .null, .int 0, .int 0, .int 0, .null, .int 0, .int 0, .int 0, .null, .ref mq20, .int 0, .int 0, .long 0, .null, .null, .null, .null, .int 0, .int 0, .int 0, .int 0, .int 0, .int 0, .null, .long 0, .long 0, .long 0, .null, .null, .null, .int 0, .int 0, .int 0, .ref mq21, .null, .null]))]) [4] (by decide) rfl
    have hFc := va_free (wc := [(mo, .inr (16, [.int 0, .int 0, .ref mq1, .ref mq2, .int 0, .ref mq3, .int 0, .ref mq4, .ref mq5, .ref mq6, .int 0, .ref mq7, .ref mq8, .ref mq9, .int 0, .ref mq10, .ref mq11, .ref mq12, .ref mq13, .ref mq14, .int 0, .ref mq15, .ref mq16, .long 0, .ref mq17, .ref mq18, .ref mq19, .int 0, .null, .int 0, .int 0, .int 0, .null, .int 0, .int 0, .int 0, .null, .ref mq20, .int 0, .int 0, .long 0, .null, .null, .null, .null, .int 0, .int 0, .int 0, .int 0, .int 0, .int 0, .null, .long 0, .long 0, .long 0, .null, .null, .null, .int 0, .int 0, .int 0, .ref mq21, .null, .null]))]) hD hS hA [4] rfl
    refine va_calli (va_runV (As := [.long z9]) (rest := []) ⟨hx, hb, hml, hown, hts⟩ (c_M_look_m l D y H.size mo ((.int 0)) ((.int 0)) ((.ref mq1)) ((.ref mq2)) ((.int 0)) ((.ref mq3)) ((.int 0)) ((.ref mq4)) ((.ref mq5)) ((.ref mq6)) ((.int 0)) ((.ref mq7)) ((.ref mq8)) ((.ref mq9)) ((.int 0)) ((.ref mq10)) ((.ref mq11)) ((.ref mq12)) ((.ref mq13)) ((.ref mq14)) ((.int 0)) ((.ref mq15)) ((.ref mq16)) ((.long 0)) ((.ref mq17)) ((.ref mq18)) ((.ref mq19)) ((.int 0)) ((.null)) ((.int 0)) ((.int 0)) ((.int 0)) ((.null)) ((.int 0)) ((.int 0)) ((.int 0)) ((.null)) ((.ref mq20)) ((.int 0)) ((.int 0)) ((.long 0)) ((.null)) ((.null)) ((.null)) ((.null)) ((.int 0)) ((.int 0)) ((.int 0)) ((.int 0)) ((.int 0)) ((.int 0)) ((.null)) ((.long 0)) ((.long 0)) ((.long 0)) ((.null)) ((.null)) ((.null)) ((.int 0)) ((.int 0)) ((.int 0)) ((.ref mq21)) ((.null)) ((.null)) z9 h1 h2) (cwV 1 hts gv_law_3_c_M_look_m_81 rfl rfl rfl (by decide +kernel) ⟨(Nat.le_of_ble_eq_true rfl), (Nat.le_of_ble_eq_true rfl)⟩) (zB.preV hPc hDc hK hN hE hO hT hG hS hFc (fun _ h => nomatch h) (fun _ h => nomatch h) (fun _ h => nomatch h) (fun _ h => nomatch h) (va_recv hK hPc (ci := 16) (q0 := 0) rfl rfl)) rfl rfl hl.1 rfl (lv_room (Nat.le_of_ble_eq_true rfl)) dL_law_267 ⟨(Nat.le_of_ble_eq_true rfl), (Nat.le_of_ble_eq_true rfl)⟩) hS (fun q _ h => hFc q h) hFc (fun r33 u t H1 locs ht hvm hw hB hz1 hk1 hS => ?_)
    obtain ⟨hP1, hD1⟩ := hB
    rw [ht] at hP1
    obtain ⟨hP, hD⟩ := va_join (wr := [(aq1, .inr (4, [.ref aq2, .int 0, .int 0])), (aq3, .inr (4, [.ref aq4, .int 0, .int 0])), (aq9, .inr (14, [.ref aq10, .int 0, .int 0])), (aq11, .inr (8, [.ref aq13, .ref aq14, .ref aq13, .int 0, .int 0, .int 0])), (o, .inl (y 2, 1, .inr (.inl (fun _ => 0))))]) (w1 := [(mo, .inr (16, [.int 1, .int 0, .ref mq1, .ref mq2, .int 0, .ref mq3, .int 0, .ref mq4, .ref mq5, .ref mq6, .int 0, .ref mq7, .ref mq8, .ref mq9, .int 0, .ref mq10, .ref mq11, .ref mq12, .ref mq13, .ref mq14, .int 0, .ref mq15, .ref mq16, .long 0, .ref mq17, .ref mq18, .ref mq19, .int 0, .null, .int 0, .int 0, .int 0, .null, .int 0, .int 0, .int 0, .null, .ref mq20, .int 0, .int 0, .long 0, .null, .null, .null, .null, .int 0, .int 0, .int 0, .int 0, .int 0, .int 0, .null, .long 0, .long 0, .long 0, .null, .null, .null, .int 0, .int 0, .int 0, .ref mq21, .null, .null]))]) hP hD [4] [0, 1, 2, 3, 5] rfl rfl (by decide) (by decide) hk1 hFc hP1 hD1
    generalize H1 = H at hP hS ⊢
    have hP : va_P D vwCl [(aq1, .inr (4, [.ref aq2, .int 0, .int 0])), (aq3, .inr (4, [.ref aq4, .int 0, .int 0])), (aq9, .inr (14, [.ref aq10, .int 0, .int 0])), (aq11, .inr (8, [.ref aq13, .ref aq14, .ref aq13, .int 0, .int 0, .int 0])), (o, .inl (y 2, 1, .inr (.inl (fun _ => 0)))), (mo, .inr (16, [.int 1, .int 0, .ref mq1, .ref mq2, .int 0, .ref mq3, .int 0, .ref mq4, .ref mq5, .ref mq6, .int 0, .ref mq7, .ref mq8, .ref mq9, .int 0, .ref mq10, .ref mq11, .ref mq12, .ref mq13, .ref mq14, .int 0, .ref mq15, .ref mq16, .long 0, .ref mq17, .ref mq18, .ref mq19, .int 0, .null, .int 0, .int 0, .int 0, .null, .int 0, .int 0, .int 0, .null, .ref mq20, .int 0, .int 0, .long 0, .null, .null, .null, .null, .int 0, .int 0, .int 0, .int 0, .int 0, .int 0, .null, .long 0, .long 0, .long 0, .null, .null, .null, .int 0, .int 0, .int 0, .ref mq21, .null, .null]))] H := hP
    have hD : va_D A [(aq1, .inr (4, [.ref aq2, .int 0, .int 0])), (aq3, .inr (4, [.ref aq4, .int 0, .int 0])), (aq9, .inr (14, [.ref aq10, .int 0, .int 0])), (aq11, .inr (8, [.ref aq13, .ref aq14, .ref aq13, .int 0, .int 0, .int 0])), (o, .inl (y 2, 1, .inr (.inl (fun _ => 0)))), (mo, .inr (16, [.int 1, .int 0, .ref mq1, .ref mq2, .int 0, .ref mq3, .int 0, .ref mq4, .ref mq5, .ref mq6, .int 0, .ref mq7, .ref mq8, .ref mq9, .int 0, .ref mq10, .ref mq11, .ref mq12, .ref mq13, .ref mq14, .int 0, .ref mq15, .ref mq16, .long 0, .ref mq17, .ref mq18, .ref mq19, .int 0, .null, .int 0, .int 0, .int 0, .null, .int 0, .int 0, .int 0, .null, .ref mq20, .int 0, .int 0, .long 0, .null, .null, .null, .null, .int 0, .int 0, .int 0, .int 0, .int 0, .int 0, .null, .long 0, .long 0, .long 0, .null, .null, .null, .int 0, .int 0, .int 0, .ref mq21, .null, .null]))] := hD
    have hw : r33 = 0 := hw
    subst hw
    refine lv_istore (lv' := [(6, .int 0), (5, .int 1), (4, .int 0), (3, .ref o), (2, .ref mo), (1, .ref x), (0, .ref b)]) hx hb dL_law_270 hl (by decide) rfl (fun ls hl => ?_)
    refine lv_aload_n hx hb dL_law_272 rfl (lv_at hl 4 rfl) ?_
    have hPc := hP.sub (ws' := [(mo, .inr (16, [.int 1, .int 0, .ref mq1, .ref mq2, .int 0, .ref mq3, .int 0, .ref mq4, .ref mq5, .ref mq6, .int 0, .ref mq7, .ref mq8, .ref mq9, .int 0, .ref mq10, .ref mq11, .ref mq12, .ref mq13, .ref mq14, .int 0, .ref mq15, .ref mq16, .long 0, .ref mq17, .ref mq18, .ref mq19, .int 0, .null, .int 0, .int 0, .int 0, .null, .int 0, .int 0, .int 0, .null, .ref mq20, .int 0, .int 0, .long 0, .null, .null, .null, .null, .int 0, .int 0, .int 0, .int 0, .int 0, .int 0, .null, .long 0, .long 0, .long 0, .null, .null, .null, .int 0, .int 0, .int 0, .ref mq21, .null, .null]))]) [5] rfl
    have hDc := hD.sub (ws' := [(mo, .inr (16, [.int 1, .int 0, .ref mq1, .ref mq2, .int 0, .ref mq3, .int 0, .ref mq4, .ref mq5, .ref mq6, .int 0, .ref mq7, .ref mq8, .ref mq9, .int 0, .ref mq10, .ref mq11, .ref mq12, .ref mq13, .ref mq14, .int 0, .ref mq15, .ref mq16, .long 0, .ref mq17, .ref mq18, .ref mq19, .int 0, .null, .int 0, .int 0, .int 0, .null, .int 0, .int 0, .int 0, .null, .ref mq20, .int 0, .int 0, .long 0, .null, .null, .null, .null, .int 0, .int 0, .int 0, .int 0, .int 0, .int 0, .null, .long 0, .long 0, .long 0, .null, .null, .null, .int 0, .int 0, .int 0, .ref mq21, .null, .null]))]) [5] (by decide) rfl
    have hFc := va_free (wc := [(mo, .inr (16, [.int 1, .int 0, .ref mq1, .ref mq2, .int 0, .ref mq3, .int 0, .ref mq4, .ref mq5, .ref mq6, .int 0, .ref mq7, .ref mq8, .ref mq9, .int 0, .ref mq10, .ref mq11, .ref mq12, .ref mq13, .ref mq14, .int 0, .ref mq15, .ref mq16, .long 0, .ref mq17, .ref mq18, .ref mq19, .int 0, .null, .int 0, .int 0, .int 0, .null, .int 0, .int 0, .int 0, .null, .ref mq20, .int 0, .int 0, .long 0, .null, .null, .null, .null, .int 0, .int 0, .int 0, .int 0, .int 0, .int 0, .null, .long 0, .long 0, .long 0, .null, .null, .null, .int 0, .int 0, .int 0, .ref mq21, .null, .null]))]) hD hS hA [5] rfl
    refine va_calli (va_runV (As := []) (rest := []) ⟨hx, hb, hml, hown, hts⟩ (c_M_thrown l D y H.size mo ((.int 0)) ((.ref mq1)) ((.ref mq2)) ((.int 0)) ((.ref mq3)) ((.int 0)) ((.ref mq4)) ((.ref mq5)) ((.ref mq6)) ((.int 0)) ((.ref mq7)) ((.ref mq8)) ((.ref mq9)) ((.int 0)) ((.ref mq10)) ((.ref mq11)) ((.ref mq12)) ((.ref mq13)) ((.ref mq14)) ((.int 0)) ((.ref mq15)) ((.ref mq16)) ((.long 0)) ((.ref mq17)) ((.ref mq18)) ((.ref mq19)) ((.int 0)) ((.null)) ((.int 0)) ((.int 0)) ((.int 0)) ((.null)) ((.int 0)) ((.int 0)) ((.int 0)) ((.null)) ((.ref mq20)) ((.int 0)) ((.int 0)) ((.long 0)) ((.null)) ((.null)) ((.null)) ((.null)) ((.int 0)) ((.int 0)) ((.int 0)) ((.int 0)) ((.int 0)) ((.int 0)) ((.null)) ((.long 0)) ((.long 0)) ((.long 0)) ((.null)) ((.null)) ((.null)) ((.int 0)) ((.int 0)) ((.int 0)) ((.ref mq21)) ((.null)) ((.null)) 1) (cwV 0 hts gv_law_3_c_M_thrown_82 rfl rfl rfl (by decide +kernel) ⟨(Nat.le_of_ble_eq_true rfl), (Nat.le_of_ble_eq_true rfl)⟩) (zB.preV hPc hDc hK hN hE hO hT hG hS hFc (fun _ h => nomatch h) (fun _ h => nomatch h) (fun _ h => nomatch h) (fun _ h => nomatch h) (va_recv hK hPc (ci := 16) (q0 := 0) rfl rfl)) rfl rfl hl.1 rfl (lv_room (Nat.le_of_ble_eq_true rfl)) dL_law_273 ⟨(Nat.le_of_ble_eq_true rfl), (Nat.le_of_ble_eq_true rfl)⟩) hS (fun q _ h => hFc q h) hFc (fun r34 u t H1 locs ht hvm hw hB hz1 hk1 hS => ?_)
    obtain ⟨hP1, hD1⟩ := hB
    rw [ht] at hP1
    obtain ⟨hP, hD⟩ := va_join (wr := [(aq1, .inr (4, [.ref aq2, .int 0, .int 0])), (aq3, .inr (4, [.ref aq4, .int 0, .int 0])), (aq9, .inr (14, [.ref aq10, .int 0, .int 0])), (aq11, .inr (8, [.ref aq13, .ref aq14, .ref aq13, .int 0, .int 0, .int 0])), (o, .inl (y 2, 1, .inr (.inl (fun _ => 0))))]) (w1 := [(mo, .inr (16, [.int 1, .int 0, .ref mq1, .ref mq2, .int 0, .ref mq3, .int 0, .ref mq4, .ref mq5, .ref mq6, .int 0, .ref mq7, .ref mq8, .ref mq9, .int 0, .ref mq10, .ref mq11, .ref mq12, .ref mq13, .ref mq14, .int 0, .ref mq15, .ref mq16, .long 0, .ref mq17, .ref mq18, .ref mq19, .int 0, .null, .int 0, .int 0, .int 0, .null, .int 0, .int 0, .int 0, .null, .ref mq20, .int 0, .int 0, .long 0, .null, .null, .null, .null, .int 0, .int 0, .int 0, .int 0, .int 0, .int 0, .null, .long 0, .long 0, .long 0, .null, .null, .null, .int 0, .int 0, .int 0, .ref mq21, .null, .null]))]) hP hD [5] [0, 1, 2, 3, 4] rfl rfl (by decide) (by decide) hk1 hFc hP1 hD1
    generalize H1 = H at hP hS ⊢
    have hP : va_P D vwCl [(aq1, .inr (4, [.ref aq2, .int 0, .int 0])), (aq3, .inr (4, [.ref aq4, .int 0, .int 0])), (aq9, .inr (14, [.ref aq10, .int 0, .int 0])), (aq11, .inr (8, [.ref aq13, .ref aq14, .ref aq13, .int 0, .int 0, .int 0])), (o, .inl (y 2, 1, .inr (.inl (fun _ => 0)))), (mo, .inr (16, [.int 1, .int 0, .ref mq1, .ref mq2, .int 0, .ref mq3, .int 0, .ref mq4, .ref mq5, .ref mq6, .int 0, .ref mq7, .ref mq8, .ref mq9, .int 0, .ref mq10, .ref mq11, .ref mq12, .ref mq13, .ref mq14, .int 0, .ref mq15, .ref mq16, .long 0, .ref mq17, .ref mq18, .ref mq19, .int 0, .null, .int 0, .int 0, .int 0, .null, .int 0, .int 0, .int 0, .null, .ref mq20, .int 0, .int 0, .long 0, .null, .null, .null, .null, .int 0, .int 0, .int 0, .int 0, .int 0, .int 0, .null, .long 0, .long 0, .long 0, .null, .null, .null, .int 0, .int 0, .int 0, .ref mq21, .null, .null]))] H := hP
    have hD : va_D A [(aq1, .inr (4, [.ref aq2, .int 0, .int 0])), (aq3, .inr (4, [.ref aq4, .int 0, .int 0])), (aq9, .inr (14, [.ref aq10, .int 0, .int 0])), (aq11, .inr (8, [.ref aq13, .ref aq14, .ref aq13, .int 0, .int 0, .int 0])), (o, .inl (y 2, 1, .inr (.inl (fun _ => 0)))), (mo, .inr (16, [.int 1, .int 0, .ref mq1, .ref mq2, .int 0, .ref mq3, .int 0, .ref mq4, .ref mq5, .ref mq6, .int 0, .ref mq7, .ref mq8, .ref mq9, .int 0, .ref mq10, .ref mq11, .ref mq12, .ref mq13, .ref mq14, .int 0, .ref mq15, .ref mq16, .long 0, .ref mq17, .ref mq18, .ref mq19, .int 0, .null, .int 0, .int 0, .int 0, .null, .int 0, .int 0, .int 0, .null, .ref mq20, .int 0, .int 0, .long 0, .null, .null, .null, .null, .int 0, .int 0, .int 0, .int 0, .int 0, .int 0, .null, .long 0, .long 0, .long 0, .null, .null, .null, .int 0, .int 0, .int 0, .ref mq21, .null, .null]))] := hD
    have hw : r34 = 1 := hw
    subst hw
    refine lv_iload hx hb dL_law_276 (lv_at hl 1 rfl) ?_
    refine lv_icmp_eq (tgt := 283) hx hb dL_law_278 (by decide) (fun _ => ?_) (fun c9 => absurd (by decide) c9)
    refine lv_iload hx hb dL_law_283 (lv_at hl 1 rfl) ?_
    refine lv_if_ne (tgt := 300) hx hb dL_law_285 (by decide) (fun _ => ?_) (fun c9 => absurd c9 (by decide))
    refine lv_goto (tgt := 1017) hx hb dL_law_300 (by decide) ?_
    refine lv_iinc (v := 6) (lv' := [(4, .int 6), (6, .int 0), (5, .int 1), (3, .ref o), (2, .ref mo), (1, .ref x), (0, .ref b)]) hx hb dL_law_1017 hl (k := 2) rfl (by decide) (by decide) rfl (fun ls hl => ?_)
    refine lv_goto (tgt := 23) hx hb dL_law_1020 (by decide) ?_
    refine lv_iload hx hb dL_law_23 (lv_at hl 0 rfl) ?_
    refine lv_aload_n hx hb dL_law_25 rfl (lv_at hl 6 rfl) ?_
    refine va_slen hx hb hX hbl hbA hS dL_law_26 ?_
    refine lv_bipush (v := 6) hx hb dL_law_27 (by decide) ?_
    refine lv_isub hx hb dL_law_29 ?_
    refine lv_topi (fun v35 ev35 => ?_)
    have ev35 : v35 = 0 := ev35.trans (by decide +kernel)
    subst ev35
    refine lv_icmp_gt (tgt := 1023) hx hb dL_law_30 (by decide) (fun _ => ?_) (fun c9 => absurd (by decide) c9)
    refine lv_iconst (v := 1) hx hb dL_law_1023 (by decide) ?_
    refine va_forget (fun q hq => hAf _ (hS.2.2 q hq)) ?_
    refine W.widen (k := 600002) (n := 7302232) (Nat.le_of_ble_eq_true rfl) (Nat.le_of_ble_eq_true rfl) ?_
    exact lw_ret hx hb hr hlocks dL_law_1024
  · have hPc := hP.sub (ws' := [(x, .inr (15, [.ref aq1, .ref aq3, .ref aq5, .ref aq7, .ref aq9, .ref aq11, .ref aq16, .ref aq19, .ref aq22, .ref aq37, .ref aq55, .ref aq57, .ref aq59, .int 0, .null])), (aq9, .inr (14, [.ref aq10, .int 0, .int 0])), (aq3, .inr (4, [.ref aq4, .int 0, .int 0])), (aq11, .inr (8, [.ref aq13, .ref aq14, .ref aq13, .int 0, .int 0, .int 0])), (aq1, .inr (4, [.ref aq2, .int 0, .int 0])), (o, .inl (y 2, 1, .inr (.inl (fun _ => 0))))]) [0, 3, 2, 4, 1, 6] rfl
    have hDc := hD.sub (ws' := [(x, .inr (15, [.ref aq1, .ref aq3, .ref aq5, .ref aq7, .ref aq9, .ref aq11, .ref aq16, .ref aq19, .ref aq22, .ref aq37, .ref aq55, .ref aq57, .ref aq59, .int 0, .null])), (aq9, .inr (14, [.ref aq10, .int 0, .int 0])), (aq3, .inr (4, [.ref aq4, .int 0, .int 0])), (aq11, .inr (8, [.ref aq13, .ref aq14, .ref aq13, .int 0, .int 0, .int 0])), (aq1, .inr (4, [.ref aq2, .int 0, .int 0])), (o, .inl (y 2, 1, .inr (.inl (fun _ => 0))))]) [0, 3, 2, 4, 1, 6] (by decide) rfl
    have hFc := va_free (wc := [(x, .inr (15, [.ref aq1, .ref aq3, .ref aq5, .ref aq7, .ref aq9, .ref aq11, .ref aq16, .ref aq19, .ref aq22, .ref aq37, .ref aq55, .ref aq57, .ref aq59, .int 0, .null])), (aq9, .inr (14, [.ref aq10, .int 0, .int 0])), (aq3, .inr (4, [.ref aq4, .int 0, .int 0])), (aq11, .inr (8, [.ref aq13, .ref aq14, .ref aq13, .int 0, .int 0, .int 0])), (aq1, .inr (4, [.ref aq2, .int 0, .int 0])), (o, .inl (y 2, 1, .inr (.inl (fun _ => 0))))]) hD hS hA [0, 3, 2, 4, 1, 6] rfl
    refine va_calli (vx_runSW (As := [.ref x, .long z9, .ref o]) (rest := []) ⟨hx, hb, hml, hown, hts⟩ (c_L_look_y l D y H.size x aq9 aq3 aq4 aq11 aq1 ((.ref aq5)) ((.ref aq7)) ((.ref aq16)) ((.ref aq19)) ((.ref aq22)) ((.ref aq37)) ((.ref aq55)) ((.ref aq57)) ((.ref aq59)) ((.int 0)) ((.null)) ((.ref aq10)) ((.int 0)) ((.int 0)) ((.ref aq13)) ((.ref aq14)) ((.ref aq13)) ((.int 0)) ((.int 0)) ((.int 0)) ((.ref aq2)) o ((fun _ => 0)) z9 h1 h2) (vx_cwSW 3 hts gv_law_3_c_L_look_y_76 rfl rfl rfl (by decide +kernel) ⟨(Nat.le_of_ble_eq_true rfl), (Nat.le_of_ble_eq_true rfl)⟩) (zB.preS hPc hDc hK hN hE hO hT hG hS hFc (fun _ h => nomatch h) (fun _ h => nomatch h) (fun _ h => nomatch h) (fun _ h => nomatch h)) rfl rfl hl.1 rfl (lv_room (Nat.le_of_ble_eq_true rfl)) dL_law_239 ⟨(Nat.le_of_ble_eq_true rfl), (Nat.le_of_ble_eq_true rfl)⟩) hS (fun q _ h => hFc q h) hFc (fun r36 u t H1 locs ht hvm hw hB hz1 hk1 hS => ?_)
    obtain ⟨hP1, hD1⟩ := hB
    rw [ht] at hP1
    obtain ⟨hP, hD⟩ := va_join (wr := [(mo, .inr (16, [.int 0, .int 0, .ref mq1, .ref mq2, .int 0, .ref mq3, .int 0, .ref mq4, .ref mq5, .ref mq6, .int 0, .ref mq7, .ref mq8, .ref mq9, .int 0, .ref mq10, .ref mq11, .ref mq12, .ref mq13, .ref mq14, .int 0, .ref mq15, .ref mq16, .long 0, .ref mq17, .ref mq18, .ref mq19, .int 0, .null, .int 0, .int 0, .int 0, .null, .int 0, .int 0, .int 0, .null, .ref mq20, .int 0, .int 0, .long 0, .null, .null, .null, .null, .int 0, .int 0, .int 0, .int 0, .int 0, .int 0, .null, .long 0, .long 0, .long 0, .null, .null, .null, .int 0, .int 0, .int 0, .ref mq21, .null, .null]))]) (w1 := [(x, .inr (15, [.ref aq1, .ref aq3, .ref aq5, .ref aq7, .ref aq9, .ref aq11, .ref aq16, .ref aq19, .ref aq22, .ref aq37, .ref aq55, .ref aq57, .ref aq59, .int 0, .null])), (aq9, .inr (14, [.ref aq4, .int 0, .int 0])), (aq3, .inr (4, [.ref aq4, .int 0, .int 0])), (aq11, .inr (8, [.ref aq13, .ref aq14, .ref aq1, .int 0, .int 0, .int 0])), (aq1, .inr (4, [.ref aq2, .int 0, .int 0])), (o, .inl (y 2, 1, .inr (.inl (vp_updL (fun _ => 0) (0 : Int32).toNatClampNeg (-1)))))]) hP hD [0, 3, 2, 4, 1, 6] [5] rfl rfl (by decide) (by decide) hk1 hFc hP1 hD1
    generalize H1 = H at hP hS ⊢
    have hP : va_P D vwCl [(mo, .inr (16, [.int 0, .int 0, .ref mq1, .ref mq2, .int 0, .ref mq3, .int 0, .ref mq4, .ref mq5, .ref mq6, .int 0, .ref mq7, .ref mq8, .ref mq9, .int 0, .ref mq10, .ref mq11, .ref mq12, .ref mq13, .ref mq14, .int 0, .ref mq15, .ref mq16, .long 0, .ref mq17, .ref mq18, .ref mq19, .int 0, .null, .int 0, .int 0, .int 0, .null, .int 0, .int 0, .int 0, .null, .ref mq20, .int 0, .int 0, .long 0, .null, .null, .null, .null, .int 0, .int 0, .int 0, .int 0, .int 0, .int 0, .null, .long 0, .long 0, .long 0, .null, .null, .null, .int 0, .int 0, .int 0, .ref mq21, .null, .null])), (x, .inr (15, [.ref aq1, .ref aq3, .ref aq5, .ref aq7, .ref aq9, .ref aq11, .ref aq16, .ref aq19, .ref aq22, .ref aq37, .ref aq55, .ref aq57, .ref aq59, .int 0, .null])), (aq9, .inr (14, [.ref aq4, .int 0, .int 0])), (aq3, .inr (4, [.ref aq4, .int 0, .int 0])), (aq11, .inr (8, [.ref aq13, .ref aq14, .ref aq1, .int 0, .int 0, .int 0])), (aq1, .inr (4, [.ref aq2, .int 0, .int 0])), (o, .inl (y 2, 1, .inr (.inl (vp_updL (fun _ => 0) (0 : Int32).toNatClampNeg (-1)))))] H := hP
    have hD : va_D A [(mo, .inr (16, [.int 0, .int 0, .ref mq1, .ref mq2, .int 0, .ref mq3, .int 0, .ref mq4, .ref mq5, .ref mq6, .int 0, .ref mq7, .ref mq8, .ref mq9, .int 0, .ref mq10, .ref mq11, .ref mq12, .ref mq13, .ref mq14, .int 0, .ref mq15, .ref mq16, .long 0, .ref mq17, .ref mq18, .ref mq19, .int 0, .null, .int 0, .int 0, .int 0, .null, .int 0, .int 0, .int 0, .null, .ref mq20, .int 0, .int 0, .long 0, .null, .null, .null, .null, .int 0, .int 0, .int 0, .int 0, .int 0, .int 0, .null, .long 0, .long 0, .long 0, .null, .null, .null, .int 0, .int 0, .int 0, .ref mq21, .null, .null])), (x, .inr (15, [.ref aq1, .ref aq3, .ref aq5, .ref aq7, .ref aq9, .ref aq11, .ref aq16, .ref aq19, .ref aq22, .ref aq37, .ref aq55, .ref aq57, .ref aq59, .int 0, .null])), (aq9, .inr (14, [.ref aq4, .int 0, .int 0])), (aq3, .inr (4, [.ref aq4, .int 0, .int 0])), (aq11, .inr (8, [.ref aq13, .ref aq14, .ref aq1, .int 0, .int 0, .int 0])), (aq1, .inr (4, [.ref aq2, .int 0, .int 0])), (o, .inl (y 2, 1, .inr (.inl (vp_updL (fun _ => 0) (0 : Int32).toNatClampNeg (-1)))))] := hD
    have hw : r36 = 0 := hw
    subst hw
    refine lv_istore (lv' := [(5, .int 0), (4, .int 0), (3, .ref o), (2, .ref mo), (1, .ref x), (0, .ref b)]) hx hb dL_law_242 hl (by decide) rfl (fun ls hl => ?_)
    refine lv_aload_n hx hb dL_law_244 rfl (lv_at hl 3 rfl) ?_
    refine lv_aload_n hx hb dL_law_245 rfl (lv_at hl 5 rfl) ?_
    refine lv_iload hx hb dL_law_246 (lv_at hl 1 rfl) ?_
    refine lv_iconst (v := 1) hx hb dL_law_248 (by decide) ?_
    refine lv_iadd hx hb dL_law_249 ?_
    refine lv_topi (fun v37 ev37 => ?_)
    have ev37 : v37 = 1 := ev37.trans (by decide +kernel)
    subst ev37
    refine va_sld hx hb hX hbl hbA hS (by unfold vp_in; decide) dL_law_250 ?_
    refine lv_topi (fun x38 ex38 => ?_)
    have fx38 : x2 = x38 := ex2.trans ex38.symm
    subst fx38
    refine lv_i2l hx hb dL_law_251 rfl ?_
    refine lv_topl (fun z39 ez39 => ?_)
    have fz39 : z3 = z39 := ez3.trans ez39.symm
    subst fz39
    refine lv_bipush (v := 32) hx hb dL_law_252 (by decide) ?_
    refine lv_lshl hx hb dL_law_254 rfl ?_
    refine lv_topl (fun z40 ez40 => ?_)
    have fz40 : z4 = z40 := ez4.trans ez40.symm
    subst fz40
    refine lv_aload_n hx hb dL_law_255 rfl (lv_at hl 5 rfl) ?_
    refine lv_iload hx hb dL_law_256 (lv_at hl 1 rfl) ?_
    refine lv_iconst (v := 2) hx hb dL_law_258 (by decide) ?_
    refine lv_iadd hx hb dL_law_259 ?_
    refine lv_topi (fun v41 ev41 => ?_)
    have ev41 : v41 = 2 := ev41.trans (by decide +kernel)
    subst ev41
    refine va_sld hx hb hX hbl hbA hS (by unfold vp_in; decide) dL_law_260 ?_
    refine lv_topi (fun x42 ex42 => ?_)
    have fx42 : x6 = x42 := ex6.trans ex42.symm
    subst fx42
    refine lv_i2l hx hb dL_law_261 rfl ?_
    refine lv_topl (fun z43 ez43 => ?_)
    have fz43 : z7 = z43 := ez7.trans ez43.symm
    subst fz43
    refine lv_ldc2 (v := 4294967295) hx hb hown (hts (.constantLong RL 60 4294967295) (by decide +kernel)) dL_law_262 ?_
    refine lv_land hx hb dL_law_265 ?_
    refine lv_topl (fun z44 ez44 => ?_)
    have fz44 : z8 = z44 := ez8.trans ez44.symm
    subst fz44
    refine lv_lor hx hb dL_law_266 ?_
    refine lv_topl (fun z45 ez45 => ?_)
    have fz45 : z9 = z45 := ez9.trans ez45.symm
    subst fz45
    have hPc := hP.sub (ws' := [(mo, .inr (16, [.int 0, .int 0, .ref mq1, .ref mq2, .int 0, .ref mq3, .int 0, .ref mq4, .ref mq5, .ref mq6, .int 0, .ref mq7, .ref mq8, .ref mq9, .int 0, .ref mq10, .ref mq11, .ref mq12, .ref mq13, .ref mq14, .int 0, .ref mq15, .ref mq16, .long 0, .ref mq17, .ref mq18, .ref mq19, .int 0, .null, .int 0, .int 0, .int 0, .null, .int 0, .int 0, .int 0, .null, .ref mq20, .int 0, .int 0, .long 0, .null, .null, .null, .null, .int 0, .int 0, .int 0, .int 0, .int 0, .int 0, .null, .long 0, .long 0, .long 0, .null, .null, .null, .int 0, .int 0, .int 0, .ref mq21, .null, .null]))]) [0] rfl
    have hDc := hD.sub (ws' := [(mo, .inr (16, [.int 0, .int 0, .ref mq1, .ref mq2, .int 0, .ref mq3, .int 0, .ref mq4, .ref mq5, .ref mq6, .int 0, .ref mq7, .ref mq8, .ref mq9, .int 0, .ref mq10, .ref mq11, .ref mq12, .ref mq13, .ref mq14, .int 0, .ref mq15, .ref mq16, .long 0, .ref mq17, .ref mq18, .ref mq19, .int 0, .null, .int 0, .int 0, .int 0, .null, .int 0, .int 0, .int 0, .null, .ref mq20, .int 0, .int 0, .long 0, .null, .null, .null, .null, .int 0, .int 0, .int 0, .int 0, .int 0, .int 0, .null, .long 0, .long 0, .long 0, .null, .null, .null, .int 0, .int 0, .int 0, .ref mq21, .null, .null]))]) [0] (by decide) rfl
    have hFc := va_free (wc := [(mo, .inr (16, [.int 0, .int 0, .ref mq1, .ref mq2, .int 0, .ref mq3, .int 0, .ref mq4, .ref mq5, .ref mq6, .int 0, .ref mq7, .ref mq8, .ref mq9, .int 0, .ref mq10, .ref mq11, .ref mq12, .ref mq13, .ref mq14, .int 0, .ref mq15, .ref mq16, .long 0, .ref mq17, .ref mq18, .ref mq19, .int 0, .null, .int 0, .int 0, .int 0, .null, .int 0, .int 0, .int 0, .null, .ref mq20, .int 0, .int 0, .long 0, .null, .null, .null, .null, .int 0, .int 0, .int 0, .int 0, .int 0, .int 0, .null, .long 0, .long 0, .long 0, .null, .null, .null, .int 0, .int 0, .int 0, .ref mq21, .null, .null]))]) hD hS hA [0] rfl
    refine va_calli (va_runV (As := [.long z9]) (rest := []) ⟨hx, hb, hml, hown, hts⟩ (c_M_look_y l D y H.size mo mq1 ((.int 0)) ((.ref mq2)) ((.int 0)) ((.ref mq3)) ((.int 0)) ((.ref mq4)) ((.ref mq5)) ((.ref mq6)) ((.int 0)) ((.ref mq7)) ((.ref mq8)) ((.ref mq9)) ((.int 0)) ((.ref mq10)) ((.ref mq11)) ((.ref mq12)) ((.ref mq13)) ((.ref mq14)) ((.int 0)) ((.ref mq15)) ((.ref mq16)) ((.long 0)) ((.ref mq17)) ((.ref mq18)) ((.ref mq19)) ((.int 0)) ((.null)) ((.int 0)) ((.int 0)) ((.int 0)) ((.null)) ((.int 0)) ((.int 0)) ((.int 0)) ((.null)) ((.ref mq20)) ((.int 0)) ((.int 0)) ((.long 0)) ((.null)) ((.null)) ((.null)) ((.null)) ((.int 0)) ((.int 0)) ((.int 0)) ((.int 0)) ((.int 0)) ((.int 0)) ((.null)) ((.long 0)) ((.long 0)) ((.long 0)) ((.null)) ((.null)) ((.null)) ((.int 0)) ((.int 0)) ((.int 0)) ((.ref mq21)) ((.null)) ((.null)) z9 h1 h2) (cwV 1 hts gv_law_3_c_M_look_y_81 rfl rfl rfl (by decide +kernel) ⟨(Nat.le_of_ble_eq_true rfl), (Nat.le_of_ble_eq_true rfl)⟩) (zB.preV hPc hDc hK hN hE hO hT hG hS hFc (fun _ h => nomatch h) (fun _ h => nomatch h) (fun _ h => nomatch h) (fun _ h => nomatch h) (va_recv hK hPc (ci := 16) (q0 := 0) rfl rfl)) rfl rfl hl.1 rfl (lv_room (Nat.le_of_ble_eq_true rfl)) dL_law_267 ⟨(Nat.le_of_ble_eq_true rfl), (Nat.le_of_ble_eq_true rfl)⟩) hS (fun q _ h => hFc q h) hFc (fun r46 u t H1 locs ht hvm hw hB hz1 hk1 hS => ?_)
    obtain ⟨q47, hP1, hD1⟩ := hB
    rw [ht] at hP1
    obtain ⟨hP, hD⟩ := va_join (wr := [(x, .inr (15, [.ref aq1, .ref aq3, .ref aq5, .ref aq7, .ref aq9, .ref aq11, .ref aq16, .ref aq19, .ref aq22, .ref aq37, .ref aq55, .ref aq57, .ref aq59, .int 0, .null])), (aq9, .inr (14, [.ref aq4, .int 0, .int 0])), (aq3, .inr (4, [.ref aq4, .int 0, .int 0])), (aq11, .inr (8, [.ref aq13, .ref aq14, .ref aq1, .int 0, .int 0, .int 0])), (aq1, .inr (4, [.ref aq2, .int 0, .int 0])), (o, .inl (y 2, 1, .inr (.inl (vp_updL (fun _ => 0) (0 : Int32).toNatClampNeg (-1)))))]) (w1 := [(mo, .inr (16, [.int 0, .int 0, .ref mq1, .ref mq2, .int 0, .ref mq3, .int 0, .ref mq4, .ref mq5, .ref mq6, .int 0, .ref mq7, .ref mq8, .ref mq9, .int 0, .ref mq10, .ref mq11, .ref mq12, .ref mq13, .ref mq14, .int 0, .ref mq15, .ref mq16, .long 0, .ref mq17, .ref mq18, .ref mq19, .int (-1), .null, .int 0, .int 0, .int 0, .null, .int 0, .int 0, .int 0, .null, .ref mq20, .int 0, .int 0, .long 0, .null, .null, .null, .null, .int 0, .int 0, .int 0, .int 0, .int 0, .int 0, .null, .long 0, .long 0, .long 0, .null, .null, .null, .int 0, .int 0, .int 0, .ref mq21, .null, .null])), (q47, .inl (y 1, 0, .inl (fun _ => 0)))]) hP hD [0] [1, 2, 3, 4, 5, 6] rfl rfl (by decide) (by decide) hk1 hFc hP1 hD1
    generalize H1 = H at hP hS ⊢
    have hP : va_P D vwCl [(x, .inr (15, [.ref aq1, .ref aq3, .ref aq5, .ref aq7, .ref aq9, .ref aq11, .ref aq16, .ref aq19, .ref aq22, .ref aq37, .ref aq55, .ref aq57, .ref aq59, .int 0, .null])), (aq9, .inr (14, [.ref aq4, .int 0, .int 0])), (aq3, .inr (4, [.ref aq4, .int 0, .int 0])), (aq11, .inr (8, [.ref aq13, .ref aq14, .ref aq1, .int 0, .int 0, .int 0])), (aq1, .inr (4, [.ref aq2, .int 0, .int 0])), (o, .inl (y 2, 1, .inr (.inl (vp_updL (fun _ => 0) (0 : Int32).toNatClampNeg (-1))))), (mo, .inr (16, [.int 0, .int 0, .ref mq1, .ref mq2, .int 0, .ref mq3, .int 0, .ref mq4, .ref mq5, .ref mq6, .int 0, .ref mq7, .ref mq8, .ref mq9, .int 0, .ref mq10, .ref mq11, .ref mq12, .ref mq13, .ref mq14, .int 0, .ref mq15, .ref mq16, .long 0, .ref mq17, .ref mq18, .ref mq19, .int (-1), .null, .int 0, .int 0, .int 0, .null, .int 0, .int 0, .int 0, .null, .ref mq20, .int 0, .int 0, .long 0, .null, .null, .null, .null, .int 0, .int 0, .int 0, .int 0, .int 0, .int 0, .null, .long 0, .long 0, .long 0, .null, .null, .null, .int 0, .int 0, .int 0, .ref mq21, .null, .null])), (q47, .inl (y 1, 0, .inl (fun _ => 0)))] H := hP
    have hD : va_D A [(x, .inr (15, [.ref aq1, .ref aq3, .ref aq5, .ref aq7, .ref aq9, .ref aq11, .ref aq16, .ref aq19, .ref aq22, .ref aq37, .ref aq55, .ref aq57, .ref aq59, .int 0, .null])), (aq9, .inr (14, [.ref aq4, .int 0, .int 0])), (aq3, .inr (4, [.ref aq4, .int 0, .int 0])), (aq11, .inr (8, [.ref aq13, .ref aq14, .ref aq1, .int 0, .int 0, .int 0])), (aq1, .inr (4, [.ref aq2, .int 0, .int 0])), (o, .inl (y 2, 1, .inr (.inl (vp_updL (fun _ => 0) (0 : Int32).toNatClampNeg (-1))))), (mo, .inr (16, [.int 0, .int 0, .ref mq1, .ref mq2, .int 0, .ref mq3, .int 0, .ref mq4, .ref mq5, .ref mq6, .int 0, .ref mq7, .ref mq8, .ref mq9, .int 0, .ref mq10, .ref mq11, .ref mq12, .ref mq13, .ref mq14, .int 0, .ref mq15, .ref mq16, .long 0, .ref mq17, .ref mq18, .ref mq19, .int (-1), .null, .int 0, .int 0, .int 0, .null, .int 0, .int 0, .int 0, .null, .ref mq20, .int 0, .int 0, .long 0, .null, .null, .null, .null, .int 0, .int 0, .int 0, .int 0, .int 0, .int 0, .null, .long 0, .long 0, .long 0, .null, .null, .null, .int 0, .int 0, .int 0, .ref mq21, .null, .null])), (q47, .inl (y 1, 0, .inl (fun _ => 0)))] := hD
    have hw : r46 = -1 := hw
    subst hw
    refine lv_istore (lv' := [(6, .int (-1)), (5, .int 0), (4, .int 0), (3, .ref o), (2, .ref mo), (1, .ref x), (0, .ref b)]) hx hb dL_law_270 hl (by decide) rfl (fun ls hl => ?_)
    refine lv_aload_n hx hb dL_law_272 rfl (lv_at hl 4 rfl) ?_
    have hPc := hP.sub (ws' := [(mo, .inr (16, [.int 0, .int 0, .ref mq1, .ref mq2, .int 0, .ref mq3, .int 0, .ref mq4, .ref mq5, .ref mq6, .int 0, .ref mq7, .ref mq8, .ref mq9, .int 0, .ref mq10, .ref mq11, .ref mq12, .ref mq13, .ref mq14, .int 0, .ref mq15, .ref mq16, .long 0, .ref mq17, .ref mq18, .ref mq19, .int (-1), .null, .int 0, .int 0, .int 0, .null, .int 0, .int 0, .int 0, .null, .ref mq20, .int 0, .int 0, .long 0, .null, .null, .null, .null, .int 0, .int 0, .int 0, .int 0, .int 0, .int 0, .null, .long 0, .long 0, .long 0, .null, .null, .null, .int 0, .int 0, .int 0, .ref mq21, .null, .null]))]) [6] rfl
    have hDc := hD.sub (ws' := [(mo, .inr (16, [.int 0, .int 0, .ref mq1, .ref mq2, .int 0, .ref mq3, .int 0, .ref mq4, .ref mq5, .ref mq6, .int 0, .ref mq7, .ref mq8, .ref mq9, .int 0, .ref mq10, .ref mq11, .ref mq12, .ref mq13, .ref mq14, .int 0, .ref mq15, .ref mq16, .long 0, .ref mq17, .ref mq18, .ref mq19, .int (-1), .null, .int 0, .int 0, .int 0, .null, .int 0, .int 0, .int 0, .null, .ref mq20, .int 0, .int 0, .long 0, .null, .null, .null, .null, .int 0, .int 0, .int 0, .int 0, .int 0, .int 0, .null, .long 0, .long 0, .long 0, .null, .null, .null, .int 0, .int 0, .int 0, .ref mq21, .null, .null]))]) [6] (by decide) rfl
    have hFc := va_free (wc := [(mo, .inr (16, [.int 0, .int 0, .ref mq1, .ref mq2, .int 0, .ref mq3, .int 0, .ref mq4, .ref mq5, .ref mq6, .int 0, .ref mq7, .ref mq8, .ref mq9, .int 0, .ref mq10, .ref mq11, .ref mq12, .ref mq13, .ref mq14, .int 0, .ref mq15, .ref mq16, .long 0, .ref mq17, .ref mq18, .ref mq19, .int (-1), .null, .int 0, .int 0, .int 0, .null, .int 0, .int 0, .int 0, .null, .ref mq20, .int 0, .int 0, .long 0, .null, .null, .null, .null, .int 0, .int 0, .int 0, .int 0, .int 0, .int 0, .null, .long 0, .long 0, .long 0, .null, .null, .null, .int 0, .int 0, .int 0, .ref mq21, .null, .null]))]) hD hS hA [6] rfl
    refine va_calli (va_runV (As := []) (rest := []) ⟨hx, hb, hml, hown, hts⟩ (c_M_thrown l D y H.size mo ((.int 0)) ((.ref mq1)) ((.ref mq2)) ((.int 0)) ((.ref mq3)) ((.int 0)) ((.ref mq4)) ((.ref mq5)) ((.ref mq6)) ((.int 0)) ((.ref mq7)) ((.ref mq8)) ((.ref mq9)) ((.int 0)) ((.ref mq10)) ((.ref mq11)) ((.ref mq12)) ((.ref mq13)) ((.ref mq14)) ((.int 0)) ((.ref mq15)) ((.ref mq16)) ((.long 0)) ((.ref mq17)) ((.ref mq18)) ((.ref mq19)) ((.int (-1))) ((.null)) ((.int 0)) ((.int 0)) ((.int 0)) ((.null)) ((.int 0)) ((.int 0)) ((.int 0)) ((.null)) ((.ref mq20)) ((.int 0)) ((.int 0)) ((.long 0)) ((.null)) ((.null)) ((.null)) ((.null)) ((.int 0)) ((.int 0)) ((.int 0)) ((.int 0)) ((.int 0)) ((.int 0)) ((.null)) ((.long 0)) ((.long 0)) ((.long 0)) ((.null)) ((.null)) ((.null)) ((.int 0)) ((.int 0)) ((.int 0)) ((.ref mq21)) ((.null)) ((.null)) 0) (cwV 0 hts gv_law_3_c_M_thrown_82 rfl rfl rfl (by decide +kernel) ⟨(Nat.le_of_ble_eq_true rfl), (Nat.le_of_ble_eq_true rfl)⟩) (zB.preV hPc hDc hK hN hE hO hT hG hS hFc (fun _ h => nomatch h) (fun _ h => nomatch h) (fun _ h => nomatch h) (fun _ h => nomatch h) (va_recv hK hPc (ci := 16) (q0 := 0) rfl rfl)) rfl rfl hl.1 rfl (lv_room (Nat.le_of_ble_eq_true rfl)) dL_law_273 ⟨(Nat.le_of_ble_eq_true rfl), (Nat.le_of_ble_eq_true rfl)⟩) hS (fun q _ h => hFc q h) hFc (fun r48 u t H1 locs ht hvm hw hB hz1 hk1 hS => ?_)
    obtain ⟨hP1, hD1⟩ := hB
    rw [ht] at hP1
    obtain ⟨hP, hD⟩ := va_join (wr := [(x, .inr (15, [.ref aq1, .ref aq3, .ref aq5, .ref aq7, .ref aq9, .ref aq11, .ref aq16, .ref aq19, .ref aq22, .ref aq37, .ref aq55, .ref aq57, .ref aq59, .int 0, .null])), (aq9, .inr (14, [.ref aq4, .int 0, .int 0])), (aq3, .inr (4, [.ref aq4, .int 0, .int 0])), (aq11, .inr (8, [.ref aq13, .ref aq14, .ref aq1, .int 0, .int 0, .int 0])), (aq1, .inr (4, [.ref aq2, .int 0, .int 0])), (o, .inl (y 2, 1, .inr (.inl (vp_updL (fun _ => 0) (0 : Int32).toNatClampNeg (-1))))), (q47, .inl (y 1, 0, .inl (fun _ => 0)))]) (w1 := [(mo, .inr (16, [.int 0, .int 0, .ref mq1, .ref mq2, .int 0, .ref mq3, .int 0, .ref mq4, .ref mq5, .ref mq6, .int 0, .ref mq7, .ref mq8, .ref mq9, .int 0, .ref mq10, .ref mq11, .ref mq12, .ref mq13, .ref mq14, .int 0, .ref mq15, .ref mq16, .long 0, .ref mq17, .ref mq18, .ref mq19, .int (-1), .null, .int 0, .int 0, .int 0, .null, .int 0, .int 0, .int 0, .null, .ref mq20, .int 0, .int 0, .long 0, .null, .null, .null, .null, .int 0, .int 0, .int 0, .int 0, .int 0, .int 0, .null, .long 0, .long 0, .long 0, .null, .null, .null, .int 0, .int 0, .int 0, .ref mq21, .null, .null]))]) hP hD [6] [0, 1, 2, 3, 4, 5, 7] rfl rfl (by decide) (by decide) hk1 hFc hP1 hD1
    generalize H1 = H at hP hS ⊢
    have hP : va_P D vwCl [(x, .inr (15, [.ref aq1, .ref aq3, .ref aq5, .ref aq7, .ref aq9, .ref aq11, .ref aq16, .ref aq19, .ref aq22, .ref aq37, .ref aq55, .ref aq57, .ref aq59, .int 0, .null])), (aq9, .inr (14, [.ref aq4, .int 0, .int 0])), (aq3, .inr (4, [.ref aq4, .int 0, .int 0])), (aq11, .inr (8, [.ref aq13, .ref aq14, .ref aq1, .int 0, .int 0, .int 0])), (aq1, .inr (4, [.ref aq2, .int 0, .int 0])), (o, .inl (y 2, 1, .inr (.inl (vp_updL (fun _ => 0) (0 : Int32).toNatClampNeg (-1))))), (q47, .inl (y 1, 0, .inl (fun _ => 0))), (mo, .inr (16, [.int 0, .int 0, .ref mq1, .ref mq2, .int 0, .ref mq3, .int 0, .ref mq4, .ref mq5, .ref mq6, .int 0, .ref mq7, .ref mq8, .ref mq9, .int 0, .ref mq10, .ref mq11, .ref mq12, .ref mq13, .ref mq14, .int 0, .ref mq15, .ref mq16, .long 0, .ref mq17, .ref mq18, .ref mq19, .int (-1), .null, .int 0, .int 0, .int 0, .null, .int 0, .int 0, .int 0, .null, .ref mq20, .int 0, .int 0, .long 0, .null, .null, .null, .null, .int 0, .int 0, .int 0, .int 0, .int 0, .int 0, .null, .long 0, .long 0, .long 0, .null, .null, .null, .int 0, .int 0, .int 0, .ref mq21, .null, .null]))] H := hP
    have hD : va_D A [(x, .inr (15, [.ref aq1, .ref aq3, .ref aq5, .ref aq7, .ref aq9, .ref aq11, .ref aq16, .ref aq19, .ref aq22, .ref aq37, .ref aq55, .ref aq57, .ref aq59, .int 0, .null])), (aq9, .inr (14, [.ref aq4, .int 0, .int 0])), (aq3, .inr (4, [.ref aq4, .int 0, .int 0])), (aq11, .inr (8, [.ref aq13, .ref aq14, .ref aq1, .int 0, .int 0, .int 0])), (aq1, .inr (4, [.ref aq2, .int 0, .int 0])), (o, .inl (y 2, 1, .inr (.inl (vp_updL (fun _ => 0) (0 : Int32).toNatClampNeg (-1))))), (q47, .inl (y 1, 0, .inl (fun _ => 0))), (mo, .inr (16, [.int 0, .int 0, .ref mq1, .ref mq2, .int 0, .ref mq3, .int 0, .ref mq4, .ref mq5, .ref mq6, .int 0, .ref mq7, .ref mq8, .ref mq9, .int 0, .ref mq10, .ref mq11, .ref mq12, .ref mq13, .ref mq14, .int 0, .ref mq15, .ref mq16, .long 0, .ref mq17, .ref mq18, .ref mq19, .int (-1), .null, .int 0, .int 0, .int 0, .null, .int 0, .int 0, .int 0, .null, .ref mq20, .int 0, .int 0, .long 0, .null, .null, .null, .null, .int 0, .int 0, .int 0, .int 0, .int 0, .int 0, .null, .long 0, .long 0, .long 0, .null, .null, .null, .int 0, .int 0, .int 0, .ref mq21, .null, .null]))] := hD
    have hw : r48 = 0 := hw
    subst hw
    refine lv_iload hx hb dL_law_276 (lv_at hl 1 rfl) ?_
    refine lv_icmp_eq (tgt := 283) hx hb dL_law_278 (by decide) (fun _ => ?_) (fun c9 => absurd (by decide) c9)
    refine lv_iload hx hb dL_law_283 (lv_at hl 1 rfl) ?_
    refine lv_if_ne (tgt := 300) hx hb dL_law_285 (by decide) (fun c9 => absurd (by decide) c9) (fun _ => ?_)
    refine lv_aload_n hx hb dL_law_288 rfl (lv_at hl 3 rfl) ?_
    refine lv_iconst (v := 0) hx hb dL_law_289 (by decide) ?_
    refine va_lald hx hb hK hP 5 2 rfl rfl (by unfold vp_in; decide) dL_law_290 ?_
    refine lv_topl (fun z49 ez49 => ?_)
    have ez49 : z49 = -1 := ez49.trans pk_uLs
    subst ez49
    refine lv_iload hx hb dL_law_291 (lv_at hl 0 rfl) ?_
    refine lv_i2l (v := -1) hx hb dL_law_293 (by decide +kernel) ?_
    refine W.lcmp hx hb dL_law_294 ?_
    refine lv_topi (fun v50 ev50 => ?_)
    have ev50 : v50 = 0 := ev50.trans (by decide +kernel)
    subst ev50
    refine lv_if_eq (tgt := 300) hx hb dL_law_295 (by decide) (fun _ => ?_) (fun c9 => absurd (by decide) c9)
    refine lv_goto (tgt := 1017) hx hb dL_law_300 (by decide) ?_
    refine lv_iinc (v := 6) (lv' := [(4, .int 6), (6, .int (-1)), (5, .int 0), (3, .ref o), (2, .ref mo), (1, .ref x), (0, .ref b)]) hx hb dL_law_1017 hl (k := 2) rfl (by decide) (by decide) rfl (fun ls hl => ?_)
    refine lv_goto (tgt := 23) hx hb dL_law_1020 (by decide) ?_
    refine lv_iload hx hb dL_law_23 (lv_at hl 0 rfl) ?_
    refine lv_aload_n hx hb dL_law_25 rfl (lv_at hl 6 rfl) ?_
    refine va_slen hx hb hX hbl hbA hS dL_law_26 ?_
    refine lv_bipush (v := 6) hx hb dL_law_27 (by decide) ?_
    refine lv_isub hx hb dL_law_29 ?_
    refine lv_topi (fun v51 ev51 => ?_)
    have ev51 : v51 = 0 := ev51.trans (by decide +kernel)
    subst ev51
    refine lv_icmp_gt (tgt := 1023) hx hb dL_law_30 (by decide) (fun _ => ?_) (fun c9 => absurd (by decide) c9)
    refine lv_iconst (v := 1) hx hb dL_law_1023 (by decide) ?_
    refine va_forget (fun q hq => hAf _ (hS.2.2 q hq)) ?_
    refine W.widen (k := 600002) (n := 7302232) (Nat.le_of_ble_eq_true rfl) (Nat.le_of_ble_eq_true rfl) ?_
    exact lw_ret hx hb hr hlocks dL_law_1024
set_option maxRecDepth 100000 in
theorem gv_law_0_c_X11_add_lo_62 : GoodIn zt (wsV RL 62 RX11 yX11_add wz_c_X11_add_lo) := goodIn_app (goodIn_of _ (by decide +kernel)) gl_c_X11_add_lo
set_option maxRecDepth 100000 in
theorem gv_law_0_c_M_add_lo_66 : GoodIn zt (wsV RL 66 RX12 yX12_add wz_c_M_add_lo) := goodIn_app (goodIn_of _ (by decide +kernel)) gl_c_M_add_lo
set_option maxRecDepth 100000 in
theorem gv_law_0_c_X11_add_hi_62 : GoodIn zt (wsV RL 62 RX11 yX11_add wz_c_X11_add_hi) := goodIn_app (goodIn_of _ (by decide +kernel)) gl_c_X11_add_hi
set_option maxRecDepth 100000 in
theorem gv_law_0_c_M_add_hi_66 : GoodIn zt (wsV RL 66 RX12 yX12_add wz_c_M_add_hi) := goodIn_app (goodIn_of _ (by decide +kernel)) gl_c_M_add_hi
set_option maxRecDepth 100000 in
theorem gv_law_0_c_X11_add_1_62 : GoodIn zt (wsV RL 62 RX11 yX11_add wz_c_X11_add_1) := goodIn_app (goodIn_of _ (by decide +kernel)) gl_c_X11_add_1
set_option maxRecDepth 100000 in
theorem gv_law_0_c_M_add_1_66 : GoodIn zt (wsV RL 66 RX12 yX12_add wz_c_M_add_1) := goodIn_app (goodIn_of _ (by decide +kernel)) gl_c_M_add_1
set_option maxRecDepth 100000 in
theorem gv_law_0_c_X11_add_2_62 : GoodIn zt (wsV RL 62 RX11 yX11_add wz_c_X11_add_2) := goodIn_app (goodIn_of _ (by decide +kernel)) gl_c_X11_add_2
set_option maxRecDepth 100000 in
theorem gv_law_0_c_M_add_2_66 : GoodIn zt (wsV RL 66 RX12 yX12_add wz_c_M_add_2) := goodIn_app (goodIn_of _ (by decide +kernel)) gl_c_M_add_2
set_option maxRecDepth 100000 in
theorem gv_law_0_c_X11_add_3_62 : GoodIn zt (wsV RL 62 RX11 yX11_add wz_c_X11_add_3) := goodIn_app (goodIn_of _ (by decide +kernel)) gl_c_X11_add_3
set_option maxRecDepth 100000 in
theorem gv_law_0_c_M_add_3_66 : GoodIn zt (wsV RL 66 RX12 yX12_add wz_c_M_add_3) := goodIn_app (goodIn_of _ (by decide +kernel)) gl_c_M_add_3
set_option maxRecDepth 100000 in
theorem gv_law_0_c_X11_add_4_62 : GoodIn zt (wsV RL 62 RX11 yX11_add wz_c_X11_add_4) := goodIn_app (goodIn_of _ (by decide +kernel)) gl_c_X11_add_4
set_option maxRecDepth 100000 in
theorem gv_law_0_c_M_add_4_66 : GoodIn zt (wsV RL 66 RX12 yX12_add wz_c_M_add_4) := goodIn_app (goodIn_of _ (by decide +kernel)) gl_c_M_add_4
set_option maxRecDepth 100000 in
theorem gv_law_0_c_X11_add_5_62 : GoodIn zt (wsV RL 62 RX11 yX11_add wz_c_X11_add_5) := goodIn_app (goodIn_of _ (by decide +kernel)) gl_c_X11_add_5
set_option maxRecDepth 100000 in
theorem gv_law_0_c_M_add_5_66 : GoodIn zt (wsV RL 66 RX12 yX12_add wz_c_M_add_5) := goodIn_app (goodIn_of _ (by decide +kernel)) gl_c_M_add_5
set_option maxRecDepth 100000 in
theorem gv_law_0_c_X11_add_6_62 : GoodIn zt (wsV RL 62 RX11 yX11_add wz_c_X11_add_6) := goodIn_app (goodIn_of _ (by decide +kernel)) gl_c_X11_add_6
set_option maxRecDepth 100000 in
theorem gv_law_0_c_M_add_6_66 : GoodIn zt (wsV RL 66 RX12 yX12_add wz_c_M_add_6) := goodIn_app (goodIn_of _ (by decide +kernel)) gl_c_M_add_6
set_option maxRecDepth 100000 in
theorem gv_law_0_c_X11_add_7_62 : GoodIn zt (wsV RL 62 RX11 yX11_add wz_c_X11_add_7) := goodIn_app (goodIn_of _ (by decide +kernel)) gl_c_X11_add_7
set_option maxRecDepth 100000 in
theorem gv_law_0_c_M_add_7_66 : GoodIn zt (wsV RL 66 RX12 yX12_add wz_c_M_add_7) := goodIn_app (goodIn_of _ (by decide +kernel)) gl_c_M_add_7
set_option maxRecDepth 100000 in
theorem gv_law_0_c_X11_add_8_62 : GoodIn zt (wsV RL 62 RX11 yX11_add wz_c_X11_add_8) := goodIn_app (goodIn_of _ (by decide +kernel)) gl_c_X11_add_8
set_option maxRecDepth 100000 in
theorem gv_law_0_c_M_add_8_66 : GoodIn zt (wsV RL 66 RX12 yX12_add wz_c_M_add_8) := goodIn_app (goodIn_of _ (by decide +kernel)) gl_c_M_add_8
set_option maxHeartbeats 4000000 in
set_option maxRecDepth 100000 in
theorem law_0 {p : Program} {l : Launch} {e : Env} {s : State} {m : MethodId} {below : List Frame} {meth : Method} {c : Code} {b : Nat} {xs : Nat → Int32} (hl0 : l.stackTraces = false) (C0 : lw_At p s m meth c b 6 xs) {A : Nat → Prop} (hA : ∀ q : Nat, s.heap.size ≤ q → A q) (hAf : ∀ q : Nat, A q → s.heap.size ≤ q) {D : va_G} {y : Nat → ClassId} {e0 e1 e2 e3 e4 sa0 sa1 sa2 sa3 sa4 sa5 sa6 sa7 sa8 sa9 sa10 sa11 st0 st1 st2 st3 st4 st5 st6 st7 st8 st9 st10 st11 : Nat} (hK : va_K D vwCl (zT y) s) (hN : zN zL s) (hE : zE (zEL e0 e1 e2 e3 e4) A s s.heap) (hO : zAO s) (hT : zQ zTh A s s.heap) (hG : zG (zGL e1 e2 e3 e4 sa0 sa1 sa2 sa3 sa4 sa5 sa6 sa7 sa8 sa9 sa10 sa11 st0 st1 st2 st3 st4 st5 st6 st7 st8 st9 st10 st11) A s s.heap) {o x mo aq1 aq2 aq3 aq5 aq7 aq9 mq1 mq2 mq3 mq4 mq5 mq6 mq7 mq8 mq9 aq11 aq16 aq19 aq22 aq37 aq55 aq57 aq59 mq10 mq11 mq12 mq13 mq14 mq15 mq16 mq17 mq18 mq19 mq20 mq21 : Nat} {H : Heap} {locs : List Loc} (hP : va_P D vwCl [(x, .inr (15, [.ref aq1, .ref aq3, .ref aq5, .ref aq7, .ref aq9, .ref aq11, .ref aq16, .ref aq19, .ref aq22, .ref aq37, .ref aq55, .ref aq57, .ref aq59, .int 0, .null])), (aq1, .inr (4, [.ref aq2, .int 0, .int 0])), (aq2, .inl (y 0, 4096, .inl (fun _ => 0))), (mo, .inr (16, [.int 0, .int 0, .ref mq1, .ref mq2, .int 0, .ref mq3, .int 0, .ref mq4, .ref mq5, .ref mq6, .int 0, .ref mq7, .ref mq8, .ref mq9, .int 0, .ref mq10, .ref mq11, .ref mq12, .ref mq13, .ref mq14, .int 0, .ref mq15, .ref mq16, .long 0, .ref mq17, .ref mq18, .ref mq19, .int 0, .null, .int 0, .int 0, .int 0, .null, .int 0, .int 0, .int 0, .null, .ref mq20, .int 0, .int 0, .long 0, .null, .null, .null, .null, .int 0, .int 0, .int 0, .int 0, .int 0, .int 0, .null, .long 0, .long 0, .long 0, .null, .null, .null, .int 0, .int 0, .int 0, .ref mq21, .null, .null])), (mq1, .inl (y 1, 4096, .inl (fun _ => 0)))] H) (hD : va_D A [(x, .inr (15, [.ref aq1, .ref aq3, .ref aq5, .ref aq7, .ref aq9, .ref aq11, .ref aq16, .ref aq19, .ref aq22, .ref aq37, .ref aq55, .ref aq57, .ref aq59, .int 0, .null])), (aq1, .inr (4, [.ref aq2, .int 0, .int 0])), (aq2, .inl (y 0, 4096, .inl (fun _ => 0))), (mo, .inr (16, [.int 0, .int 0, .ref mq1, .ref mq2, .int 0, .ref mq3, .int 0, .ref mq4, .ref mq5, .ref mq6, .int 0, .ref mq7, .ref mq8, .ref mq9, .int 0, .ref mq10, .ref mq11, .ref mq12, .ref mq13, .ref mq14, .int 0, .ref mq15, .ref mq16, .long 0, .ref mq17, .ref mq18, .ref mq19, .int 0, .null, .int 0, .int 0, .int 0, .null, .int 0, .int 0, .int 0, .null, .ref mq20, .int 0, .int 0, .long 0, .null, .null, .null, .null, .int 0, .int 0, .int 0, .int 0, .int 0, .int 0, .null, .long 0, .long 0, .long 0, .null, .null, .null, .int 0, .int 0, .int 0, .ref mq21, .null, .null])), (mq1, .inl (y 1, 4096, .inl (fun _ => 0)))]) (hS : va_S A s.heap H locs) {ls : Array Slot} (hl : lv_has ls 8 [(4, .int 0), (3, .ref o), (2, .ref mo), (1, .ref x), (0, .ref b)]) : W p l e room_1 s m #[Value.ref b] below meth c H locs 84 139562 (lw_Z below #[Value.ref b] s) (F0 m 120 ls []) := by
  obtain ⟨hx, hb, hr, hml, hown, hts, hX, hbl, hlocks, hgv⟩ := C0
  have hts := zz_hts hts
  have hbA : ¬ A b := fun q => absurd hbl (Nat.not_lt.mpr (hAf b q))
  refine lv_aload_n hx hb dL_law_120 rfl (lv_at hl 3 rfl) ?_
  refine lv_aload_n hx hb dL_law_121 rfl (lv_at hl 4 rfl) ?_
  refine lv_iload hx hb dL_law_122 (lv_at hl 0 rfl) ?_
  refine lv_iconst (v := 1) hx hb dL_law_124 (by decide) ?_
  refine lv_iadd hx hb dL_law_125 ?_
  refine lv_topi (fun v1 ev1 => ?_)
  have ev1 : v1 = 1 := ev1.trans (by decide +kernel)
  subst ev1
  refine va_sld hx hb hX hbl hbA hS (by unfold vp_in; decide) dL_law_126 ?_
  refine lv_topi (fun x2 ex2 => ?_)
  refine lv_i2l hx hb dL_law_127 rfl ?_
  refine lv_topl (fun z3 ez3 => ?_)
  refine lv_bipush (v := 32) hx hb dL_law_128 (by decide) ?_
  refine lv_lshl hx hb dL_law_130 rfl ?_
  refine lv_topl (fun z4 ez4 => ?_)
  refine lv_aload_n hx hb dL_law_131 rfl (lv_at hl 4 rfl) ?_
  refine lv_iload hx hb dL_law_132 (lv_at hl 0 rfl) ?_
  refine lv_iconst (v := 2) hx hb dL_law_134 (by decide) ?_
  refine lv_iadd hx hb dL_law_135 ?_
  refine lv_topi (fun v5 ev5 => ?_)
  have ev5 : v5 = 2 := ev5.trans (by decide +kernel)
  subst ev5
  refine va_sld hx hb hX hbl hbA hS (by unfold vp_in; decide) dL_law_136 ?_
  refine lv_topi (fun x6 ex6 => ?_)
  refine lv_i2l hx hb dL_law_137 rfl ?_
  refine lv_topl (fun z7 ez7 => ?_)
  refine lv_ldc2 (v := 4294967295) hx hb hown (hts (.constantLong RL 60 4294967295) (by decide +kernel)) dL_law_138 ?_
  refine lv_land hx hb dL_law_141 ?_
  refine lv_topl (fun z8 ez8 => ?_)
  refine lv_lor hx hb dL_law_142 ?_
  refine lv_topl (fun z9 ez9 => ?_)
  refine lv_aload_n hx hb dL_law_143 rfl (lv_at hl 4 rfl) ?_
  refine lv_iload hx hb dL_law_144 (lv_at hl 0 rfl) ?_
  refine lv_iconst (v := 3) hx hb dL_law_146 (by decide) ?_
  refine lv_iadd hx hb dL_law_147 ?_
  refine lv_topi (fun v10 ev10 => ?_)
  have ev10 : v10 = 3 := ev10.trans (by decide +kernel)
  subst ev10
  refine va_sld hx hb hX hbl hbA hS (by unfold vp_in; decide) dL_law_148 ?_
  refine lv_topi (fun x11 ex11 => ?_)
  rcases zz_add8 x11 with h1 | ⟨h1, h2⟩ | h1 | h1 | h1 | h1 | h1 | h1 | h1 | h1
  · have hPc := hP.sub (ws' := [(x, .inr (15, [.ref aq1, .ref aq3, .ref aq5, .ref aq7, .ref aq9, .ref aq11, .ref aq16, .ref aq19, .ref aq22, .ref aq37, .ref aq55, .ref aq57, .ref aq59, .int 0, .null]))]) [0] rfl
    have hDc := hD.sub (ws' := [(x, .inr (15, [.ref aq1, .ref aq3, .ref aq5, .ref aq7, .ref aq9, .ref aq11, .ref aq16, .ref aq19, .ref aq22, .ref aq37, .ref aq55, .ref aq57, .ref aq59, .int 0, .null]))]) [0] (by decide) rfl
    have hFc := va_free (wc := [(x, .inr (15, [.ref aq1, .ref aq3, .ref aq5, .ref aq7, .ref aq9, .ref aq11, .ref aq16, .ref aq19, .ref aq22, .ref aq37, .ref aq55, .ref aq57, .ref aq59, .int 0, .null]))]) hD hS hA [0] rfl
    refine va_calli (va_runV (As := [.long z9, .int x11]) (rest := []) ⟨hx, hb, hml, hown, hts⟩ (c_X11_add_lo l D y H.size x ((.ref aq1)) ((.ref aq3)) ((.ref aq5)) ((.ref aq7)) ((.ref aq9)) ((.ref aq11)) ((.ref aq16)) ((.ref aq19)) ((.ref aq22)) ((.ref aq37)) ((.ref aq55)) ((.ref aq57)) ((.ref aq59)) ((.int 0)) ((.null)) z9 x11 h1) (cwV 2 hts gv_law_0_c_X11_add_lo_62 rfl rfl rfl (by decide +kernel) ⟨(Nat.le_of_ble_eq_true rfl), (Nat.le_of_ble_eq_true rfl)⟩) (zB.preV hPc hDc hK hN hE hO hT hG hS hFc (fun _ h => nomatch h) (fun _ h => nomatch h) (fun _ h => nomatch h) (fun _ h => nomatch h) (va_recv hK hPc (ci := 15) (q0 := 0) rfl rfl)) rfl rfl hl.1 rfl (lv_room (Nat.le_of_ble_eq_true rfl)) dL_law_149 ⟨(Nat.le_of_ble_eq_true rfl), (Nat.le_of_ble_eq_true rfl)⟩) hS (fun q _ h => hFc q h) hFc (fun r12 u t H1 locs ht hvm hw hB hz1 hk1 hS => ?_)
    obtain ⟨hP1, hD1⟩ := hB
    rw [ht] at hP1
    obtain ⟨hP, hD⟩ := va_join (wr := [(aq1, .inr (4, [.ref aq2, .int 0, .int 0])), (aq2, .inl (y 0, 4096, .inl (fun _ => 0))), (mo, .inr (16, [.int 0, .int 0, .ref mq1, .ref mq2, .int 0, .ref mq3, .int 0, .ref mq4, .ref mq5, .ref mq6, .int 0, .ref mq7, .ref mq8, .ref mq9, .int 0, .ref mq10, .ref mq11, .ref mq12, .ref mq13, .ref mq14, .int 0, .ref mq15, .ref mq16, .long 0, .ref mq17, .ref mq18, .ref mq19, .int 0, .null, .int 0, .int 0, .int 0, .null, .int 0, .int 0, .int 0, .null, .ref mq20, .int 0, .int 0, .long 0, .null, .null, .null, .null, .int 0, .int 0, .int 0, .int 0, .int 0, .int 0, .null, .long 0, .long 0, .long 0, .null, .null, .null, .int 0, .int 0, .int 0, .ref mq21, .null, .null])), (mq1, .inl (y 1, 4096, .inl (fun _ => 0)))]) (w1 := [(x, .inr (15, [.ref aq1, .ref aq3, .ref aq5, .ref aq7, .ref aq9, .ref aq11, .ref aq16, .ref aq19, .ref aq22, .ref aq37, .ref aq55, .ref aq57, .ref aq59, .int 0, .null]))]) hP hD [0] [1, 2, 3, 4] rfl rfl (by decide) (by decide) hk1 hFc hP1 hD1
    generalize H1 = H at hP hS ⊢
    have hP : va_P D vwCl [(aq1, .inr (4, [.ref aq2, .int 0, .int 0])), (aq2, .inl (y 0, 4096, .inl (fun _ => 0))), (mo, .inr (16, [.int 0, .int 0, .ref mq1, .ref mq2, .int 0, .ref mq3, .int 0, .ref mq4, .ref mq5, .ref mq6, .int 0, .ref mq7, .ref mq8, .ref mq9, .int 0, .ref mq10, .ref mq11, .ref mq12, .ref mq13, .ref mq14, .int 0, .ref mq15, .ref mq16, .long 0, .ref mq17, .ref mq18, .ref mq19, .int 0, .null, .int 0, .int 0, .int 0, .null, .int 0, .int 0, .int 0, .null, .ref mq20, .int 0, .int 0, .long 0, .null, .null, .null, .null, .int 0, .int 0, .int 0, .int 0, .int 0, .int 0, .null, .long 0, .long 0, .long 0, .null, .null, .null, .int 0, .int 0, .int 0, .ref mq21, .null, .null])), (mq1, .inl (y 1, 4096, .inl (fun _ => 0))), (x, .inr (15, [.ref aq1, .ref aq3, .ref aq5, .ref aq7, .ref aq9, .ref aq11, .ref aq16, .ref aq19, .ref aq22, .ref aq37, .ref aq55, .ref aq57, .ref aq59, .int 0, .null]))] H := hP
    have hD : va_D A [(aq1, .inr (4, [.ref aq2, .int 0, .int 0])), (aq2, .inl (y 0, 4096, .inl (fun _ => 0))), (mo, .inr (16, [.int 0, .int 0, .ref mq1, .ref mq2, .int 0, .ref mq3, .int 0, .ref mq4, .ref mq5, .ref mq6, .int 0, .ref mq7, .ref mq8, .ref mq9, .int 0, .ref mq10, .ref mq11, .ref mq12, .ref mq13, .ref mq14, .int 0, .ref mq15, .ref mq16, .long 0, .ref mq17, .ref mq18, .ref mq19, .int 0, .null, .int 0, .int 0, .int 0, .null, .int 0, .int 0, .int 0, .null, .ref mq20, .int 0, .int 0, .long 0, .null, .null, .null, .null, .int 0, .int 0, .int 0, .int 0, .int 0, .int 0, .null, .long 0, .long 0, .long 0, .null, .null, .null, .int 0, .int 0, .int 0, .ref mq21, .null, .null])), (mq1, .inl (y 1, 4096, .inl (fun _ => 0))), (x, .inr (15, [.ref aq1, .ref aq3, .ref aq5, .ref aq7, .ref aq9, .ref aq11, .ref aq16, .ref aq19, .ref aq22, .ref aq37, .ref aq55, .ref aq57, .ref aq59, .int 0, .null]))] := hD
    have hw : r12 = 0 := hw
    subst hw
    refine lv_aload_n hx hb dL_law_152 rfl (lv_at hl 2 rfl) ?_
    refine lv_aload_n hx hb dL_law_153 rfl (lv_at hl 4 rfl) ?_
    refine lv_iload hx hb dL_law_154 (lv_at hl 0 rfl) ?_
    refine lv_iconst (v := 1) hx hb dL_law_156 (by decide) ?_
    refine lv_iadd hx hb dL_law_157 ?_
    refine lv_topi (fun v13 ev13 => ?_)
    have ev13 : v13 = 1 := ev13.trans (by decide +kernel)
    subst ev13
    refine va_sld hx hb hX hbl hbA hS (by unfold vp_in; decide) dL_law_158 ?_
    refine lv_topi (fun x14 ex14 => ?_)
    have fx14 : x2 = x14 := ex2.trans ex14.symm
    subst fx14
    refine lv_i2l hx hb dL_law_159 rfl ?_
    refine lv_topl (fun z15 ez15 => ?_)
    have fz15 : z3 = z15 := ez3.trans ez15.symm
    subst fz15
    refine lv_bipush (v := 32) hx hb dL_law_160 (by decide) ?_
    refine lv_lshl hx hb dL_law_162 rfl ?_
    refine lv_topl (fun z16 ez16 => ?_)
    have fz16 : z4 = z16 := ez4.trans ez16.symm
    subst fz16
    refine lv_aload_n hx hb dL_law_163 rfl (lv_at hl 4 rfl) ?_
    refine lv_iload hx hb dL_law_164 (lv_at hl 0 rfl) ?_
    refine lv_iconst (v := 2) hx hb dL_law_166 (by decide) ?_
    refine lv_iadd hx hb dL_law_167 ?_
    refine lv_topi (fun v17 ev17 => ?_)
    have ev17 : v17 = 2 := ev17.trans (by decide +kernel)
    subst ev17
    refine va_sld hx hb hX hbl hbA hS (by unfold vp_in; decide) dL_law_168 ?_
    refine lv_topi (fun x18 ex18 => ?_)
    have fx18 : x6 = x18 := ex6.trans ex18.symm
    subst fx18
    refine lv_i2l hx hb dL_law_169 rfl ?_
    refine lv_topl (fun z19 ez19 => ?_)
    have fz19 : z7 = z19 := ez7.trans ez19.symm
    subst fz19
    refine lv_ldc2 (v := 4294967295) hx hb hown (hts (.constantLong RL 60 4294967295) (by decide +kernel)) dL_law_170 ?_
    refine lv_land hx hb dL_law_173 ?_
    refine lv_topl (fun z20 ez20 => ?_)
    have fz20 : z8 = z20 := ez8.trans ez20.symm
    subst fz20
    refine lv_lor hx hb dL_law_174 ?_
    refine lv_topl (fun z21 ez21 => ?_)
    have fz21 : z9 = z21 := ez9.trans ez21.symm
    subst fz21
    refine lv_aload_n hx hb dL_law_175 rfl (lv_at hl 4 rfl) ?_
    refine lv_iload hx hb dL_law_176 (lv_at hl 0 rfl) ?_
    refine lv_iconst (v := 3) hx hb dL_law_178 (by decide) ?_
    refine lv_iadd hx hb dL_law_179 ?_
    refine lv_topi (fun v22 ev22 => ?_)
    have ev22 : v22 = 3 := ev22.trans (by decide +kernel)
    subst ev22
    refine va_sld hx hb hX hbl hbA hS (by unfold vp_in; decide) dL_law_180 ?_
    refine lv_topi (fun x23 ex23 => ?_)
    have fx23 : x11 = x23 := ex11.trans ex23.symm
    subst fx23
    have hPc := hP.sub (ws' := [(mo, .inr (16, [.int 0, .int 0, .ref mq1, .ref mq2, .int 0, .ref mq3, .int 0, .ref mq4, .ref mq5, .ref mq6, .int 0, .ref mq7, .ref mq8, .ref mq9, .int 0, .ref mq10, .ref mq11, .ref mq12, .ref mq13, .ref mq14, .int 0, .ref mq15, .ref mq16, .long 0, .ref mq17, .ref mq18, .ref mq19, .int 0, .null, .int 0, .int 0, .int 0, .null, .int 0, .int 0, .int 0, .null, .ref mq20, .int 0, .int 0, .long 0, .null, .null, .null, .null, .int 0, .int 0, .int 0, .int 0, .int 0, .int 0, .null, .long 0, .long 0, .long 0, .null, .null, .null, .int 0, .int 0, .int 0, .ref mq21, .null, .null]))]) [2] rfl
    have hDc := hD.sub (ws' := [(mo, .inr (16, [.int 0, .int 0, .ref mq1, .ref mq2, .int 0, .ref mq3, .int 0, .ref mq4, .ref mq5, .ref mq6, .int 0, .ref mq7, .ref mq8, .ref mq9, .int 0, .ref mq10, .ref mq11, .ref mq12, .ref mq13, .ref mq14, .int 0, .ref mq15, .ref mq16, .long 0, .ref mq17, .ref mq18, .ref mq19, .int 0, .null, .int 0, .int 0, .int 0, .null, .int 0, .int 0, .int 0, .null, .ref mq20, .int 0, .int 0, .long 0, .null, .null, .null, .null, .int 0, .int 0, .int 0, .int 0, .int 0, .int 0, .null, .long 0, .long 0, .long 0, .null, .null, .null, .int 0, .int 0, .int 0, .ref mq21, .null, .null]))]) [2] (by decide) rfl
    have hFc := va_free (wc := [(mo, .inr (16, [.int 0, .int 0, .ref mq1, .ref mq2, .int 0, .ref mq3, .int 0, .ref mq4, .ref mq5, .ref mq6, .int 0, .ref mq7, .ref mq8, .ref mq9, .int 0, .ref mq10, .ref mq11, .ref mq12, .ref mq13, .ref mq14, .int 0, .ref mq15, .ref mq16, .long 0, .ref mq17, .ref mq18, .ref mq19, .int 0, .null, .int 0, .int 0, .int 0, .null, .int 0, .int 0, .int 0, .null, .ref mq20, .int 0, .int 0, .long 0, .null, .null, .null, .null, .int 0, .int 0, .int 0, .int 0, .int 0, .int 0, .null, .long 0, .long 0, .long 0, .null, .null, .null, .int 0, .int 0, .int 0, .ref mq21, .null, .null]))]) hD hS hA [2] rfl
    refine va_calli (va_runV (As := [.long z9, .int x11]) (rest := [.int 0]) ⟨hx, hb, hml, hown, hts⟩ (c_M_add_lo l D y H.size mo ((.int 0)) ((.int 0)) ((.ref mq1)) ((.ref mq2)) ((.int 0)) ((.ref mq3)) ((.int 0)) ((.ref mq4)) ((.ref mq5)) ((.ref mq6)) ((.int 0)) ((.ref mq7)) ((.ref mq8)) ((.ref mq9)) ((.int 0)) ((.ref mq10)) ((.ref mq11)) ((.ref mq12)) ((.ref mq13)) ((.ref mq14)) ((.int 0)) ((.ref mq15)) ((.ref mq16)) ((.long 0)) ((.ref mq17)) ((.ref mq18)) ((.ref mq19)) ((.int 0)) ((.null)) ((.int 0)) ((.int 0)) ((.int 0)) ((.null)) ((.int 0)) ((.int 0)) ((.int 0)) ((.null)) ((.ref mq20)) ((.int 0)) ((.int 0)) ((.long 0)) ((.null)) ((.null)) ((.null)) ((.null)) ((.int 0)) ((.int 0)) ((.int 0)) ((.int 0)) ((.int 0)) ((.int 0)) ((.null)) ((.long 0)) ((.long 0)) ((.long 0)) ((.null)) ((.null)) ((.null)) ((.int 0)) ((.int 0)) ((.int 0)) ((.ref mq21)) ((.null)) ((.null)) z9 x11 h1) (cwV 2 hts gv_law_0_c_M_add_lo_66 rfl rfl rfl (by decide +kernel) ⟨(Nat.le_of_ble_eq_true rfl), (Nat.le_of_ble_eq_true rfl)⟩) (zB.preV hPc hDc hK hN hE hO hT hG hS hFc (fun _ h => nomatch h) (fun _ h => nomatch h) (fun _ h => nomatch h) (fun _ h => nomatch h) (va_recv hK hPc (ci := 16) (q0 := 0) rfl rfl)) rfl rfl hl.1 rfl (lv_room (Nat.le_of_ble_eq_true rfl)) dL_law_181 ⟨(Nat.le_of_ble_eq_true rfl), (Nat.le_of_ble_eq_true rfl)⟩) hS (fun q _ h => hFc q h) hFc (fun r24 u t H1 locs ht hvm hw hB hz1 hk1 hS => ?_)
    obtain ⟨hP1, hD1⟩ := hB
    rw [ht] at hP1
    obtain ⟨hP, hD⟩ := va_join (wr := [(aq1, .inr (4, [.ref aq2, .int 0, .int 0])), (aq2, .inl (y 0, 4096, .inl (fun _ => 0))), (mq1, .inl (y 1, 4096, .inl (fun _ => 0))), (x, .inr (15, [.ref aq1, .ref aq3, .ref aq5, .ref aq7, .ref aq9, .ref aq11, .ref aq16, .ref aq19, .ref aq22, .ref aq37, .ref aq55, .ref aq57, .ref aq59, .int 0, .null]))]) (w1 := [(mo, .inr (16, [.int 0, .int 0, .ref mq1, .ref mq2, .int 0, .ref mq3, .int 0, .ref mq4, .ref mq5, .ref mq6, .int 0, .ref mq7, .ref mq8, .ref mq9, .int 0, .ref mq10, .ref mq11, .ref mq12, .ref mq13, .ref mq14, .int 0, .ref mq15, .ref mq16, .long 0, .ref mq17, .ref mq18, .ref mq19, .int 0, .null, .int 0, .int 0, .int 0, .null, .int 0, .int 0, .int 0, .null, .ref mq20, .int 0, .int 0, .long 0, .null, .null, .null, .null, .int 0, .int 0, .int 0, .int 0, .int 0, .int 0, .null, .long 0, .long 0, .long 0, .null, .null, .null, .int 0, .int 0, .int 0, .ref mq21, .null, .null]))]) hP hD [2] [0, 1, 3, 4] rfl rfl (by decide) (by decide) hk1 hFc hP1 hD1
    generalize H1 = H at hP hS ⊢
    have hP : va_P D vwCl [(aq1, .inr (4, [.ref aq2, .int 0, .int 0])), (aq2, .inl (y 0, 4096, .inl (fun _ => 0))), (mq1, .inl (y 1, 4096, .inl (fun _ => 0))), (x, .inr (15, [.ref aq1, .ref aq3, .ref aq5, .ref aq7, .ref aq9, .ref aq11, .ref aq16, .ref aq19, .ref aq22, .ref aq37, .ref aq55, .ref aq57, .ref aq59, .int 0, .null])), (mo, .inr (16, [.int 0, .int 0, .ref mq1, .ref mq2, .int 0, .ref mq3, .int 0, .ref mq4, .ref mq5, .ref mq6, .int 0, .ref mq7, .ref mq8, .ref mq9, .int 0, .ref mq10, .ref mq11, .ref mq12, .ref mq13, .ref mq14, .int 0, .ref mq15, .ref mq16, .long 0, .ref mq17, .ref mq18, .ref mq19, .int 0, .null, .int 0, .int 0, .int 0, .null, .int 0, .int 0, .int 0, .null, .ref mq20, .int 0, .int 0, .long 0, .null, .null, .null, .null, .int 0, .int 0, .int 0, .int 0, .int 0, .int 0, .null, .long 0, .long 0, .long 0, .null, .null, .null, .int 0, .int 0, .int 0, .ref mq21, .null, .null]))] H := hP
    have hD : va_D A [(aq1, .inr (4, [.ref aq2, .int 0, .int 0])), (aq2, .inl (y 0, 4096, .inl (fun _ => 0))), (mq1, .inl (y 1, 4096, .inl (fun _ => 0))), (x, .inr (15, [.ref aq1, .ref aq3, .ref aq5, .ref aq7, .ref aq9, .ref aq11, .ref aq16, .ref aq19, .ref aq22, .ref aq37, .ref aq55, .ref aq57, .ref aq59, .int 0, .null])), (mo, .inr (16, [.int 0, .int 0, .ref mq1, .ref mq2, .int 0, .ref mq3, .int 0, .ref mq4, .ref mq5, .ref mq6, .int 0, .ref mq7, .ref mq8, .ref mq9, .int 0, .ref mq10, .ref mq11, .ref mq12, .ref mq13, .ref mq14, .int 0, .ref mq15, .ref mq16, .long 0, .ref mq17, .ref mq18, .ref mq19, .int 0, .null, .int 0, .int 0, .int 0, .null, .int 0, .int 0, .int 0, .null, .ref mq20, .int 0, .int 0, .long 0, .null, .null, .null, .null, .int 0, .int 0, .int 0, .int 0, .int 0, .int 0, .null, .long 0, .long 0, .long 0, .null, .null, .null, .int 0, .int 0, .int 0, .ref mq21, .null, .null]))] := hD
    have hw : r24 = 0 := hw
    subst hw
    refine lv_icmp_eq (tgt := 1017) hx hb dL_law_184 (by decide) (fun _ => ?_) (fun c9 => absurd (by decide) c9)
    refine lv_iinc (v := 6) (lv' := [(4, .int 6), (3, .ref o), (2, .ref mo), (1, .ref x), (0, .ref b)]) hx hb dL_law_1017 hl (k := 0) rfl (by decide) (by decide) rfl (fun ls hl => ?_)
    refine lv_goto (tgt := 23) hx hb dL_law_1020 (by decide) ?_
    refine lv_iload hx hb dL_law_23 (lv_at hl 0 rfl) ?_
    refine lv_aload_n hx hb dL_law_25 rfl (lv_at hl 4 rfl) ?_
    refine va_slen hx hb hX hbl hbA hS dL_law_26 ?_
    refine lv_bipush (v := 6) hx hb dL_law_27 (by decide) ?_
    refine lv_isub hx hb dL_law_29 ?_
    refine lv_topi (fun v25 ev25 => ?_)
    have ev25 : v25 = 0 := ev25.trans (by decide +kernel)
    subst ev25
    refine lv_icmp_gt (tgt := 1023) hx hb dL_law_30 (by decide) (fun _ => ?_) (fun c9 => absurd (by decide) c9)
    refine lv_iconst (v := 1) hx hb dL_law_1023 (by decide) ?_
    refine va_forget (fun q hq => hAf _ (hS.2.2 q hq)) ?_
    refine W.widen (k := 600002) (n := 7302232) (Nat.le_of_ble_eq_true rfl) (Nat.le_of_ble_eq_true rfl) ?_
    exact lw_ret hx hb hr hlocks dL_law_1024
  · have hPc := hP.sub (ws' := [(x, .inr (15, [.ref aq1, .ref aq3, .ref aq5, .ref aq7, .ref aq9, .ref aq11, .ref aq16, .ref aq19, .ref aq22, .ref aq37, .ref aq55, .ref aq57, .ref aq59, .int 0, .null]))]) [0] rfl
    have hDc := hD.sub (ws' := [(x, .inr (15, [.ref aq1, .ref aq3, .ref aq5, .ref aq7, .ref aq9, .ref aq11, .ref aq16, .ref aq19, .ref aq22, .ref aq37, .ref aq55, .ref aq57, .ref aq59, .int 0, .null]))]) [0] (by decide) rfl
    have hFc := va_free (wc := [(x, .inr (15, [.ref aq1, .ref aq3, .ref aq5, .ref aq7, .ref aq9, .ref aq11, .ref aq16, .ref aq19, .ref aq22, .ref aq37, .ref aq55, .ref aq57, .ref aq59, .int 0, .null]))]) hD hS hA [0] rfl
    refine va_calli (va_runV (As := [.long z9, .int x11]) (rest := []) ⟨hx, hb, hml, hown, hts⟩ (c_X11_add_hi l D y H.size x ((.ref aq1)) ((.ref aq3)) ((.ref aq5)) ((.ref aq7)) ((.ref aq9)) ((.ref aq11)) ((.ref aq16)) ((.ref aq19)) ((.ref aq22)) ((.ref aq37)) ((.ref aq55)) ((.ref aq57)) ((.ref aq59)) ((.int 0)) ((.null)) z9 x11 h1 h2) (cwV 2 hts gv_law_0_c_X11_add_hi_62 rfl rfl rfl (by decide +kernel) ⟨(Nat.le_of_ble_eq_true rfl), (Nat.le_of_ble_eq_true rfl)⟩) (zB.preV hPc hDc hK hN hE hO hT hG hS hFc (fun _ h => nomatch h) (fun _ h => nomatch h) (fun _ h => nomatch h) (fun _ h => nomatch h) (va_recv hK hPc (ci := 15) (q0 := 0) rfl rfl)) rfl rfl hl.1 rfl (lv_room (Nat.le_of_ble_eq_true rfl)) dL_law_149 ⟨(Nat.le_of_ble_eq_true rfl), (Nat.le_of_ble_eq_true rfl)⟩) hS (fun q _ h => hFc q h) hFc (fun r26 u t H1 locs ht hvm hw hB hz1 hk1 hS => ?_)
    obtain ⟨hP1, hD1⟩ := hB
    rw [ht] at hP1
    obtain ⟨hP, hD⟩ := va_join (wr := [(aq1, .inr (4, [.ref aq2, .int 0, .int 0])), (aq2, .inl (y 0, 4096, .inl (fun _ => 0))), (mo, .inr (16, [.int 0, .int 0, .ref mq1, .ref mq2, .int 0, .ref mq3, .int 0, .ref mq4, .ref mq5, .ref mq6, .int 0, .ref mq7, .ref mq8, .ref mq9, .int 0, .ref mq10, .ref mq11, .ref mq12, .ref mq13, .ref mq14, .int 0, .ref mq15, .ref mq16, .long 0, .ref mq17, .ref mq18, .ref mq19, .int 0, .null, .int 0, .int 0, .int 0, .null, .int 0, .int 0, .int 0, .null, .ref mq20, .int 0, .int 0, .long 0, .null, .null, .null, .null, .int 0, .int 0, .int 0, .int 0, .int 0, .int 0, .null, .long 0, .long 0, .long 0, .null, .null, .null, .int 0, .int 0, .int 0, .ref mq21, .null, .null])), (mq1, .inl (y 1, 4096, .inl (fun _ => 0)))]) (w1 := [(x, .inr (15, [.ref aq1, .ref aq3, .ref aq5, .ref aq7, .ref aq9, .ref aq11, .ref aq16, .ref aq19, .ref aq22, .ref aq37, .ref aq55, .ref aq57, .ref aq59, .int 0, .null]))]) hP hD [0] [1, 2, 3, 4] rfl rfl (by decide) (by decide) hk1 hFc hP1 hD1
    generalize H1 = H at hP hS ⊢
    have hP : va_P D vwCl [(aq1, .inr (4, [.ref aq2, .int 0, .int 0])), (aq2, .inl (y 0, 4096, .inl (fun _ => 0))), (mo, .inr (16, [.int 0, .int 0, .ref mq1, .ref mq2, .int 0, .ref mq3, .int 0, .ref mq4, .ref mq5, .ref mq6, .int 0, .ref mq7, .ref mq8, .ref mq9, .int 0, .ref mq10, .ref mq11, .ref mq12, .ref mq13, .ref mq14, .int 0, .ref mq15, .ref mq16, .long 0, .ref mq17, .ref mq18, .ref mq19, .int 0, .null, .int 0, .int 0, .int 0, .null, .int 0, .int 0, .int 0, .null, .ref mq20, .int 0, .int 0, .long 0, .null, .null, .null, .null, .int 0, .int 0, .int 0, .int 0, .int 0, .int 0, .null, .long 0, .long 0, .long 0, .null, .null, .null, .int 0, .int 0, .int 0, .ref mq21, .null, .null])), (mq1, .inl (y 1, 4096, .inl (fun _ => 0))), (x, .inr (15, [.ref aq1, .ref aq3, .ref aq5, .ref aq7, .ref aq9, .ref aq11, .ref aq16, .ref aq19, .ref aq22, .ref aq37, .ref aq55, .ref aq57, .ref aq59, .int 0, .null]))] H := hP
    have hD : va_D A [(aq1, .inr (4, [.ref aq2, .int 0, .int 0])), (aq2, .inl (y 0, 4096, .inl (fun _ => 0))), (mo, .inr (16, [.int 0, .int 0, .ref mq1, .ref mq2, .int 0, .ref mq3, .int 0, .ref mq4, .ref mq5, .ref mq6, .int 0, .ref mq7, .ref mq8, .ref mq9, .int 0, .ref mq10, .ref mq11, .ref mq12, .ref mq13, .ref mq14, .int 0, .ref mq15, .ref mq16, .long 0, .ref mq17, .ref mq18, .ref mq19, .int 0, .null, .int 0, .int 0, .int 0, .null, .int 0, .int 0, .int 0, .null, .ref mq20, .int 0, .int 0, .long 0, .null, .null, .null, .null, .int 0, .int 0, .int 0, .int 0, .int 0, .int 0, .null, .long 0, .long 0, .long 0, .null, .null, .null, .int 0, .int 0, .int 0, .ref mq21, .null, .null])), (mq1, .inl (y 1, 4096, .inl (fun _ => 0))), (x, .inr (15, [.ref aq1, .ref aq3, .ref aq5, .ref aq7, .ref aq9, .ref aq11, .ref aq16, .ref aq19, .ref aq22, .ref aq37, .ref aq55, .ref aq57, .ref aq59, .int 0, .null]))] := hD
    have hw : r26 = 0 := hw
    subst hw
    refine lv_aload_n hx hb dL_law_152 rfl (lv_at hl 2 rfl) ?_
    refine lv_aload_n hx hb dL_law_153 rfl (lv_at hl 4 rfl) ?_
    refine lv_iload hx hb dL_law_154 (lv_at hl 0 rfl) ?_
    refine lv_iconst (v := 1) hx hb dL_law_156 (by decide) ?_
    refine lv_iadd hx hb dL_law_157 ?_
    refine lv_topi (fun v27 ev27 => ?_)
    have ev27 : v27 = 1 := ev27.trans (by decide +kernel)
    subst ev27
    refine va_sld hx hb hX hbl hbA hS (by unfold vp_in; decide) dL_law_158 ?_
    refine lv_topi (fun x28 ex28 => ?_)
    have fx28 : x2 = x28 := ex2.trans ex28.symm
    subst fx28
    refine lv_i2l hx hb dL_law_159 rfl ?_
    refine lv_topl (fun z29 ez29 => ?_)
    have fz29 : z3 = z29 := ez3.trans ez29.symm
    subst fz29
    refine lv_bipush (v := 32) hx hb dL_law_160 (by decide) ?_
    refine lv_lshl hx hb dL_law_162 rfl ?_
    refine lv_topl (fun z30 ez30 => ?_)
    have fz30 : z4 = z30 := ez4.trans ez30.symm
    subst fz30
    refine lv_aload_n hx hb dL_law_163 rfl (lv_at hl 4 rfl) ?_
    refine lv_iload hx hb dL_law_164 (lv_at hl 0 rfl) ?_
    refine lv_iconst (v := 2) hx hb dL_law_166 (by decide) ?_
    refine lv_iadd hx hb dL_law_167 ?_
    refine lv_topi (fun v31 ev31 => ?_)
    have ev31 : v31 = 2 := ev31.trans (by decide +kernel)
    subst ev31
    refine va_sld hx hb hX hbl hbA hS (by unfold vp_in; decide) dL_law_168 ?_
    refine lv_topi (fun x32 ex32 => ?_)
    have fx32 : x6 = x32 := ex6.trans ex32.symm
    subst fx32
    refine lv_i2l hx hb dL_law_169 rfl ?_
    refine lv_topl (fun z33 ez33 => ?_)
    have fz33 : z7 = z33 := ez7.trans ez33.symm
    subst fz33
    refine lv_ldc2 (v := 4294967295) hx hb hown (hts (.constantLong RL 60 4294967295) (by decide +kernel)) dL_law_170 ?_
    refine lv_land hx hb dL_law_173 ?_
    refine lv_topl (fun z34 ez34 => ?_)
    have fz34 : z8 = z34 := ez8.trans ez34.symm
    subst fz34
    refine lv_lor hx hb dL_law_174 ?_
    refine lv_topl (fun z35 ez35 => ?_)
    have fz35 : z9 = z35 := ez9.trans ez35.symm
    subst fz35
    refine lv_aload_n hx hb dL_law_175 rfl (lv_at hl 4 rfl) ?_
    refine lv_iload hx hb dL_law_176 (lv_at hl 0 rfl) ?_
    refine lv_iconst (v := 3) hx hb dL_law_178 (by decide) ?_
    refine lv_iadd hx hb dL_law_179 ?_
    refine lv_topi (fun v36 ev36 => ?_)
    have ev36 : v36 = 3 := ev36.trans (by decide +kernel)
    subst ev36
    refine va_sld hx hb hX hbl hbA hS (by unfold vp_in; decide) dL_law_180 ?_
    refine lv_topi (fun x37 ex37 => ?_)
    have fx37 : x11 = x37 := ex11.trans ex37.symm
    subst fx37
    have hPc := hP.sub (ws' := [(mo, .inr (16, [.int 0, .int 0, .ref mq1, .ref mq2, .int 0, .ref mq3, .int 0, .ref mq4, .ref mq5, .ref mq6, .int 0, .ref mq7, .ref mq8, .ref mq9, .int 0, .ref mq10, .ref mq11, .ref mq12, .ref mq13, .ref mq14, .int 0, .ref mq15, .ref mq16, .long 0, .ref mq17, .ref mq18, .ref mq19, .int 0, .null, .int 0, .int 0, .int 0, .null, .int 0, .int 0, .int 0, .null, .ref mq20, .int 0, .int 0, .long 0, .null, .null, .null, .null, .int 0, .int 0, .int 0, .int 0, .int 0, .int 0, .null, .long 0, .long 0, .long 0, .null, .null, .null, .int 0, .int 0, .int 0, .ref mq21, .null, .null]))]) [2] rfl
    have hDc := hD.sub (ws' := [(mo, .inr (16, [.int 0, .int 0, .ref mq1, .ref mq2, .int 0, .ref mq3, .int 0, .ref mq4, .ref mq5, .ref mq6, .int 0, .ref mq7, .ref mq8, .ref mq9, .int 0, .ref mq10, .ref mq11, .ref mq12, .ref mq13, .ref mq14, .int 0, .ref mq15, .ref mq16, .long 0, .ref mq17, .ref mq18, .ref mq19, .int 0, .null, .int 0, .int 0, .int 0, .null, .int 0, .int 0, .int 0, .null, .ref mq20, .int 0, .int 0, .long 0, .null, .null, .null, .null, .int 0, .int 0, .int 0, .int 0, .int 0, .int 0, .null, .long 0, .long 0, .long 0, .null, .null, .null, .int 0, .int 0, .int 0, .ref mq21, .null, .null]))]) [2] (by decide) rfl
    have hFc := va_free (wc := [(mo, .inr (16, [.int 0, .int 0, .ref mq1, .ref mq2, .int 0, .ref mq3, .int 0, .ref mq4, .ref mq5, .ref mq6, .int 0, .ref mq7, .ref mq8, .ref mq9, .int 0, .ref mq10, .ref mq11, .ref mq12, .ref mq13, .ref mq14, .int 0, .ref mq15, .ref mq16, .long 0, .ref mq17, .ref mq18, .ref mq19, .int 0, .null, .int 0, .int 0, .int 0, .null, .int 0, .int 0, .int 0, .null, .ref mq20, .int 0, .int 0, .long 0, .null, .null, .null, .null, .int 0, .int 0, .int 0, .int 0, .int 0, .int 0, .null, .long 0, .long 0, .long 0, .null, .null, .null, .int 0, .int 0, .int 0, .ref mq21, .null, .null]))]) hD hS hA [2] rfl
    refine va_calli (va_runV (As := [.long z9, .int x11]) (rest := [.int 0]) ⟨hx, hb, hml, hown, hts⟩ (c_M_add_hi l D y H.size mo ((.int 0)) ((.int 0)) ((.ref mq1)) ((.ref mq2)) ((.int 0)) ((.ref mq3)) ((.int 0)) ((.ref mq4)) ((.ref mq5)) ((.ref mq6)) ((.int 0)) ((.ref mq7)) ((.ref mq8)) ((.ref mq9)) ((.int 0)) ((.ref mq10)) ((.ref mq11)) ((.ref mq12)) ((.ref mq13)) ((.ref mq14)) ((.int 0)) ((.ref mq15)) ((.ref mq16)) ((.long 0)) ((.ref mq17)) ((.ref mq18)) ((.ref mq19)) ((.int 0)) ((.null)) ((.int 0)) ((.int 0)) ((.int 0)) ((.null)) ((.int 0)) ((.int 0)) ((.int 0)) ((.null)) ((.ref mq20)) ((.int 0)) ((.int 0)) ((.long 0)) ((.null)) ((.null)) ((.null)) ((.null)) ((.int 0)) ((.int 0)) ((.int 0)) ((.int 0)) ((.int 0)) ((.int 0)) ((.null)) ((.long 0)) ((.long 0)) ((.long 0)) ((.null)) ((.null)) ((.null)) ((.int 0)) ((.int 0)) ((.int 0)) ((.ref mq21)) ((.null)) ((.null)) z9 x11 h1 h2) (cwV 2 hts gv_law_0_c_M_add_hi_66 rfl rfl rfl (by decide +kernel) ⟨(Nat.le_of_ble_eq_true rfl), (Nat.le_of_ble_eq_true rfl)⟩) (zB.preV hPc hDc hK hN hE hO hT hG hS hFc (fun _ h => nomatch h) (fun _ h => nomatch h) (fun _ h => nomatch h) (fun _ h => nomatch h) (va_recv hK hPc (ci := 16) (q0 := 0) rfl rfl)) rfl rfl hl.1 rfl (lv_room (Nat.le_of_ble_eq_true rfl)) dL_law_181 ⟨(Nat.le_of_ble_eq_true rfl), (Nat.le_of_ble_eq_true rfl)⟩) hS (fun q _ h => hFc q h) hFc (fun r38 u t H1 locs ht hvm hw hB hz1 hk1 hS => ?_)
    obtain ⟨hP1, hD1⟩ := hB
    rw [ht] at hP1
    obtain ⟨hP, hD⟩ := va_join (wr := [(aq1, .inr (4, [.ref aq2, .int 0, .int 0])), (aq2, .inl (y 0, 4096, .inl (fun _ => 0))), (mq1, .inl (y 1, 4096, .inl (fun _ => 0))), (x, .inr (15, [.ref aq1, .ref aq3, .ref aq5, .ref aq7, .ref aq9, .ref aq11, .ref aq16, .ref aq19, .ref aq22, .ref aq37, .ref aq55, .ref aq57, .ref aq59, .int 0, .null]))]) (w1 := [(mo, .inr (16, [.int 0, .int 0, .ref mq1, .ref mq2, .int 0, .ref mq3, .int 0, .ref mq4, .ref mq5, .ref mq6, .int 0, .ref mq7, .ref mq8, .ref mq9, .int 0, .ref mq10, .ref mq11, .ref mq12, .ref mq13, .ref mq14, .int 0, .ref mq15, .ref mq16, .long 0, .ref mq17, .ref mq18, .ref mq19, .int 0, .null, .int 0, .int 0, .int 0, .null, .int 0, .int 0, .int 0, .null, .ref mq20, .int 0, .int 0, .long 0, .null, .null, .null, .null, .int 0, .int 0, .int 0, .int 0, .int 0, .int 0, .null, .long 0, .long 0, .long 0, .null, .null, .null, .int 0, .int 0, .int 0, .ref mq21, .null, .null]))]) hP hD [2] [0, 1, 3, 4] rfl rfl (by decide) (by decide) hk1 hFc hP1 hD1
    generalize H1 = H at hP hS ⊢
    have hP : va_P D vwCl [(aq1, .inr (4, [.ref aq2, .int 0, .int 0])), (aq2, .inl (y 0, 4096, .inl (fun _ => 0))), (mq1, .inl (y 1, 4096, .inl (fun _ => 0))), (x, .inr (15, [.ref aq1, .ref aq3, .ref aq5, .ref aq7, .ref aq9, .ref aq11, .ref aq16, .ref aq19, .ref aq22, .ref aq37, .ref aq55, .ref aq57, .ref aq59, .int 0, .null])), (mo, .inr (16, [.int 0, .int 0, .ref mq1, .ref mq2, .int 0, .ref mq3, .int 0, .ref mq4, .ref mq5, .ref mq6, .int 0, .ref mq7, .ref mq8, .ref mq9, .int 0, .ref mq10, .ref mq11, .ref mq12, .ref mq13, .ref mq14, .int 0, .ref mq15, .ref mq16, .long 0, .ref mq17, .ref mq18, .ref mq19, .int 0, .null, .int 0, .int 0, .int 0, .null, .int 0, .int 0, .int 0, .null, .ref mq20, .int 0, .int 0, .long 0, .null, .null, .null, .null, .int 0, .int 0, .int 0, .int 0, .int 0, .int 0, .null, .long 0, .long 0, .long 0, .null, .null, .null, .int 0, .int 0, .int 0, .ref mq21, .null, .null]))] H := hP
    have hD : va_D A [(aq1, .inr (4, [.ref aq2, .int 0, .int 0])), (aq2, .inl (y 0, 4096, .inl (fun _ => 0))), (mq1, .inl (y 1, 4096, .inl (fun _ => 0))), (x, .inr (15, [.ref aq1, .ref aq3, .ref aq5, .ref aq7, .ref aq9, .ref aq11, .ref aq16, .ref aq19, .ref aq22, .ref aq37, .ref aq55, .ref aq57, .ref aq59, .int 0, .null])), (mo, .inr (16, [.int 0, .int 0, .ref mq1, .ref mq2, .int 0, .ref mq3, .int 0, .ref mq4, .ref mq5, .ref mq6, .int 0, .ref mq7, .ref mq8, .ref mq9, .int 0, .ref mq10, .ref mq11, .ref mq12, .ref mq13, .ref mq14, .int 0, .ref mq15, .ref mq16, .long 0, .ref mq17, .ref mq18, .ref mq19, .int 0, .null, .int 0, .int 0, .int 0, .null, .int 0, .int 0, .int 0, .null, .ref mq20, .int 0, .int 0, .long 0, .null, .null, .null, .null, .int 0, .int 0, .int 0, .int 0, .int 0, .int 0, .null, .long 0, .long 0, .long 0, .null, .null, .null, .int 0, .int 0, .int 0, .ref mq21, .null, .null]))] := hD
    have hw : r38 = 0 := hw
    subst hw
    refine lv_icmp_eq (tgt := 1017) hx hb dL_law_184 (by decide) (fun _ => ?_) (fun c9 => absurd (by decide) c9)
    refine lv_iinc (v := 6) (lv' := [(4, .int 6), (3, .ref o), (2, .ref mo), (1, .ref x), (0, .ref b)]) hx hb dL_law_1017 hl (k := 0) rfl (by decide) (by decide) rfl (fun ls hl => ?_)
    refine lv_goto (tgt := 23) hx hb dL_law_1020 (by decide) ?_
    refine lv_iload hx hb dL_law_23 (lv_at hl 0 rfl) ?_
    refine lv_aload_n hx hb dL_law_25 rfl (lv_at hl 4 rfl) ?_
    refine va_slen hx hb hX hbl hbA hS dL_law_26 ?_
    refine lv_bipush (v := 6) hx hb dL_law_27 (by decide) ?_
    refine lv_isub hx hb dL_law_29 ?_
    refine lv_topi (fun v39 ev39 => ?_)
    have ev39 : v39 = 0 := ev39.trans (by decide +kernel)
    subst ev39
    refine lv_icmp_gt (tgt := 1023) hx hb dL_law_30 (by decide) (fun _ => ?_) (fun c9 => absurd (by decide) c9)
    refine lv_iconst (v := 1) hx hb dL_law_1023 (by decide) ?_
    refine va_forget (fun q hq => hAf _ (hS.2.2 q hq)) ?_
    refine W.widen (k := 600002) (n := 7302232) (Nat.le_of_ble_eq_true rfl) (Nat.le_of_ble_eq_true rfl) ?_
    exact lw_ret hx hb hr hlocks dL_law_1024
  · subst h1
    have hPc := hP.sub (ws' := [(x, .inr (15, [.ref aq1, .ref aq3, .ref aq5, .ref aq7, .ref aq9, .ref aq11, .ref aq16, .ref aq19, .ref aq22, .ref aq37, .ref aq55, .ref aq57, .ref aq59, .int 0, .null])), (aq1, .inr (4, [.ref aq2, .int 0, .int 0])), (aq2, .inl (y 0, 4096, .inl (fun _ => 0)))]) [0, 1, 2] rfl
    have hDc := hD.sub (ws' := [(x, .inr (15, [.ref aq1, .ref aq3, .ref aq5, .ref aq7, .ref aq9, .ref aq11, .ref aq16, .ref aq19, .ref aq22, .ref aq37, .ref aq55, .ref aq57, .ref aq59, .int 0, .null])), (aq1, .inr (4, [.ref aq2, .int 0, .int 0])), (aq2, .inl (y 0, 4096, .inl (fun _ => 0)))]) [0, 1, 2] (by decide) rfl
    have hFc := va_free (wc := [(x, .inr (15, [.ref aq1, .ref aq3, .ref aq5, .ref aq7, .ref aq9, .ref aq11, .ref aq16, .ref aq19, .ref aq22, .ref aq37, .ref aq55, .ref aq57, .ref aq59, .int 0, .null])), (aq1, .inr (4, [.ref aq2, .int 0, .int 0])), (aq2, .inl (y 0, 4096, .inl (fun _ => 0)))]) hD hS hA [0, 1, 2] rfl
    refine va_calli (va_runV (As := [.long z9, .int 1]) (rest := []) ⟨hx, hb, hml, hown, hts⟩ (c_X11_add_1 l D y H.size x aq1 aq2 ((.ref aq3)) ((.ref aq5)) ((.ref aq7)) ((.ref aq9)) ((.ref aq11)) ((.ref aq16)) ((.ref aq19)) ((.ref aq22)) ((.ref aq37)) ((.ref aq55)) ((.ref aq57)) ((.ref aq59)) ((.int 0)) ((.null)) ((.int 0)) ((fun _ => 0)) z9) (cwV 2 hts gv_law_0_c_X11_add_1_62 rfl rfl rfl (by decide +kernel) ⟨(Nat.le_of_ble_eq_true rfl), (Nat.le_of_ble_eq_true rfl)⟩) (zB.preV hPc hDc hK hN hE hO hT hG hS hFc (fun _ h => nomatch h) (fun _ h => nomatch h) (fun _ h => nomatch h) (fun _ h => nomatch h) (va_recv hK hPc (ci := 15) (q0 := 0) rfl rfl)) rfl rfl hl.1 rfl (lv_room (Nat.le_of_ble_eq_true rfl)) dL_law_149 ⟨(Nat.le_of_ble_eq_true rfl), (Nat.le_of_ble_eq_true rfl)⟩) hS (fun q _ h => hFc q h) hFc (fun r40 u t H1 locs ht hvm hw hB hz1 hk1 hS => ?_)
    obtain ⟨f41, hP1, hD1⟩ := hB
    rw [ht] at hP1
    obtain ⟨hP, hD⟩ := va_join (wr := [(mo, .inr (16, [.int 0, .int 0, .ref mq1, .ref mq2, .int 0, .ref mq3, .int 0, .ref mq4, .ref mq5, .ref mq6, .int 0, .ref mq7, .ref mq8, .ref mq9, .int 0, .ref mq10, .ref mq11, .ref mq12, .ref mq13, .ref mq14, .int 0, .ref mq15, .ref mq16, .long 0, .ref mq17, .ref mq18, .ref mq19, .int 0, .null, .int 0, .int 0, .int 0, .null, .int 0, .int 0, .int 0, .null, .ref mq20, .int 0, .int 0, .long 0, .null, .null, .null, .null, .int 0, .int 0, .int 0, .int 0, .int 0, .int 0, .null, .long 0, .long 0, .long 0, .null, .null, .null, .int 0, .int 0, .int 0, .ref mq21, .null, .null])), (mq1, .inl (y 1, 4096, .inl (fun _ => 0)))]) (w1 := [(x, .inr (15, [.ref aq1, .ref aq3, .ref aq5, .ref aq7, .ref aq9, .ref aq11, .ref aq16, .ref aq19, .ref aq22, .ref aq37, .ref aq55, .ref aq57, .ref aq59, .int 0, .null])), (aq1, .inr (4, [.ref aq2, .int 0, .int (nI 1)])), (aq2, .inl (y 0, 4096, .inl f41))]) hP hD [0, 1, 2] [3, 4] rfl rfl (by decide) (by decide) hk1 hFc hP1 hD1
    generalize H1 = H at hP hS ⊢
    have hP : va_P D vwCl [(mo, .inr (16, [.int 0, .int 0, .ref mq1, .ref mq2, .int 0, .ref mq3, .int 0, .ref mq4, .ref mq5, .ref mq6, .int 0, .ref mq7, .ref mq8, .ref mq9, .int 0, .ref mq10, .ref mq11, .ref mq12, .ref mq13, .ref mq14, .int 0, .ref mq15, .ref mq16, .long 0, .ref mq17, .ref mq18, .ref mq19, .int 0, .null, .int 0, .int 0, .int 0, .null, .int 0, .int 0, .int 0, .null, .ref mq20, .int 0, .int 0, .long 0, .null, .null, .null, .null, .int 0, .int 0, .int 0, .int 0, .int 0, .int 0, .null, .long 0, .long 0, .long 0, .null, .null, .null, .int 0, .int 0, .int 0, .ref mq21, .null, .null])), (mq1, .inl (y 1, 4096, .inl (fun _ => 0))), (x, .inr (15, [.ref aq1, .ref aq3, .ref aq5, .ref aq7, .ref aq9, .ref aq11, .ref aq16, .ref aq19, .ref aq22, .ref aq37, .ref aq55, .ref aq57, .ref aq59, .int 0, .null])), (aq1, .inr (4, [.ref aq2, .int 0, .int (nI 1)])), (aq2, .inl (y 0, 4096, .inl f41))] H := hP
    have hD : va_D A [(mo, .inr (16, [.int 0, .int 0, .ref mq1, .ref mq2, .int 0, .ref mq3, .int 0, .ref mq4, .ref mq5, .ref mq6, .int 0, .ref mq7, .ref mq8, .ref mq9, .int 0, .ref mq10, .ref mq11, .ref mq12, .ref mq13, .ref mq14, .int 0, .ref mq15, .ref mq16, .long 0, .ref mq17, .ref mq18, .ref mq19, .int 0, .null, .int 0, .int 0, .int 0, .null, .int 0, .int 0, .int 0, .null, .ref mq20, .int 0, .int 0, .long 0, .null, .null, .null, .null, .int 0, .int 0, .int 0, .int 0, .int 0, .int 0, .null, .long 0, .long 0, .long 0, .null, .null, .null, .int 0, .int 0, .int 0, .ref mq21, .null, .null])), (mq1, .inl (y 1, 4096, .inl (fun _ => 0))), (x, .inr (15, [.ref aq1, .ref aq3, .ref aq5, .ref aq7, .ref aq9, .ref aq11, .ref aq16, .ref aq19, .ref aq22, .ref aq37, .ref aq55, .ref aq57, .ref aq59, .int 0, .null])), (aq1, .inr (4, [.ref aq2, .int 0, .int (nI 1)])), (aq2, .inl (y 0, 4096, .inl f41))] := hD
    have hw : r40 = 1 := hw
    subst hw
    refine lv_aload_n hx hb dL_law_152 rfl (lv_at hl 2 rfl) ?_
    refine lv_aload_n hx hb dL_law_153 rfl (lv_at hl 4 rfl) ?_
    refine lv_iload hx hb dL_law_154 (lv_at hl 0 rfl) ?_
    refine lv_iconst (v := 1) hx hb dL_law_156 (by decide) ?_
    refine lv_iadd hx hb dL_law_157 ?_
    refine lv_topi (fun v42 ev42 => ?_)
    have ev42 : v42 = 1 := ev42.trans (by decide +kernel)
    subst ev42
    refine va_sld hx hb hX hbl hbA hS (by unfold vp_in; decide) dL_law_158 ?_
    refine lv_topi (fun x43 ex43 => ?_)
    have fx43 : x2 = x43 := ex2.trans ex43.symm
    subst fx43
    refine lv_i2l hx hb dL_law_159 rfl ?_
    refine lv_topl (fun z44 ez44 => ?_)
    have fz44 : z3 = z44 := ez3.trans ez44.symm
    subst fz44
    refine lv_bipush (v := 32) hx hb dL_law_160 (by decide) ?_
    refine lv_lshl hx hb dL_law_162 rfl ?_
    refine lv_topl (fun z45 ez45 => ?_)
    have fz45 : z4 = z45 := ez4.trans ez45.symm
    subst fz45
    refine lv_aload_n hx hb dL_law_163 rfl (lv_at hl 4 rfl) ?_
    refine lv_iload hx hb dL_law_164 (lv_at hl 0 rfl) ?_
    refine lv_iconst (v := 2) hx hb dL_law_166 (by decide) ?_
    refine lv_iadd hx hb dL_law_167 ?_
    refine lv_topi (fun v46 ev46 => ?_)
    have ev46 : v46 = 2 := ev46.trans (by decide +kernel)
    subst ev46
    refine va_sld hx hb hX hbl hbA hS (by unfold vp_in; decide) dL_law_168 ?_
    refine lv_topi (fun x47 ex47 => ?_)
    have fx47 : x6 = x47 := ex6.trans ex47.symm
    subst fx47
    refine lv_i2l hx hb dL_law_169 rfl ?_
    refine lv_topl (fun z48 ez48 => ?_)
    have fz48 : z7 = z48 := ez7.trans ez48.symm
    subst fz48
    refine lv_ldc2 (v := 4294967295) hx hb hown (hts (.constantLong RL 60 4294967295) (by decide +kernel)) dL_law_170 ?_
    refine lv_land hx hb dL_law_173 ?_
    refine lv_topl (fun z49 ez49 => ?_)
    have fz49 : z8 = z49 := ez8.trans ez49.symm
    subst fz49
    refine lv_lor hx hb dL_law_174 ?_
    refine lv_topl (fun z50 ez50 => ?_)
    have fz50 : z9 = z50 := ez9.trans ez50.symm
    subst fz50
    refine lv_aload_n hx hb dL_law_175 rfl (lv_at hl 4 rfl) ?_
    refine lv_iload hx hb dL_law_176 (lv_at hl 0 rfl) ?_
    refine lv_iconst (v := 3) hx hb dL_law_178 (by decide) ?_
    refine lv_iadd hx hb dL_law_179 ?_
    refine lv_topi (fun v51 ev51 => ?_)
    have ev51 : v51 = 3 := ev51.trans (by decide +kernel)
    subst ev51
    refine va_sld hx hb hX hbl hbA hS (by unfold vp_in; decide) dL_law_180 ?_
    refine lv_topi (fun x52 ex52 => ?_)
    have fx52 : 1 = x52 := ex11.trans ex52.symm
    subst fx52
    have hPc := hP.sub (ws' := [(mo, .inr (16, [.int 0, .int 0, .ref mq1, .ref mq2, .int 0, .ref mq3, .int 0, .ref mq4, .ref mq5, .ref mq6, .int 0, .ref mq7, .ref mq8, .ref mq9, .int 0, .ref mq10, .ref mq11, .ref mq12, .ref mq13, .ref mq14, .int 0, .ref mq15, .ref mq16, .long 0, .ref mq17, .ref mq18, .ref mq19, .int 0, .null, .int 0, .int 0, .int 0, .null, .int 0, .int 0, .int 0, .null, .ref mq20, .int 0, .int 0, .long 0, .null, .null, .null, .null, .int 0, .int 0, .int 0, .int 0, .int 0, .int 0, .null, .long 0, .long 0, .long 0, .null, .null, .null, .int 0, .int 0, .int 0, .ref mq21, .null, .null])), (mq1, .inl (y 1, 4096, .inl (fun _ => 0)))]) [0, 1] rfl
    have hDc := hD.sub (ws' := [(mo, .inr (16, [.int 0, .int 0, .ref mq1, .ref mq2, .int 0, .ref mq3, .int 0, .ref mq4, .ref mq5, .ref mq6, .int 0, .ref mq7, .ref mq8, .ref mq9, .int 0, .ref mq10, .ref mq11, .ref mq12, .ref mq13, .ref mq14, .int 0, .ref mq15, .ref mq16, .long 0, .ref mq17, .ref mq18, .ref mq19, .int 0, .null, .int 0, .int 0, .int 0, .null, .int 0, .int 0, .int 0, .null, .ref mq20, .int 0, .int 0, .long 0, .null, .null, .null, .null, .int 0, .int 0, .int 0, .int 0, .int 0, .int 0, .null, .long 0, .long 0, .long 0, .null, .null, .null, .int 0, .int 0, .int 0, .ref mq21, .null, .null])), (mq1, .inl (y 1, 4096, .inl (fun _ => 0)))]) [0, 1] (by decide) rfl
    have hFc := va_free (wc := [(mo, .inr (16, [.int 0, .int 0, .ref mq1, .ref mq2, .int 0, .ref mq3, .int 0, .ref mq4, .ref mq5, .ref mq6, .int 0, .ref mq7, .ref mq8, .ref mq9, .int 0, .ref mq10, .ref mq11, .ref mq12, .ref mq13, .ref mq14, .int 0, .ref mq15, .ref mq16, .long 0, .ref mq17, .ref mq18, .ref mq19, .int 0, .null, .int 0, .int 0, .int 0, .null, .int 0, .int 0, .int 0, .null, .ref mq20, .int 0, .int 0, .long 0, .null, .null, .null, .null, .int 0, .int 0, .int 0, .int 0, .int 0, .int 0, .null, .long 0, .long 0, .long 0, .null, .null, .null, .int 0, .int 0, .int 0, .ref mq21, .null, .null])), (mq1, .inl (y 1, 4096, .inl (fun _ => 0)))]) hD hS hA [0, 1] rfl
    refine va_calli (va_runV (As := [.long z9, .int 1]) (rest := [.int 1]) ⟨hx, hb, hml, hown, hts⟩ (c_M_add_1 l D y H.size mo mq1 ((.int 0)) ((.ref mq2)) ((.int 0)) ((.ref mq3)) ((.int 0)) ((.ref mq4)) ((.ref mq5)) ((.ref mq6)) ((.int 0)) ((.ref mq7)) ((.ref mq8)) ((.ref mq9)) ((.int 0)) ((.ref mq10)) ((.ref mq11)) ((.ref mq12)) ((.ref mq13)) ((.ref mq14)) ((.int 0)) ((.ref mq15)) ((.ref mq16)) ((.long 0)) ((.ref mq17)) ((.ref mq18)) ((.ref mq19)) ((.int 0)) ((.null)) ((.int 0)) ((.int 0)) ((.int 0)) ((.null)) ((.int 0)) ((.int 0)) ((.int 0)) ((.null)) ((.ref mq20)) ((.int 0)) ((.int 0)) ((.long 0)) ((.null)) ((.null)) ((.null)) ((.null)) ((.int 0)) ((.int 0)) ((.int 0)) ((.int 0)) ((.int 0)) ((.int 0)) ((.null)) ((.long 0)) ((.long 0)) ((.long 0)) ((.null)) ((.null)) ((.null)) ((.int 0)) ((.int 0)) ((.int 0)) ((.ref mq21)) ((.null)) ((.null)) ((fun _ => 0)) z9) (cwV 2 hts gv_law_0_c_M_add_1_66 rfl rfl rfl (by decide +kernel) ⟨(Nat.le_of_ble_eq_true rfl), (Nat.le_of_ble_eq_true rfl)⟩) (zB.preV hPc hDc hK hN hE hO hT hG hS hFc (fun _ h => nomatch h) (fun _ h => nomatch h) (fun _ h => nomatch h) (fun _ h => nomatch h) (va_recv hK hPc (ci := 16) (q0 := 0) rfl rfl)) rfl rfl hl.1 rfl (lv_room (Nat.le_of_ble_eq_true rfl)) dL_law_181 ⟨(Nat.le_of_ble_eq_true rfl), (Nat.le_of_ble_eq_true rfl)⟩) hS (fun q _ h => hFc q h) hFc (fun r53 u t H1 locs ht hvm hw hB hz1 hk1 hS => ?_)
    obtain ⟨f54, hP1, hD1⟩ := hB
    rw [ht] at hP1
    obtain ⟨hP, hD⟩ := va_join (wr := [(x, .inr (15, [.ref aq1, .ref aq3, .ref aq5, .ref aq7, .ref aq9, .ref aq11, .ref aq16, .ref aq19, .ref aq22, .ref aq37, .ref aq55, .ref aq57, .ref aq59, .int 0, .null])), (aq1, .inr (4, [.ref aq2, .int 0, .int (nI 1)])), (aq2, .inl (y 0, 4096, .inl f41))]) (w1 := [(mo, .inr (16, [.int 0, .int 1, .ref mq1, .ref mq2, .int 0, .ref mq3, .int 0, .ref mq4, .ref mq5, .ref mq6, .int 0, .ref mq7, .ref mq8, .ref mq9, .int 0, .ref mq10, .ref mq11, .ref mq12, .ref mq13, .ref mq14, .int 0, .ref mq15, .ref mq16, .long 0, .ref mq17, .ref mq18, .ref mq19, .int 0, .null, .int 0, .int 0, .int 0, .null, .int 0, .int 0, .int 0, .null, .ref mq20, .int 0, .int 0, .long 0, .null, .null, .null, .null, .int 0, .int 0, .int 0, .int 0, .int 0, .int 0, .null, .long 0, .long 0, .long 0, .null, .null, .null, .int 0, .int 0, .int 0, .ref mq21, .null, .null])), (mq1, .inl (y 1, 4096, .inl f54))]) hP hD [0, 1] [2, 3, 4] rfl rfl (by decide) (by decide) hk1 hFc hP1 hD1
    generalize H1 = H at hP hS ⊢
    have hP : va_P D vwCl [(x, .inr (15, [.ref aq1, .ref aq3, .ref aq5, .ref aq7, .ref aq9, .ref aq11, .ref aq16, .ref aq19, .ref aq22, .ref aq37, .ref aq55, .ref aq57, .ref aq59, .int 0, .null])), (aq1, .inr (4, [.ref aq2, .int 0, .int (nI 1)])), (aq2, .inl (y 0, 4096, .inl f41)), (mo, .inr (16, [.int 0, .int 1, .ref mq1, .ref mq2, .int 0, .ref mq3, .int 0, .ref mq4, .ref mq5, .ref mq6, .int 0, .ref mq7, .ref mq8, .ref mq9, .int 0, .ref mq10, .ref mq11, .ref mq12, .ref mq13, .ref mq14, .int 0, .ref mq15, .ref mq16, .long 0, .ref mq17, .ref mq18, .ref mq19, .int 0, .null, .int 0, .int 0, .int 0, .null, .int 0, .int 0, .int 0, .null, .ref mq20, .int 0, .int 0, .long 0, .null, .null, .null, .null, .int 0, .int 0, .int 0, .int 0, .int 0, .int 0, .null, .long 0, .long 0, .long 0, .null, .null, .null, .int 0, .int 0, .int 0, .ref mq21, .null, .null])), (mq1, .inl (y 1, 4096, .inl f54))] H := hP
    have hD : va_D A [(x, .inr (15, [.ref aq1, .ref aq3, .ref aq5, .ref aq7, .ref aq9, .ref aq11, .ref aq16, .ref aq19, .ref aq22, .ref aq37, .ref aq55, .ref aq57, .ref aq59, .int 0, .null])), (aq1, .inr (4, [.ref aq2, .int 0, .int (nI 1)])), (aq2, .inl (y 0, 4096, .inl f41)), (mo, .inr (16, [.int 0, .int 1, .ref mq1, .ref mq2, .int 0, .ref mq3, .int 0, .ref mq4, .ref mq5, .ref mq6, .int 0, .ref mq7, .ref mq8, .ref mq9, .int 0, .ref mq10, .ref mq11, .ref mq12, .ref mq13, .ref mq14, .int 0, .ref mq15, .ref mq16, .long 0, .ref mq17, .ref mq18, .ref mq19, .int 0, .null, .int 0, .int 0, .int 0, .null, .int 0, .int 0, .int 0, .null, .ref mq20, .int 0, .int 0, .long 0, .null, .null, .null, .null, .int 0, .int 0, .int 0, .int 0, .int 0, .int 0, .null, .long 0, .long 0, .long 0, .null, .null, .null, .int 0, .int 0, .int 0, .ref mq21, .null, .null])), (mq1, .inl (y 1, 4096, .inl f54))] := hD
    have hw : r53 = 1 := hw
    subst hw
    refine lv_icmp_eq (tgt := 1017) hx hb dL_law_184 (by decide) (fun _ => ?_) (fun c9 => absurd (by decide) c9)
    refine lv_iinc (v := 6) (lv' := [(4, .int 6), (3, .ref o), (2, .ref mo), (1, .ref x), (0, .ref b)]) hx hb dL_law_1017 hl (k := 0) rfl (by decide) (by decide) rfl (fun ls hl => ?_)
    refine lv_goto (tgt := 23) hx hb dL_law_1020 (by decide) ?_
    refine lv_iload hx hb dL_law_23 (lv_at hl 0 rfl) ?_
    refine lv_aload_n hx hb dL_law_25 rfl (lv_at hl 4 rfl) ?_
    refine va_slen hx hb hX hbl hbA hS dL_law_26 ?_
    refine lv_bipush (v := 6) hx hb dL_law_27 (by decide) ?_
    refine lv_isub hx hb dL_law_29 ?_
    refine lv_topi (fun v55 ev55 => ?_)
    have ev55 : v55 = 0 := ev55.trans (by decide +kernel)
    subst ev55
    refine lv_icmp_gt (tgt := 1023) hx hb dL_law_30 (by decide) (fun _ => ?_) (fun c9 => absurd (by decide) c9)
    refine lv_iconst (v := 1) hx hb dL_law_1023 (by decide) ?_
    refine va_forget (fun q hq => hAf _ (hS.2.2 q hq)) ?_
    refine W.widen (k := 600002) (n := 7302232) (Nat.le_of_ble_eq_true rfl) (Nat.le_of_ble_eq_true rfl) ?_
    exact lw_ret hx hb hr hlocks dL_law_1024
  · subst h1
    have hPc := hP.sub (ws' := [(x, .inr (15, [.ref aq1, .ref aq3, .ref aq5, .ref aq7, .ref aq9, .ref aq11, .ref aq16, .ref aq19, .ref aq22, .ref aq37, .ref aq55, .ref aq57, .ref aq59, .int 0, .null])), (aq1, .inr (4, [.ref aq2, .int 0, .int 0])), (aq2, .inl (y 0, 4096, .inl (fun _ => 0)))]) [0, 1, 2] rfl
    have hDc := hD.sub (ws' := [(x, .inr (15, [.ref aq1, .ref aq3, .ref aq5, .ref aq7, .ref aq9, .ref aq11, .ref aq16, .ref aq19, .ref aq22, .ref aq37, .ref aq55, .ref aq57, .ref aq59, .int 0, .null])), (aq1, .inr (4, [.ref aq2, .int 0, .int 0])), (aq2, .inl (y 0, 4096, .inl (fun _ => 0)))]) [0, 1, 2] (by decide) rfl
    have hFc := va_free (wc := [(x, .inr (15, [.ref aq1, .ref aq3, .ref aq5, .ref aq7, .ref aq9, .ref aq11, .ref aq16, .ref aq19, .ref aq22, .ref aq37, .ref aq55, .ref aq57, .ref aq59, .int 0, .null])), (aq1, .inr (4, [.ref aq2, .int 0, .int 0])), (aq2, .inl (y 0, 4096, .inl (fun _ => 0)))]) hD hS hA [0, 1, 2] rfl
    refine va_calli (va_runV (As := [.long z9, .int 2]) (rest := []) ⟨hx, hb, hml, hown, hts⟩ (c_X11_add_2 l D y H.size x aq1 aq2 ((.ref aq3)) ((.ref aq5)) ((.ref aq7)) ((.ref aq9)) ((.ref aq11)) ((.ref aq16)) ((.ref aq19)) ((.ref aq22)) ((.ref aq37)) ((.ref aq55)) ((.ref aq57)) ((.ref aq59)) ((.int 0)) ((.null)) ((.int 0)) ((fun _ => 0)) z9) (cwV 2 hts gv_law_0_c_X11_add_2_62 rfl rfl rfl (by decide +kernel) ⟨(Nat.le_of_ble_eq_true rfl), (Nat.le_of_ble_eq_true rfl)⟩) (zB.preV hPc hDc hK hN hE hO hT hG hS hFc (fun _ h => nomatch h) (fun _ h => nomatch h) (fun _ h => nomatch h) (fun _ h => nomatch h) (va_recv hK hPc (ci := 15) (q0 := 0) rfl rfl)) rfl rfl hl.1 rfl (lv_room (Nat.le_of_ble_eq_true rfl)) dL_law_149 ⟨(Nat.le_of_ble_eq_true rfl), (Nat.le_of_ble_eq_true rfl)⟩) hS (fun q _ h => hFc q h) hFc (fun r56 u t H1 locs ht hvm hw hB hz1 hk1 hS => ?_)
    obtain ⟨f57, hP1, hD1⟩ := hB
    rw [ht] at hP1
    obtain ⟨hP, hD⟩ := va_join (wr := [(mo, .inr (16, [.int 0, .int 0, .ref mq1, .ref mq2, .int 0, .ref mq3, .int 0, .ref mq4, .ref mq5, .ref mq6, .int 0, .ref mq7, .ref mq8, .ref mq9, .int 0, .ref mq10, .ref mq11, .ref mq12, .ref mq13, .ref mq14, .int 0, .ref mq15, .ref mq16, .long 0, .ref mq17, .ref mq18, .ref mq19, .int 0, .null, .int 0, .int 0, .int 0, .null, .int 0, .int 0, .int 0, .null, .ref mq20, .int 0, .int 0, .long 0, .null, .null, .null, .null, .int 0, .int 0, .int 0, .int 0, .int 0, .int 0, .null, .long 0, .long 0, .long 0, .null, .null, .null, .int 0, .int 0, .int 0, .ref mq21, .null, .null])), (mq1, .inl (y 1, 4096, .inl (fun _ => 0)))]) (w1 := [(x, .inr (15, [.ref aq1, .ref aq3, .ref aq5, .ref aq7, .ref aq9, .ref aq11, .ref aq16, .ref aq19, .ref aq22, .ref aq37, .ref aq55, .ref aq57, .ref aq59, .int 0, .null])), (aq1, .inr (4, [.ref aq2, .int 0, .int (nI 2)])), (aq2, .inl (y 0, 4096, .inl f57))]) hP hD [0, 1, 2] [3, 4] rfl rfl (by decide) (by decide) hk1 hFc hP1 hD1
    generalize H1 = H at hP hS ⊢
    have hP : va_P D vwCl [(mo, .inr (16, [.int 0, .int 0, .ref mq1, .ref mq2, .int 0, .ref mq3, .int 0, .ref mq4, .ref mq5, .ref mq6, .int 0, .ref mq7, .ref mq8, .ref mq9, .int 0, .ref mq10, .ref mq11, .ref mq12, .ref mq13, .ref mq14, .int 0, .ref mq15, .ref mq16, .long 0, .ref mq17, .ref mq18, .ref mq19, .int 0, .null, .int 0, .int 0, .int 0, .null, .int 0, .int 0, .int 0, .null, .ref mq20, .int 0, .int 0, .long 0, .null, .null, .null, .null, .int 0, .int 0, .int 0, .int 0, .int 0, .int 0, .null, .long 0, .long 0, .long 0, .null, .null, .null, .int 0, .int 0, .int 0, .ref mq21, .null, .null])), (mq1, .inl (y 1, 4096, .inl (fun _ => 0))), (x, .inr (15, [.ref aq1, .ref aq3, .ref aq5, .ref aq7, .ref aq9, .ref aq11, .ref aq16, .ref aq19, .ref aq22, .ref aq37, .ref aq55, .ref aq57, .ref aq59, .int 0, .null])), (aq1, .inr (4, [.ref aq2, .int 0, .int (nI 2)])), (aq2, .inl (y 0, 4096, .inl f57))] H := hP
    have hD : va_D A [(mo, .inr (16, [.int 0, .int 0, .ref mq1, .ref mq2, .int 0, .ref mq3, .int 0, .ref mq4, .ref mq5, .ref mq6, .int 0, .ref mq7, .ref mq8, .ref mq9, .int 0, .ref mq10, .ref mq11, .ref mq12, .ref mq13, .ref mq14, .int 0, .ref mq15, .ref mq16, .long 0, .ref mq17, .ref mq18, .ref mq19, .int 0, .null, .int 0, .int 0, .int 0, .null, .int 0, .int 0, .int 0, .null, .ref mq20, .int 0, .int 0, .long 0, .null, .null, .null, .null, .int 0, .int 0, .int 0, .int 0, .int 0, .int 0, .null, .long 0, .long 0, .long 0, .null, .null, .null, .int 0, .int 0, .int 0, .ref mq21, .null, .null])), (mq1, .inl (y 1, 4096, .inl (fun _ => 0))), (x, .inr (15, [.ref aq1, .ref aq3, .ref aq5, .ref aq7, .ref aq9, .ref aq11, .ref aq16, .ref aq19, .ref aq22, .ref aq37, .ref aq55, .ref aq57, .ref aq59, .int 0, .null])), (aq1, .inr (4, [.ref aq2, .int 0, .int (nI 2)])), (aq2, .inl (y 0, 4096, .inl f57))] := hD
    have hw : r56 = 1 := hw
    subst hw
    refine lv_aload_n hx hb dL_law_152 rfl (lv_at hl 2 rfl) ?_
    refine lv_aload_n hx hb dL_law_153 rfl (lv_at hl 4 rfl) ?_
    refine lv_iload hx hb dL_law_154 (lv_at hl 0 rfl) ?_
    refine lv_iconst (v := 1) hx hb dL_law_156 (by decide) ?_
    refine lv_iadd hx hb dL_law_157 ?_
    refine lv_topi (fun v58 ev58 => ?_)
    have ev58 : v58 = 1 := ev58.trans (by decide +kernel)
    subst ev58
    refine va_sld hx hb hX hbl hbA hS (by unfold vp_in; decide) dL_law_158 ?_
    refine lv_topi (fun x59 ex59 => ?_)
    have fx59 : x2 = x59 := ex2.trans ex59.symm
    subst fx59
    refine lv_i2l hx hb dL_law_159 rfl ?_
    refine lv_topl (fun z60 ez60 => ?_)
    have fz60 : z3 = z60 := ez3.trans ez60.symm
    subst fz60
    refine lv_bipush (v := 32) hx hb dL_law_160 (by decide) ?_
    refine lv_lshl hx hb dL_law_162 rfl ?_
    refine lv_topl (fun z61 ez61 => ?_)
    have fz61 : z4 = z61 := ez4.trans ez61.symm
    subst fz61
    refine lv_aload_n hx hb dL_law_163 rfl (lv_at hl 4 rfl) ?_
    refine lv_iload hx hb dL_law_164 (lv_at hl 0 rfl) ?_
    refine lv_iconst (v := 2) hx hb dL_law_166 (by decide) ?_
    refine lv_iadd hx hb dL_law_167 ?_
    refine lv_topi (fun v62 ev62 => ?_)
    have ev62 : v62 = 2 := ev62.trans (by decide +kernel)
    subst ev62
    refine va_sld hx hb hX hbl hbA hS (by unfold vp_in; decide) dL_law_168 ?_
    refine lv_topi (fun x63 ex63 => ?_)
    have fx63 : x6 = x63 := ex6.trans ex63.symm
    subst fx63
    refine lv_i2l hx hb dL_law_169 rfl ?_
    refine lv_topl (fun z64 ez64 => ?_)
    have fz64 : z7 = z64 := ez7.trans ez64.symm
    subst fz64
    refine lv_ldc2 (v := 4294967295) hx hb hown (hts (.constantLong RL 60 4294967295) (by decide +kernel)) dL_law_170 ?_
    refine lv_land hx hb dL_law_173 ?_
    refine lv_topl (fun z65 ez65 => ?_)
    have fz65 : z8 = z65 := ez8.trans ez65.symm
    subst fz65
    refine lv_lor hx hb dL_law_174 ?_
    refine lv_topl (fun z66 ez66 => ?_)
    have fz66 : z9 = z66 := ez9.trans ez66.symm
    subst fz66
    refine lv_aload_n hx hb dL_law_175 rfl (lv_at hl 4 rfl) ?_
    refine lv_iload hx hb dL_law_176 (lv_at hl 0 rfl) ?_
    refine lv_iconst (v := 3) hx hb dL_law_178 (by decide) ?_
    refine lv_iadd hx hb dL_law_179 ?_
    refine lv_topi (fun v67 ev67 => ?_)
    have ev67 : v67 = 3 := ev67.trans (by decide +kernel)
    subst ev67
    refine va_sld hx hb hX hbl hbA hS (by unfold vp_in; decide) dL_law_180 ?_
    refine lv_topi (fun x68 ex68 => ?_)
    have fx68 : 2 = x68 := ex11.trans ex68.symm
    subst fx68
    have hPc := hP.sub (ws' := [(mo, .inr (16, [.int 0, .int 0, .ref mq1, .ref mq2, .int 0, .ref mq3, .int 0, .ref mq4, .ref mq5, .ref mq6, .int 0, .ref mq7, .ref mq8, .ref mq9, .int 0, .ref mq10, .ref mq11, .ref mq12, .ref mq13, .ref mq14, .int 0, .ref mq15, .ref mq16, .long 0, .ref mq17, .ref mq18, .ref mq19, .int 0, .null, .int 0, .int 0, .int 0, .null, .int 0, .int 0, .int 0, .null, .ref mq20, .int 0, .int 0, .long 0, .null, .null, .null, .null, .int 0, .int 0, .int 0, .int 0, .int 0, .int 0, .null, .long 0, .long 0, .long 0, .null, .null, .null, .int 0, .int 0, .int 0, .ref mq21, .null, .null])), (mq1, .inl (y 1, 4096, .inl (fun _ => 0)))]) [0, 1] rfl
    have hDc := hD.sub (ws' := [(mo, .inr (16, [.int 0, .int 0, .ref mq1, .ref mq2, .int 0, .ref mq3, .int 0, .ref mq4, .ref mq5, .ref mq6, .int 0, .ref mq7, .ref mq8, .ref mq9, .int 0, .ref mq10, .ref mq11, .ref mq12, .ref mq13, .ref mq14, .int 0, .ref mq15, .ref mq16, .long 0, .ref mq17, .ref mq18, .ref mq19, .int 0, .null, .int 0, .int 0, .int 0, .null, .int 0, .int 0, .int 0, .null, .ref mq20, .int 0, .int 0, .long 0, .null, .null, .null, .null, .int 0, .int 0, .int 0, .int 0, .int 0, .int 0, .null, .long 0, .long 0, .long 0, .null, .null, .null, .int 0, .int 0, .int 0, .ref mq21, .null, .null])), (mq1, .inl (y 1, 4096, .inl (fun _ => 0)))]) [0, 1] (by decide) rfl
    have hFc := va_free (wc := [(mo, .inr (16, [.int 0, .int 0, .ref mq1, .ref mq2, .int 0, .ref mq3, .int 0, .ref mq4, .ref mq5, .ref mq6, .int 0, .ref mq7, .ref mq8, .ref mq9, .int 0, .ref mq10, .ref mq11, .ref mq12, .ref mq13, .ref mq14, .int 0, .ref mq15, .ref mq16, .long 0, .ref mq17, .ref mq18, .ref mq19, .int 0, .null, .int 0, .int 0, .int 0, .null, .int 0, .int 0, .int 0, .null, .ref mq20, .int 0, .int 0, .long 0, .null, .null, .null, .null, .int 0, .int 0, .int 0, .int 0, .int 0, .int 0, .null, .long 0, .long 0, .long 0, .null, .null, .null, .int 0, .int 0, .int 0, .ref mq21, .null, .null])), (mq1, .inl (y 1, 4096, .inl (fun _ => 0)))]) hD hS hA [0, 1] rfl
    refine va_calli (va_runV (As := [.long z9, .int 2]) (rest := [.int 1]) ⟨hx, hb, hml, hown, hts⟩ (c_M_add_2 l D y H.size mo mq1 ((.int 0)) ((.ref mq2)) ((.int 0)) ((.ref mq3)) ((.int 0)) ((.ref mq4)) ((.ref mq5)) ((.ref mq6)) ((.int 0)) ((.ref mq7)) ((.ref mq8)) ((.ref mq9)) ((.int 0)) ((.ref mq10)) ((.ref mq11)) ((.ref mq12)) ((.ref mq13)) ((.ref mq14)) ((.int 0)) ((.ref mq15)) ((.ref mq16)) ((.long 0)) ((.ref mq17)) ((.ref mq18)) ((.ref mq19)) ((.int 0)) ((.null)) ((.int 0)) ((.int 0)) ((.int 0)) ((.null)) ((.int 0)) ((.int 0)) ((.int 0)) ((.null)) ((.ref mq20)) ((.int 0)) ((.int 0)) ((.long 0)) ((.null)) ((.null)) ((.null)) ((.null)) ((.int 0)) ((.int 0)) ((.int 0)) ((.int 0)) ((.int 0)) ((.int 0)) ((.null)) ((.long 0)) ((.long 0)) ((.long 0)) ((.null)) ((.null)) ((.null)) ((.int 0)) ((.int 0)) ((.int 0)) ((.ref mq21)) ((.null)) ((.null)) ((fun _ => 0)) z9) (cwV 2 hts gv_law_0_c_M_add_2_66 rfl rfl rfl (by decide +kernel) ⟨(Nat.le_of_ble_eq_true rfl), (Nat.le_of_ble_eq_true rfl)⟩) (zB.preV hPc hDc hK hN hE hO hT hG hS hFc (fun _ h => nomatch h) (fun _ h => nomatch h) (fun _ h => nomatch h) (fun _ h => nomatch h) (va_recv hK hPc (ci := 16) (q0 := 0) rfl rfl)) rfl rfl hl.1 rfl (lv_room (Nat.le_of_ble_eq_true rfl)) dL_law_181 ⟨(Nat.le_of_ble_eq_true rfl), (Nat.le_of_ble_eq_true rfl)⟩) hS (fun q _ h => hFc q h) hFc (fun r69 u t H1 locs ht hvm hw hB hz1 hk1 hS => ?_)
    obtain ⟨f70, hP1, hD1⟩ := hB
    rw [ht] at hP1
    obtain ⟨hP, hD⟩ := va_join (wr := [(x, .inr (15, [.ref aq1, .ref aq3, .ref aq5, .ref aq7, .ref aq9, .ref aq11, .ref aq16, .ref aq19, .ref aq22, .ref aq37, .ref aq55, .ref aq57, .ref aq59, .int 0, .null])), (aq1, .inr (4, [.ref aq2, .int 0, .int (nI 2)])), (aq2, .inl (y 0, 4096, .inl f57))]) (w1 := [(mo, .inr (16, [.int 0, .int 2, .ref mq1, .ref mq2, .int 0, .ref mq3, .int 0, .ref mq4, .ref mq5, .ref mq6, .int 0, .ref mq7, .ref mq8, .ref mq9, .int 0, .ref mq10, .ref mq11, .ref mq12, .ref mq13, .ref mq14, .int 0, .ref mq15, .ref mq16, .long 0, .ref mq17, .ref mq18, .ref mq19, .int 0, .null, .int 0, .int 0, .int 0, .null, .int 0, .int 0, .int 0, .null, .ref mq20, .int 0, .int 0, .long 0, .null, .null, .null, .null, .int 0, .int 0, .int 0, .int 0, .int 0, .int 0, .null, .long 0, .long 0, .long 0, .null, .null, .null, .int 0, .int 0, .int 0, .ref mq21, .null, .null])), (mq1, .inl (y 1, 4096, .inl f70))]) hP hD [0, 1] [2, 3, 4] rfl rfl (by decide) (by decide) hk1 hFc hP1 hD1
    generalize H1 = H at hP hS ⊢
    have hP : va_P D vwCl [(x, .inr (15, [.ref aq1, .ref aq3, .ref aq5, .ref aq7, .ref aq9, .ref aq11, .ref aq16, .ref aq19, .ref aq22, .ref aq37, .ref aq55, .ref aq57, .ref aq59, .int 0, .null])), (aq1, .inr (4, [.ref aq2, .int 0, .int (nI 2)])), (aq2, .inl (y 0, 4096, .inl f57)), (mo, .inr (16, [.int 0, .int 2, .ref mq1, .ref mq2, .int 0, .ref mq3, .int 0, .ref mq4, .ref mq5, .ref mq6, .int 0, .ref mq7, .ref mq8, .ref mq9, .int 0, .ref mq10, .ref mq11, .ref mq12, .ref mq13, .ref mq14, .int 0, .ref mq15, .ref mq16, .long 0, .ref mq17, .ref mq18, .ref mq19, .int 0, .null, .int 0, .int 0, .int 0, .null, .int 0, .int 0, .int 0, .null, .ref mq20, .int 0, .int 0, .long 0, .null, .null, .null, .null, .int 0, .int 0, .int 0, .int 0, .int 0, .int 0, .null, .long 0, .long 0, .long 0, .null, .null, .null, .int 0, .int 0, .int 0, .ref mq21, .null, .null])), (mq1, .inl (y 1, 4096, .inl f70))] H := hP
    have hD : va_D A [(x, .inr (15, [.ref aq1, .ref aq3, .ref aq5, .ref aq7, .ref aq9, .ref aq11, .ref aq16, .ref aq19, .ref aq22, .ref aq37, .ref aq55, .ref aq57, .ref aq59, .int 0, .null])), (aq1, .inr (4, [.ref aq2, .int 0, .int (nI 2)])), (aq2, .inl (y 0, 4096, .inl f57)), (mo, .inr (16, [.int 0, .int 2, .ref mq1, .ref mq2, .int 0, .ref mq3, .int 0, .ref mq4, .ref mq5, .ref mq6, .int 0, .ref mq7, .ref mq8, .ref mq9, .int 0, .ref mq10, .ref mq11, .ref mq12, .ref mq13, .ref mq14, .int 0, .ref mq15, .ref mq16, .long 0, .ref mq17, .ref mq18, .ref mq19, .int 0, .null, .int 0, .int 0, .int 0, .null, .int 0, .int 0, .int 0, .null, .ref mq20, .int 0, .int 0, .long 0, .null, .null, .null, .null, .int 0, .int 0, .int 0, .int 0, .int 0, .int 0, .null, .long 0, .long 0, .long 0, .null, .null, .null, .int 0, .int 0, .int 0, .ref mq21, .null, .null])), (mq1, .inl (y 1, 4096, .inl f70))] := hD
    have hw : r69 = 1 := hw
    subst hw
    refine lv_icmp_eq (tgt := 1017) hx hb dL_law_184 (by decide) (fun _ => ?_) (fun c9 => absurd (by decide) c9)
    refine lv_iinc (v := 6) (lv' := [(4, .int 6), (3, .ref o), (2, .ref mo), (1, .ref x), (0, .ref b)]) hx hb dL_law_1017 hl (k := 0) rfl (by decide) (by decide) rfl (fun ls hl => ?_)
    refine lv_goto (tgt := 23) hx hb dL_law_1020 (by decide) ?_
    refine lv_iload hx hb dL_law_23 (lv_at hl 0 rfl) ?_
    refine lv_aload_n hx hb dL_law_25 rfl (lv_at hl 4 rfl) ?_
    refine va_slen hx hb hX hbl hbA hS dL_law_26 ?_
    refine lv_bipush (v := 6) hx hb dL_law_27 (by decide) ?_
    refine lv_isub hx hb dL_law_29 ?_
    refine lv_topi (fun v71 ev71 => ?_)
    have ev71 : v71 = 0 := ev71.trans (by decide +kernel)
    subst ev71
    refine lv_icmp_gt (tgt := 1023) hx hb dL_law_30 (by decide) (fun _ => ?_) (fun c9 => absurd (by decide) c9)
    refine lv_iconst (v := 1) hx hb dL_law_1023 (by decide) ?_
    refine va_forget (fun q hq => hAf _ (hS.2.2 q hq)) ?_
    refine W.widen (k := 600002) (n := 7302232) (Nat.le_of_ble_eq_true rfl) (Nat.le_of_ble_eq_true rfl) ?_
    exact lw_ret hx hb hr hlocks dL_law_1024
  · subst h1
    have hPc := hP.sub (ws' := [(x, .inr (15, [.ref aq1, .ref aq3, .ref aq5, .ref aq7, .ref aq9, .ref aq11, .ref aq16, .ref aq19, .ref aq22, .ref aq37, .ref aq55, .ref aq57, .ref aq59, .int 0, .null])), (aq1, .inr (4, [.ref aq2, .int 0, .int 0])), (aq2, .inl (y 0, 4096, .inl (fun _ => 0)))]) [0, 1, 2] rfl
    have hDc := hD.sub (ws' := [(x, .inr (15, [.ref aq1, .ref aq3, .ref aq5, .ref aq7, .ref aq9, .ref aq11, .ref aq16, .ref aq19, .ref aq22, .ref aq37, .ref aq55, .ref aq57, .ref aq59, .int 0, .null])), (aq1, .inr (4, [.ref aq2, .int 0, .int 0])), (aq2, .inl (y 0, 4096, .inl (fun _ => 0)))]) [0, 1, 2] (by decide) rfl
    have hFc := va_free (wc := [(x, .inr (15, [.ref aq1, .ref aq3, .ref aq5, .ref aq7, .ref aq9, .ref aq11, .ref aq16, .ref aq19, .ref aq22, .ref aq37, .ref aq55, .ref aq57, .ref aq59, .int 0, .null])), (aq1, .inr (4, [.ref aq2, .int 0, .int 0])), (aq2, .inl (y 0, 4096, .inl (fun _ => 0)))]) hD hS hA [0, 1, 2] rfl
    refine va_calli (va_runV (As := [.long z9, .int 3]) (rest := []) ⟨hx, hb, hml, hown, hts⟩ (c_X11_add_3 l D y H.size x aq1 aq2 ((.ref aq3)) ((.ref aq5)) ((.ref aq7)) ((.ref aq9)) ((.ref aq11)) ((.ref aq16)) ((.ref aq19)) ((.ref aq22)) ((.ref aq37)) ((.ref aq55)) ((.ref aq57)) ((.ref aq59)) ((.int 0)) ((.null)) ((.int 0)) ((fun _ => 0)) z9) (cwV 2 hts gv_law_0_c_X11_add_3_62 rfl rfl rfl (by decide +kernel) ⟨(Nat.le_of_ble_eq_true rfl), (Nat.le_of_ble_eq_true rfl)⟩) (zB.preV hPc hDc hK hN hE hO hT hG hS hFc (fun _ h => nomatch h) (fun _ h => nomatch h) (fun _ h => nomatch h) (fun _ h => nomatch h) (va_recv hK hPc (ci := 15) (q0 := 0) rfl rfl)) rfl rfl hl.1 rfl (lv_room (Nat.le_of_ble_eq_true rfl)) dL_law_149 ⟨(Nat.le_of_ble_eq_true rfl), (Nat.le_of_ble_eq_true rfl)⟩) hS (fun q _ h => hFc q h) hFc (fun r72 u t H1 locs ht hvm hw hB hz1 hk1 hS => ?_)
    obtain ⟨f73, hP1, hD1⟩ := hB
    rw [ht] at hP1
    obtain ⟨hP, hD⟩ := va_join (wr := [(mo, .inr (16, [.int 0, .int 0, .ref mq1, .ref mq2, .int 0, .ref mq3, .int 0, .ref mq4, .ref mq5, .ref mq6, .int 0, .ref mq7, .ref mq8, .ref mq9, .int 0, .ref mq10, .ref mq11, .ref mq12, .ref mq13, .ref mq14, .int 0, .ref mq15, .ref mq16, .long 0, .ref mq17, .ref mq18, .ref mq19, .int 0, .null, .int 0, .int 0, .int 0, .null, .int 0, .int 0, .int 0, .null, .ref mq20, .int 0, .int 0, .long 0, .null, .null, .null, .null, .int 0, .int 0, .int 0, .int 0, .int 0, .int 0, .null, .long 0, .long 0, .long 0, .null, .null, .null, .int 0, .int 0, .int 0, .ref mq21, .null, .null])), (mq1, .inl (y 1, 4096, .inl (fun _ => 0)))]) (w1 := [(x, .inr (15, [.ref aq1, .ref aq3, .ref aq5, .ref aq7, .ref aq9, .ref aq11, .ref aq16, .ref aq19, .ref aq22, .ref aq37, .ref aq55, .ref aq57, .ref aq59, .int 0, .null])), (aq1, .inr (4, [.ref aq2, .int 0, .int (nI 3)])), (aq2, .inl (y 0, 4096, .inl f73))]) hP hD [0, 1, 2] [3, 4] rfl rfl (by decide) (by decide) hk1 hFc hP1 hD1
    generalize H1 = H at hP hS ⊢
    have hP : va_P D vwCl [(mo, .inr (16, [.int 0, .int 0, .ref mq1, .ref mq2, .int 0, .ref mq3, .int 0, .ref mq4, .ref mq5, .ref mq6, .int 0, .ref mq7, .ref mq8, .ref mq9, .int 0, .ref mq10, .ref mq11, .ref mq12, .ref mq13, .ref mq14, .int 0, .ref mq15, .ref mq16, .long 0, .ref mq17, .ref mq18, .ref mq19, .int 0, .null, .int 0, .int 0, .int 0, .null, .int 0, .int 0, .int 0, .null, .ref mq20, .int 0, .int 0, .long 0, .null, .null, .null, .null, .int 0, .int 0, .int 0, .int 0, .int 0, .int 0, .null, .long 0, .long 0, .long 0, .null, .null, .null, .int 0, .int 0, .int 0, .ref mq21, .null, .null])), (mq1, .inl (y 1, 4096, .inl (fun _ => 0))), (x, .inr (15, [.ref aq1, .ref aq3, .ref aq5, .ref aq7, .ref aq9, .ref aq11, .ref aq16, .ref aq19, .ref aq22, .ref aq37, .ref aq55, .ref aq57, .ref aq59, .int 0, .null])), (aq1, .inr (4, [.ref aq2, .int 0, .int (nI 3)])), (aq2, .inl (y 0, 4096, .inl f73))] H := hP
    have hD : va_D A [(mo, .inr (16, [.int 0, .int 0, .ref mq1, .ref mq2, .int 0, .ref mq3, .int 0, .ref mq4, .ref mq5, .ref mq6, .int 0, .ref mq7, .ref mq8, .ref mq9, .int 0, .ref mq10, .ref mq11, .ref mq12, .ref mq13, .ref mq14, .int 0, .ref mq15, .ref mq16, .long 0, .ref mq17, .ref mq18, .ref mq19, .int 0, .null, .int 0, .int 0, .int 0, .null, .int 0, .int 0, .int 0, .null, .ref mq20, .int 0, .int 0, .long 0, .null, .null, .null, .null, .int 0, .int 0, .int 0, .int 0, .int 0, .int 0, .null, .long 0, .long 0, .long 0, .null, .null, .null, .int 0, .int 0, .int 0, .ref mq21, .null, .null])), (mq1, .inl (y 1, 4096, .inl (fun _ => 0))), (x, .inr (15, [.ref aq1, .ref aq3, .ref aq5, .ref aq7, .ref aq9, .ref aq11, .ref aq16, .ref aq19, .ref aq22, .ref aq37, .ref aq55, .ref aq57, .ref aq59, .int 0, .null])), (aq1, .inr (4, [.ref aq2, .int 0, .int (nI 3)])), (aq2, .inl (y 0, 4096, .inl f73))] := hD
    have hw : r72 = 1 := hw
    subst hw
    refine lv_aload_n hx hb dL_law_152 rfl (lv_at hl 2 rfl) ?_
    refine lv_aload_n hx hb dL_law_153 rfl (lv_at hl 4 rfl) ?_
    refine lv_iload hx hb dL_law_154 (lv_at hl 0 rfl) ?_
    refine lv_iconst (v := 1) hx hb dL_law_156 (by decide) ?_
    refine lv_iadd hx hb dL_law_157 ?_
    refine lv_topi (fun v74 ev74 => ?_)
    have ev74 : v74 = 1 := ev74.trans (by decide +kernel)
    subst ev74
    refine va_sld hx hb hX hbl hbA hS (by unfold vp_in; decide) dL_law_158 ?_
    refine lv_topi (fun x75 ex75 => ?_)
    have fx75 : x2 = x75 := ex2.trans ex75.symm
    subst fx75
    refine lv_i2l hx hb dL_law_159 rfl ?_
    refine lv_topl (fun z76 ez76 => ?_)
    have fz76 : z3 = z76 := ez3.trans ez76.symm
    subst fz76
    refine lv_bipush (v := 32) hx hb dL_law_160 (by decide) ?_
    refine lv_lshl hx hb dL_law_162 rfl ?_
    refine lv_topl (fun z77 ez77 => ?_)
    have fz77 : z4 = z77 := ez4.trans ez77.symm
    subst fz77
    refine lv_aload_n hx hb dL_law_163 rfl (lv_at hl 4 rfl) ?_
    refine lv_iload hx hb dL_law_164 (lv_at hl 0 rfl) ?_
    refine lv_iconst (v := 2) hx hb dL_law_166 (by decide) ?_
    refine lv_iadd hx hb dL_law_167 ?_
    refine lv_topi (fun v78 ev78 => ?_)
    have ev78 : v78 = 2 := ev78.trans (by decide +kernel)
    subst ev78
    refine va_sld hx hb hX hbl hbA hS (by unfold vp_in; decide) dL_law_168 ?_
    refine lv_topi (fun x79 ex79 => ?_)
    have fx79 : x6 = x79 := ex6.trans ex79.symm
    subst fx79
    refine lv_i2l hx hb dL_law_169 rfl ?_
    refine lv_topl (fun z80 ez80 => ?_)
    have fz80 : z7 = z80 := ez7.trans ez80.symm
    subst fz80
    refine lv_ldc2 (v := 4294967295) hx hb hown (hts (.constantLong RL 60 4294967295) (by decide +kernel)) dL_law_170 ?_
    refine lv_land hx hb dL_law_173 ?_
    refine lv_topl (fun z81 ez81 => ?_)
    have fz81 : z8 = z81 := ez8.trans ez81.symm
    subst fz81
    refine lv_lor hx hb dL_law_174 ?_
    refine lv_topl (fun z82 ez82 => ?_)
    have fz82 : z9 = z82 := ez9.trans ez82.symm
    subst fz82
    refine lv_aload_n hx hb dL_law_175 rfl (lv_at hl 4 rfl) ?_
    refine lv_iload hx hb dL_law_176 (lv_at hl 0 rfl) ?_
    refine lv_iconst (v := 3) hx hb dL_law_178 (by decide) ?_
    refine lv_iadd hx hb dL_law_179 ?_
    refine lv_topi (fun v83 ev83 => ?_)
    have ev83 : v83 = 3 := ev83.trans (by decide +kernel)
    subst ev83
    refine va_sld hx hb hX hbl hbA hS (by unfold vp_in; decide) dL_law_180 ?_
    refine lv_topi (fun x84 ex84 => ?_)
    have fx84 : 3 = x84 := ex11.trans ex84.symm
    subst fx84
    have hPc := hP.sub (ws' := [(mo, .inr (16, [.int 0, .int 0, .ref mq1, .ref mq2, .int 0, .ref mq3, .int 0, .ref mq4, .ref mq5, .ref mq6, .int 0, .ref mq7, .ref mq8, .ref mq9, .int 0, .ref mq10, .ref mq11, .ref mq12, .ref mq13, .ref mq14, .int 0, .ref mq15, .ref mq16, .long 0, .ref mq17, .ref mq18, .ref mq19, .int 0, .null, .int 0, .int 0, .int 0, .null, .int 0, .int 0, .int 0, .null, .ref mq20, .int 0, .int 0, .long 0, .null, .null, .null, .null, .int 0, .int 0, .int 0, .int 0, .int 0, .int 0, .null, .long 0, .long 0, .long 0, .null, .null, .null, .int 0, .int 0, .int 0, .ref mq21, .null, .null])), (mq1, .inl (y 1, 4096, .inl (fun _ => 0)))]) [0, 1] rfl
    have hDc := hD.sub (ws' := [(mo, .inr (16, [.int 0, .int 0, .ref mq1, .ref mq2, .int 0, .ref mq3, .int 0, .ref mq4, .ref mq5, .ref mq6, .int 0, .ref mq7, .ref mq8, .ref mq9, .int 0, .ref mq10, .ref mq11, .ref mq12, .ref mq13, .ref mq14, .int 0, .ref mq15, .ref mq16, .long 0, .ref mq17, .ref mq18, .ref mq19, .int 0, .null, .int 0, .int 0, .int 0, .null, .int 0, .int 0, .int 0, .null, .ref mq20, .int 0, .int 0, .long 0, .null, .null, .null, .null, .int 0, .int 0, .int 0, .int 0, .int 0, .int 0, .null, .long 0, .long 0, .long 0, .null, .null, .null, .int 0, .int 0, .int 0, .ref mq21, .null, .null])), (mq1, .inl (y 1, 4096, .inl (fun _ => 0)))]) [0, 1] (by decide) rfl
    have hFc := va_free (wc := [(mo, .inr (16, [.int 0, .int 0, .ref mq1, .ref mq2, .int 0, .ref mq3, .int 0, .ref mq4, .ref mq5, .ref mq6, .int 0, .ref mq7, .ref mq8, .ref mq9, .int 0, .ref mq10, .ref mq11, .ref mq12, .ref mq13, .ref mq14, .int 0, .ref mq15, .ref mq16, .long 0, .ref mq17, .ref mq18, .ref mq19, .int 0, .null, .int 0, .int 0, .int 0, .null, .int 0, .int 0, .int 0, .null, .ref mq20, .int 0, .int 0, .long 0, .null, .null, .null, .null, .int 0, .int 0, .int 0, .int 0, .int 0, .int 0, .null, .long 0, .long 0, .long 0, .null, .null, .null, .int 0, .int 0, .int 0, .ref mq21, .null, .null])), (mq1, .inl (y 1, 4096, .inl (fun _ => 0)))]) hD hS hA [0, 1] rfl
    refine va_calli (va_runV (As := [.long z9, .int 3]) (rest := [.int 1]) ⟨hx, hb, hml, hown, hts⟩ (c_M_add_3 l D y H.size mo mq1 ((.int 0)) ((.ref mq2)) ((.int 0)) ((.ref mq3)) ((.int 0)) ((.ref mq4)) ((.ref mq5)) ((.ref mq6)) ((.int 0)) ((.ref mq7)) ((.ref mq8)) ((.ref mq9)) ((.int 0)) ((.ref mq10)) ((.ref mq11)) ((.ref mq12)) ((.ref mq13)) ((.ref mq14)) ((.int 0)) ((.ref mq15)) ((.ref mq16)) ((.long 0)) ((.ref mq17)) ((.ref mq18)) ((.ref mq19)) ((.int 0)) ((.null)) ((.int 0)) ((.int 0)) ((.int 0)) ((.null)) ((.int 0)) ((.int 0)) ((.int 0)) ((.null)) ((.ref mq20)) ((.int 0)) ((.int 0)) ((.long 0)) ((.null)) ((.null)) ((.null)) ((.null)) ((.int 0)) ((.int 0)) ((.int 0)) ((.int 0)) ((.int 0)) ((.int 0)) ((.null)) ((.long 0)) ((.long 0)) ((.long 0)) ((.null)) ((.null)) ((.null)) ((.int 0)) ((.int 0)) ((.int 0)) ((.ref mq21)) ((.null)) ((.null)) ((fun _ => 0)) z9) (cwV 2 hts gv_law_0_c_M_add_3_66 rfl rfl rfl (by decide +kernel) ⟨(Nat.le_of_ble_eq_true rfl), (Nat.le_of_ble_eq_true rfl)⟩) (zB.preV hPc hDc hK hN hE hO hT hG hS hFc (fun _ h => nomatch h) (fun _ h => nomatch h) (fun _ h => nomatch h) (fun _ h => nomatch h) (va_recv hK hPc (ci := 16) (q0 := 0) rfl rfl)) rfl rfl hl.1 rfl (lv_room (Nat.le_of_ble_eq_true rfl)) dL_law_181 ⟨(Nat.le_of_ble_eq_true rfl), (Nat.le_of_ble_eq_true rfl)⟩) hS (fun q _ h => hFc q h) hFc (fun r85 u t H1 locs ht hvm hw hB hz1 hk1 hS => ?_)
    obtain ⟨f86, hP1, hD1⟩ := hB
    rw [ht] at hP1
    obtain ⟨hP, hD⟩ := va_join (wr := [(x, .inr (15, [.ref aq1, .ref aq3, .ref aq5, .ref aq7, .ref aq9, .ref aq11, .ref aq16, .ref aq19, .ref aq22, .ref aq37, .ref aq55, .ref aq57, .ref aq59, .int 0, .null])), (aq1, .inr (4, [.ref aq2, .int 0, .int (nI 3)])), (aq2, .inl (y 0, 4096, .inl f73))]) (w1 := [(mo, .inr (16, [.int 0, .int 3, .ref mq1, .ref mq2, .int 0, .ref mq3, .int 0, .ref mq4, .ref mq5, .ref mq6, .int 0, .ref mq7, .ref mq8, .ref mq9, .int 0, .ref mq10, .ref mq11, .ref mq12, .ref mq13, .ref mq14, .int 0, .ref mq15, .ref mq16, .long 0, .ref mq17, .ref mq18, .ref mq19, .int 0, .null, .int 0, .int 0, .int 0, .null, .int 0, .int 0, .int 0, .null, .ref mq20, .int 0, .int 0, .long 0, .null, .null, .null, .null, .int 0, .int 0, .int 0, .int 0, .int 0, .int 0, .null, .long 0, .long 0, .long 0, .null, .null, .null, .int 0, .int 0, .int 0, .ref mq21, .null, .null])), (mq1, .inl (y 1, 4096, .inl f86))]) hP hD [0, 1] [2, 3, 4] rfl rfl (by decide) (by decide) hk1 hFc hP1 hD1
    generalize H1 = H at hP hS ⊢
    have hP : va_P D vwCl [(x, .inr (15, [.ref aq1, .ref aq3, .ref aq5, .ref aq7, .ref aq9, .ref aq11, .ref aq16, .ref aq19, .ref aq22, .ref aq37, .ref aq55, .ref aq57, .ref aq59, .int 0, .null])), (aq1, .inr (4, [.ref aq2, .int 0, .int (nI 3)])), (aq2, .inl (y 0, 4096, .inl f73)), (mo, .inr (16, [.int 0, .int 3, .ref mq1, .ref mq2, .int 0, .ref mq3, .int 0, .ref mq4, .ref mq5, .ref mq6, .int 0, .ref mq7, .ref mq8, .ref mq9, .int 0, .ref mq10, .ref mq11, .ref mq12, .ref mq13, .ref mq14, .int 0, .ref mq15, .ref mq16, .long 0, .ref mq17, .ref mq18, .ref mq19, .int 0, .null, .int 0, .int 0, .int 0, .null, .int 0, .int 0, .int 0, .null, .ref mq20, .int 0, .int 0, .long 0, .null, .null, .null, .null, .int 0, .int 0, .int 0, .int 0, .int 0, .int 0, .null, .long 0, .long 0, .long 0, .null, .null, .null, .int 0, .int 0, .int 0, .ref mq21, .null, .null])), (mq1, .inl (y 1, 4096, .inl f86))] H := hP
    have hD : va_D A [(x, .inr (15, [.ref aq1, .ref aq3, .ref aq5, .ref aq7, .ref aq9, .ref aq11, .ref aq16, .ref aq19, .ref aq22, .ref aq37, .ref aq55, .ref aq57, .ref aq59, .int 0, .null])), (aq1, .inr (4, [.ref aq2, .int 0, .int (nI 3)])), (aq2, .inl (y 0, 4096, .inl f73)), (mo, .inr (16, [.int 0, .int 3, .ref mq1, .ref mq2, .int 0, .ref mq3, .int 0, .ref mq4, .ref mq5, .ref mq6, .int 0, .ref mq7, .ref mq8, .ref mq9, .int 0, .ref mq10, .ref mq11, .ref mq12, .ref mq13, .ref mq14, .int 0, .ref mq15, .ref mq16, .long 0, .ref mq17, .ref mq18, .ref mq19, .int 0, .null, .int 0, .int 0, .int 0, .null, .int 0, .int 0, .int 0, .null, .ref mq20, .int 0, .int 0, .long 0, .null, .null, .null, .null, .int 0, .int 0, .int 0, .int 0, .int 0, .int 0, .null, .long 0, .long 0, .long 0, .null, .null, .null, .int 0, .int 0, .int 0, .ref mq21, .null, .null])), (mq1, .inl (y 1, 4096, .inl f86))] := hD
    have hw : r85 = 1 := hw
    subst hw
    refine lv_icmp_eq (tgt := 1017) hx hb dL_law_184 (by decide) (fun _ => ?_) (fun c9 => absurd (by decide) c9)
    refine lv_iinc (v := 6) (lv' := [(4, .int 6), (3, .ref o), (2, .ref mo), (1, .ref x), (0, .ref b)]) hx hb dL_law_1017 hl (k := 0) rfl (by decide) (by decide) rfl (fun ls hl => ?_)
    refine lv_goto (tgt := 23) hx hb dL_law_1020 (by decide) ?_
    refine lv_iload hx hb dL_law_23 (lv_at hl 0 rfl) ?_
    refine lv_aload_n hx hb dL_law_25 rfl (lv_at hl 4 rfl) ?_
    refine va_slen hx hb hX hbl hbA hS dL_law_26 ?_
    refine lv_bipush (v := 6) hx hb dL_law_27 (by decide) ?_
    refine lv_isub hx hb dL_law_29 ?_
    refine lv_topi (fun v87 ev87 => ?_)
    have ev87 : v87 = 0 := ev87.trans (by decide +kernel)
    subst ev87
    refine lv_icmp_gt (tgt := 1023) hx hb dL_law_30 (by decide) (fun _ => ?_) (fun c9 => absurd (by decide) c9)
    refine lv_iconst (v := 1) hx hb dL_law_1023 (by decide) ?_
    refine va_forget (fun q hq => hAf _ (hS.2.2 q hq)) ?_
    refine W.widen (k := 600002) (n := 7302232) (Nat.le_of_ble_eq_true rfl) (Nat.le_of_ble_eq_true rfl) ?_
    exact lw_ret hx hb hr hlocks dL_law_1024
  · subst h1
    have hPc := hP.sub (ws' := [(x, .inr (15, [.ref aq1, .ref aq3, .ref aq5, .ref aq7, .ref aq9, .ref aq11, .ref aq16, .ref aq19, .ref aq22, .ref aq37, .ref aq55, .ref aq57, .ref aq59, .int 0, .null])), (aq1, .inr (4, [.ref aq2, .int 0, .int 0])), (aq2, .inl (y 0, 4096, .inl (fun _ => 0)))]) [0, 1, 2] rfl
    have hDc := hD.sub (ws' := [(x, .inr (15, [.ref aq1, .ref aq3, .ref aq5, .ref aq7, .ref aq9, .ref aq11, .ref aq16, .ref aq19, .ref aq22, .ref aq37, .ref aq55, .ref aq57, .ref aq59, .int 0, .null])), (aq1, .inr (4, [.ref aq2, .int 0, .int 0])), (aq2, .inl (y 0, 4096, .inl (fun _ => 0)))]) [0, 1, 2] (by decide) rfl
    have hFc := va_free (wc := [(x, .inr (15, [.ref aq1, .ref aq3, .ref aq5, .ref aq7, .ref aq9, .ref aq11, .ref aq16, .ref aq19, .ref aq22, .ref aq37, .ref aq55, .ref aq57, .ref aq59, .int 0, .null])), (aq1, .inr (4, [.ref aq2, .int 0, .int 0])), (aq2, .inl (y 0, 4096, .inl (fun _ => 0)))]) hD hS hA [0, 1, 2] rfl
    refine va_calli (va_runV (As := [.long z9, .int 4]) (rest := []) ⟨hx, hb, hml, hown, hts⟩ (c_X11_add_4 l D y H.size x aq1 aq2 ((.ref aq3)) ((.ref aq5)) ((.ref aq7)) ((.ref aq9)) ((.ref aq11)) ((.ref aq16)) ((.ref aq19)) ((.ref aq22)) ((.ref aq37)) ((.ref aq55)) ((.ref aq57)) ((.ref aq59)) ((.int 0)) ((.null)) ((.int 0)) ((fun _ => 0)) z9) (cwV 2 hts gv_law_0_c_X11_add_4_62 rfl rfl rfl (by decide +kernel) ⟨(Nat.le_of_ble_eq_true rfl), (Nat.le_of_ble_eq_true rfl)⟩) (zB.preV hPc hDc hK hN hE hO hT hG hS hFc (fun _ h => nomatch h) (fun _ h => nomatch h) (fun _ h => nomatch h) (fun _ h => nomatch h) (va_recv hK hPc (ci := 15) (q0 := 0) rfl rfl)) rfl rfl hl.1 rfl (lv_room (Nat.le_of_ble_eq_true rfl)) dL_law_149 ⟨(Nat.le_of_ble_eq_true rfl), (Nat.le_of_ble_eq_true rfl)⟩) hS (fun q _ h => hFc q h) hFc (fun r88 u t H1 locs ht hvm hw hB hz1 hk1 hS => ?_)
    obtain ⟨f89, hP1, hD1⟩ := hB
    rw [ht] at hP1
    obtain ⟨hP, hD⟩ := va_join (wr := [(mo, .inr (16, [.int 0, .int 0, .ref mq1, .ref mq2, .int 0, .ref mq3, .int 0, .ref mq4, .ref mq5, .ref mq6, .int 0, .ref mq7, .ref mq8, .ref mq9, .int 0, .ref mq10, .ref mq11, .ref mq12, .ref mq13, .ref mq14, .int 0, .ref mq15, .ref mq16, .long 0, .ref mq17, .ref mq18, .ref mq19, .int 0, .null, .int 0, .int 0, .int 0, .null, .int 0, .int 0, .int 0, .null, .ref mq20, .int 0, .int 0, .long 0, .null, .null, .null, .null, .int 0, .int 0, .int 0, .int 0, .int 0, .int 0, .null, .long 0, .long 0, .long 0, .null, .null, .null, .int 0, .int 0, .int 0, .ref mq21, .null, .null])), (mq1, .inl (y 1, 4096, .inl (fun _ => 0)))]) (w1 := [(x, .inr (15, [.ref aq1, .ref aq3, .ref aq5, .ref aq7, .ref aq9, .ref aq11, .ref aq16, .ref aq19, .ref aq22, .ref aq37, .ref aq55, .ref aq57, .ref aq59, .int 0, .null])), (aq1, .inr (4, [.ref aq2, .int 0, .int (nI 4)])), (aq2, .inl (y 0, 4096, .inl f89))]) hP hD [0, 1, 2] [3, 4] rfl rfl (by decide) (by decide) hk1 hFc hP1 hD1
    generalize H1 = H at hP hS ⊢
    have hP : va_P D vwCl [(mo, .inr (16, [.int 0, .int 0, .ref mq1, .ref mq2, .int 0, .ref mq3, .int 0, .ref mq4, .ref mq5, .ref mq6, .int 0, .ref mq7, .ref mq8, .ref mq9, .int 0, .ref mq10, .ref mq11, .ref mq12, .ref mq13, .ref mq14, .int 0, .ref mq15, .ref mq16, .long 0, .ref mq17, .ref mq18, .ref mq19, .int 0, .null, .int 0, .int 0, .int 0, .null, .int 0, .int 0, .int 0, .null, .ref mq20, .int 0, .int 0, .long 0, .null, .null, .null, .null, .int 0, .int 0, .int 0, .int 0, .int 0, .int 0, .null, .long 0, .long 0, .long 0, .null, .null, .null, .int 0, .int 0, .int 0, .ref mq21, .null, .null])), (mq1, .inl (y 1, 4096, .inl (fun _ => 0))), (x, .inr (15, [.ref aq1, .ref aq3, .ref aq5, .ref aq7, .ref aq9, .ref aq11, .ref aq16, .ref aq19, .ref aq22, .ref aq37, .ref aq55, .ref aq57, .ref aq59, .int 0, .null])), (aq1, .inr (4, [.ref aq2, .int 0, .int (nI 4)])), (aq2, .inl (y 0, 4096, .inl f89))] H := hP
    have hD : va_D A [(mo, .inr (16, [.int 0, .int 0, .ref mq1, .ref mq2, .int 0, .ref mq3, .int 0, .ref mq4, .ref mq5, .ref mq6, .int 0, .ref mq7, .ref mq8, .ref mq9, .int 0, .ref mq10, .ref mq11, .ref mq12, .ref mq13, .ref mq14, .int 0, .ref mq15, .ref mq16, .long 0, .ref mq17, .ref mq18, .ref mq19, .int 0, .null, .int 0, .int 0, .int 0, .null, .int 0, .int 0, .int 0, .null, .ref mq20, .int 0, .int 0, .long 0, .null, .null, .null, .null, .int 0, .int 0, .int 0, .int 0, .int 0, .int 0, .null, .long 0, .long 0, .long 0, .null, .null, .null, .int 0, .int 0, .int 0, .ref mq21, .null, .null])), (mq1, .inl (y 1, 4096, .inl (fun _ => 0))), (x, .inr (15, [.ref aq1, .ref aq3, .ref aq5, .ref aq7, .ref aq9, .ref aq11, .ref aq16, .ref aq19, .ref aq22, .ref aq37, .ref aq55, .ref aq57, .ref aq59, .int 0, .null])), (aq1, .inr (4, [.ref aq2, .int 0, .int (nI 4)])), (aq2, .inl (y 0, 4096, .inl f89))] := hD
    have hw : r88 = 1 := hw
    subst hw
    refine lv_aload_n hx hb dL_law_152 rfl (lv_at hl 2 rfl) ?_
    refine lv_aload_n hx hb dL_law_153 rfl (lv_at hl 4 rfl) ?_
    refine lv_iload hx hb dL_law_154 (lv_at hl 0 rfl) ?_
    refine lv_iconst (v := 1) hx hb dL_law_156 (by decide) ?_
    refine lv_iadd hx hb dL_law_157 ?_
    refine lv_topi (fun v90 ev90 => ?_)
    have ev90 : v90 = 1 := ev90.trans (by decide +kernel)
    subst ev90
    refine va_sld hx hb hX hbl hbA hS (by unfold vp_in; decide) dL_law_158 ?_
    refine lv_topi (fun x91 ex91 => ?_)
    have fx91 : x2 = x91 := ex2.trans ex91.symm
    subst fx91
    refine lv_i2l hx hb dL_law_159 rfl ?_
    refine lv_topl (fun z92 ez92 => ?_)
    have fz92 : z3 = z92 := ez3.trans ez92.symm
    subst fz92
    refine lv_bipush (v := 32) hx hb dL_law_160 (by decide) ?_
    refine lv_lshl hx hb dL_law_162 rfl ?_
    refine lv_topl (fun z93 ez93 => ?_)
    have fz93 : z4 = z93 := ez4.trans ez93.symm
    subst fz93
    refine lv_aload_n hx hb dL_law_163 rfl (lv_at hl 4 rfl) ?_
    refine lv_iload hx hb dL_law_164 (lv_at hl 0 rfl) ?_
    refine lv_iconst (v := 2) hx hb dL_law_166 (by decide) ?_
    refine lv_iadd hx hb dL_law_167 ?_
    refine lv_topi (fun v94 ev94 => ?_)
    have ev94 : v94 = 2 := ev94.trans (by decide +kernel)
    subst ev94
    refine va_sld hx hb hX hbl hbA hS (by unfold vp_in; decide) dL_law_168 ?_
    refine lv_topi (fun x95 ex95 => ?_)
    have fx95 : x6 = x95 := ex6.trans ex95.symm
    subst fx95
    refine lv_i2l hx hb dL_law_169 rfl ?_
    refine lv_topl (fun z96 ez96 => ?_)
    have fz96 : z7 = z96 := ez7.trans ez96.symm
    subst fz96
    refine lv_ldc2 (v := 4294967295) hx hb hown (hts (.constantLong RL 60 4294967295) (by decide +kernel)) dL_law_170 ?_
    refine lv_land hx hb dL_law_173 ?_
    refine lv_topl (fun z97 ez97 => ?_)
    have fz97 : z8 = z97 := ez8.trans ez97.symm
    subst fz97
    refine lv_lor hx hb dL_law_174 ?_
    refine lv_topl (fun z98 ez98 => ?_)
    have fz98 : z9 = z98 := ez9.trans ez98.symm
    subst fz98
    refine lv_aload_n hx hb dL_law_175 rfl (lv_at hl 4 rfl) ?_
    refine lv_iload hx hb dL_law_176 (lv_at hl 0 rfl) ?_
    refine lv_iconst (v := 3) hx hb dL_law_178 (by decide) ?_
    refine lv_iadd hx hb dL_law_179 ?_
    refine lv_topi (fun v99 ev99 => ?_)
    have ev99 : v99 = 3 := ev99.trans (by decide +kernel)
    subst ev99
    refine va_sld hx hb hX hbl hbA hS (by unfold vp_in; decide) dL_law_180 ?_
    refine lv_topi (fun x100 ex100 => ?_)
    have fx100 : 4 = x100 := ex11.trans ex100.symm
    subst fx100
    have hPc := hP.sub (ws' := [(mo, .inr (16, [.int 0, .int 0, .ref mq1, .ref mq2, .int 0, .ref mq3, .int 0, .ref mq4, .ref mq5, .ref mq6, .int 0, .ref mq7, .ref mq8, .ref mq9, .int 0, .ref mq10, .ref mq11, .ref mq12, .ref mq13, .ref mq14, .int 0, .ref mq15, .ref mq16, .long 0, .ref mq17, .ref mq18, .ref mq19, .int 0, .null, .int 0, .int 0, .int 0, .null, .int 0, .int 0, .int 0, .null, .ref mq20, .int 0, .int 0, .long 0, .null, .null, .null, .null, .int 0, .int 0, .int 0, .int 0, .int 0, .int 0, .null, .long 0, .long 0, .long 0, .null, .null, .null, .int 0, .int 0, .int 0, .ref mq21, .null, .null])), (mq1, .inl (y 1, 4096, .inl (fun _ => 0)))]) [0, 1] rfl
    have hDc := hD.sub (ws' := [(mo, .inr (16, [.int 0, .int 0, .ref mq1, .ref mq2, .int 0, .ref mq3, .int 0, .ref mq4, .ref mq5, .ref mq6, .int 0, .ref mq7, .ref mq8, .ref mq9, .int 0, .ref mq10, .ref mq11, .ref mq12, .ref mq13, .ref mq14, .int 0, .ref mq15, .ref mq16, .long 0, .ref mq17, .ref mq18, .ref mq19, .int 0, .null, .int 0, .int 0, .int 0, .null, .int 0, .int 0, .int 0, .null, .ref mq20, .int 0, .int 0, .long 0, .null, .null, .null, .null, .int 0, .int 0, .int 0, .int 0, .int 0, .int 0, .null, .long 0, .long 0, .long 0, .null, .null, .null, .int 0, .int 0, .int 0, .ref mq21, .null, .null])), (mq1, .inl (y 1, 4096, .inl (fun _ => 0)))]) [0, 1] (by decide) rfl
    have hFc := va_free (wc := [(mo, .inr (16, [.int 0, .int 0, .ref mq1, .ref mq2, .int 0, .ref mq3, .int 0, .ref mq4, .ref mq5, .ref mq6, .int 0, .ref mq7, .ref mq8, .ref mq9, .int 0, .ref mq10, .ref mq11, .ref mq12, .ref mq13, .ref mq14, .int 0, .ref mq15, .ref mq16, .long 0, .ref mq17, .ref mq18, .ref mq19, .int 0, .null, .int 0, .int 0, .int 0, .null, .int 0, .int 0, .int 0, .null, .ref mq20, .int 0, .int 0, .long 0, .null, .null, .null, .null, .int 0, .int 0, .int 0, .int 0, .int 0, .int 0, .null, .long 0, .long 0, .long 0, .null, .null, .null, .int 0, .int 0, .int 0, .ref mq21, .null, .null])), (mq1, .inl (y 1, 4096, .inl (fun _ => 0)))]) hD hS hA [0, 1] rfl
    refine va_calli (va_runV (As := [.long z9, .int 4]) (rest := [.int 1]) ⟨hx, hb, hml, hown, hts⟩ (c_M_add_4 l D y H.size mo mq1 ((.int 0)) ((.ref mq2)) ((.int 0)) ((.ref mq3)) ((.int 0)) ((.ref mq4)) ((.ref mq5)) ((.ref mq6)) ((.int 0)) ((.ref mq7)) ((.ref mq8)) ((.ref mq9)) ((.int 0)) ((.ref mq10)) ((.ref mq11)) ((.ref mq12)) ((.ref mq13)) ((.ref mq14)) ((.int 0)) ((.ref mq15)) ((.ref mq16)) ((.long 0)) ((.ref mq17)) ((.ref mq18)) ((.ref mq19)) ((.int 0)) ((.null)) ((.int 0)) ((.int 0)) ((.int 0)) ((.null)) ((.int 0)) ((.int 0)) ((.int 0)) ((.null)) ((.ref mq20)) ((.int 0)) ((.int 0)) ((.long 0)) ((.null)) ((.null)) ((.null)) ((.null)) ((.int 0)) ((.int 0)) ((.int 0)) ((.int 0)) ((.int 0)) ((.int 0)) ((.null)) ((.long 0)) ((.long 0)) ((.long 0)) ((.null)) ((.null)) ((.null)) ((.int 0)) ((.int 0)) ((.int 0)) ((.ref mq21)) ((.null)) ((.null)) ((fun _ => 0)) z9) (cwV 2 hts gv_law_0_c_M_add_4_66 rfl rfl rfl (by decide +kernel) ⟨(Nat.le_of_ble_eq_true rfl), (Nat.le_of_ble_eq_true rfl)⟩) (zB.preV hPc hDc hK hN hE hO hT hG hS hFc (fun _ h => nomatch h) (fun _ h => nomatch h) (fun _ h => nomatch h) (fun _ h => nomatch h) (va_recv hK hPc (ci := 16) (q0 := 0) rfl rfl)) rfl rfl hl.1 rfl (lv_room (Nat.le_of_ble_eq_true rfl)) dL_law_181 ⟨(Nat.le_of_ble_eq_true rfl), (Nat.le_of_ble_eq_true rfl)⟩) hS (fun q _ h => hFc q h) hFc (fun r101 u t H1 locs ht hvm hw hB hz1 hk1 hS => ?_)
    obtain ⟨f102, hP1, hD1⟩ := hB
    rw [ht] at hP1
    obtain ⟨hP, hD⟩ := va_join (wr := [(x, .inr (15, [.ref aq1, .ref aq3, .ref aq5, .ref aq7, .ref aq9, .ref aq11, .ref aq16, .ref aq19, .ref aq22, .ref aq37, .ref aq55, .ref aq57, .ref aq59, .int 0, .null])), (aq1, .inr (4, [.ref aq2, .int 0, .int (nI 4)])), (aq2, .inl (y 0, 4096, .inl f89))]) (w1 := [(mo, .inr (16, [.int 0, .int 4, .ref mq1, .ref mq2, .int 0, .ref mq3, .int 0, .ref mq4, .ref mq5, .ref mq6, .int 0, .ref mq7, .ref mq8, .ref mq9, .int 0, .ref mq10, .ref mq11, .ref mq12, .ref mq13, .ref mq14, .int 0, .ref mq15, .ref mq16, .long 0, .ref mq17, .ref mq18, .ref mq19, .int 0, .null, .int 0, .int 0, .int 0, .null, .int 0, .int 0, .int 0, .null, .ref mq20, .int 0, .int 0, .long 0, .null, .null, .null, .null, .int 0, .int 0, .int 0, .int 0, .int 0, .int 0, .null, .long 0, .long 0, .long 0, .null, .null, .null, .int 0, .int 0, .int 0, .ref mq21, .null, .null])), (mq1, .inl (y 1, 4096, .inl f102))]) hP hD [0, 1] [2, 3, 4] rfl rfl (by decide) (by decide) hk1 hFc hP1 hD1
    generalize H1 = H at hP hS ⊢
    have hP : va_P D vwCl [(x, .inr (15, [.ref aq1, .ref aq3, .ref aq5, .ref aq7, .ref aq9, .ref aq11, .ref aq16, .ref aq19, .ref aq22, .ref aq37, .ref aq55, .ref aq57, .ref aq59, .int 0, .null])), (aq1, .inr (4, [.ref aq2, .int 0, .int (nI 4)])), (aq2, .inl (y 0, 4096, .inl f89)), (mo, .inr (16, [.int 0, .int 4, .ref mq1, .ref mq2, .int 0, .ref mq3, .int 0, .ref mq4, .ref mq5, .ref mq6, .int 0, .ref mq7, .ref mq8, .ref mq9, .int 0, .ref mq10, .ref mq11, .ref mq12, .ref mq13, .ref mq14, .int 0, .ref mq15, .ref mq16, .long 0, .ref mq17, .ref mq18, .ref mq19, .int 0, .null, .int 0, .int 0, .int 0, .null, .int 0, .int 0, .int 0, .null, .ref mq20, .int 0, .int 0, .long 0, .null, .null, .null, .null, .int 0, .int 0, .int 0, .int 0, .int 0, .int 0, .null, .long 0, .long 0, .long 0, .null, .null, .null, .int 0, .int 0, .int 0, .ref mq21, .null, .null])), (mq1, .inl (y 1, 4096, .inl f102))] H := hP
    have hD : va_D A [(x, .inr (15, [.ref aq1, .ref aq3, .ref aq5, .ref aq7, .ref aq9, .ref aq11, .ref aq16, .ref aq19, .ref aq22, .ref aq37, .ref aq55, .ref aq57, .ref aq59, .int 0, .null])), (aq1, .inr (4, [.ref aq2, .int 0, .int (nI 4)])), (aq2, .inl (y 0, 4096, .inl f89)), (mo, .inr (16, [.int 0, .int 4, .ref mq1, .ref mq2, .int 0, .ref mq3, .int 0, .ref mq4, .ref mq5, .ref mq6, .int 0, .ref mq7, .ref mq8, .ref mq9, .int 0, .ref mq10, .ref mq11, .ref mq12, .ref mq13, .ref mq14, .int 0, .ref mq15, .ref mq16, .long 0, .ref mq17, .ref mq18, .ref mq19, .int 0, .null, .int 0, .int 0, .int 0, .null, .int 0, .int 0, .int 0, .null, .ref mq20, .int 0, .int 0, .long 0, .null, .null, .null, .null, .int 0, .int 0, .int 0, .int 0, .int 0, .int 0, .null, .long 0, .long 0, .long 0, .null, .null, .null, .int 0, .int 0, .int 0, .ref mq21, .null, .null])), (mq1, .inl (y 1, 4096, .inl f102))] := hD
    have hw : r101 = 1 := hw
    subst hw
    refine lv_icmp_eq (tgt := 1017) hx hb dL_law_184 (by decide) (fun _ => ?_) (fun c9 => absurd (by decide) c9)
    refine lv_iinc (v := 6) (lv' := [(4, .int 6), (3, .ref o), (2, .ref mo), (1, .ref x), (0, .ref b)]) hx hb dL_law_1017 hl (k := 0) rfl (by decide) (by decide) rfl (fun ls hl => ?_)
    refine lv_goto (tgt := 23) hx hb dL_law_1020 (by decide) ?_
    refine lv_iload hx hb dL_law_23 (lv_at hl 0 rfl) ?_
    refine lv_aload_n hx hb dL_law_25 rfl (lv_at hl 4 rfl) ?_
    refine va_slen hx hb hX hbl hbA hS dL_law_26 ?_
    refine lv_bipush (v := 6) hx hb dL_law_27 (by decide) ?_
    refine lv_isub hx hb dL_law_29 ?_
    refine lv_topi (fun v103 ev103 => ?_)
    have ev103 : v103 = 0 := ev103.trans (by decide +kernel)
    subst ev103
    refine lv_icmp_gt (tgt := 1023) hx hb dL_law_30 (by decide) (fun _ => ?_) (fun c9 => absurd (by decide) c9)
    refine lv_iconst (v := 1) hx hb dL_law_1023 (by decide) ?_
    refine va_forget (fun q hq => hAf _ (hS.2.2 q hq)) ?_
    refine W.widen (k := 600002) (n := 7302232) (Nat.le_of_ble_eq_true rfl) (Nat.le_of_ble_eq_true rfl) ?_
    exact lw_ret hx hb hr hlocks dL_law_1024
  · subst h1
    have hPc := hP.sub (ws' := [(x, .inr (15, [.ref aq1, .ref aq3, .ref aq5, .ref aq7, .ref aq9, .ref aq11, .ref aq16, .ref aq19, .ref aq22, .ref aq37, .ref aq55, .ref aq57, .ref aq59, .int 0, .null])), (aq1, .inr (4, [.ref aq2, .int 0, .int 0])), (aq2, .inl (y 0, 4096, .inl (fun _ => 0)))]) [0, 1, 2] rfl
    have hDc := hD.sub (ws' := [(x, .inr (15, [.ref aq1, .ref aq3, .ref aq5, .ref aq7, .ref aq9, .ref aq11, .ref aq16, .ref aq19, .ref aq22, .ref aq37, .ref aq55, .ref aq57, .ref aq59, .int 0, .null])), (aq1, .inr (4, [.ref aq2, .int 0, .int 0])), (aq2, .inl (y 0, 4096, .inl (fun _ => 0)))]) [0, 1, 2] (by decide) rfl
    have hFc := va_free (wc := [(x, .inr (15, [.ref aq1, .ref aq3, .ref aq5, .ref aq7, .ref aq9, .ref aq11, .ref aq16, .ref aq19, .ref aq22, .ref aq37, .ref aq55, .ref aq57, .ref aq59, .int 0, .null])), (aq1, .inr (4, [.ref aq2, .int 0, .int 0])), (aq2, .inl (y 0, 4096, .inl (fun _ => 0)))]) hD hS hA [0, 1, 2] rfl
    refine va_calli (va_runV (As := [.long z9, .int 5]) (rest := []) ⟨hx, hb, hml, hown, hts⟩ (c_X11_add_5 l D y H.size x aq1 aq2 ((.ref aq3)) ((.ref aq5)) ((.ref aq7)) ((.ref aq9)) ((.ref aq11)) ((.ref aq16)) ((.ref aq19)) ((.ref aq22)) ((.ref aq37)) ((.ref aq55)) ((.ref aq57)) ((.ref aq59)) ((.int 0)) ((.null)) ((.int 0)) ((fun _ => 0)) z9) (cwV 2 hts gv_law_0_c_X11_add_5_62 rfl rfl rfl (by decide +kernel) ⟨(Nat.le_of_ble_eq_true rfl), (Nat.le_of_ble_eq_true rfl)⟩) (zB.preV hPc hDc hK hN hE hO hT hG hS hFc (fun _ h => nomatch h) (fun _ h => nomatch h) (fun _ h => nomatch h) (fun _ h => nomatch h) (va_recv hK hPc (ci := 15) (q0 := 0) rfl rfl)) rfl rfl hl.1 rfl (lv_room (Nat.le_of_ble_eq_true rfl)) dL_law_149 ⟨(Nat.le_of_ble_eq_true rfl), (Nat.le_of_ble_eq_true rfl)⟩) hS (fun q _ h => hFc q h) hFc (fun r104 u t H1 locs ht hvm hw hB hz1 hk1 hS => ?_)
    obtain ⟨f105, hP1, hD1⟩ := hB
    rw [ht] at hP1
    obtain ⟨hP, hD⟩ := va_join (wr := [(mo, .inr (16, [.int 0, .int 0, .ref mq1, .ref mq2, .int 0, .ref mq3, .int 0, .ref mq4, .ref mq5, .ref mq6, .int 0, .ref mq7, .ref mq8, .ref mq9, .int 0, .ref mq10, .ref mq11, .ref mq12, .ref mq13, .ref mq14, .int 0, .ref mq15, .ref mq16, .long 0, .ref mq17, .ref mq18, .ref mq19, .int 0, .null, .int 0, .int 0, .int 0, .null, .int 0, .int 0, .int 0, .null, .ref mq20, .int 0, .int 0, .long 0, .null, .null, .null, .null, .int 0, .int 0, .int 0, .int 0, .int 0, .int 0, .null, .long 0, .long 0, .long 0, .null, .null, .null, .int 0, .int 0, .int 0, .ref mq21, .null, .null])), (mq1, .inl (y 1, 4096, .inl (fun _ => 0)))]) (w1 := [(x, .inr (15, [.ref aq1, .ref aq3, .ref aq5, .ref aq7, .ref aq9, .ref aq11, .ref aq16, .ref aq19, .ref aq22, .ref aq37, .ref aq55, .ref aq57, .ref aq59, .int 0, .null])), (aq1, .inr (4, [.ref aq2, .int 0, .int (nI 5)])), (aq2, .inl (y 0, 4096, .inl f105))]) hP hD [0, 1, 2] [3, 4] rfl rfl (by decide) (by decide) hk1 hFc hP1 hD1
    generalize H1 = H at hP hS ⊢
    have hP : va_P D vwCl [(mo, .inr (16, [.int 0, .int 0, .ref mq1, .ref mq2, .int 0, .ref mq3, .int 0, .ref mq4, .ref mq5, .ref mq6, .int 0, .ref mq7, .ref mq8, .ref mq9, .int 0, .ref mq10, .ref mq11, .ref mq12, .ref mq13, .ref mq14, .int 0, .ref mq15, .ref mq16, .long 0, .ref mq17, .ref mq18, .ref mq19, .int 0, .null, .int 0, .int 0, .int 0, .null, .int 0, .int 0, .int 0, .null, .ref mq20, .int 0, .int 0, .long 0, .null, .null, .null, .null, .int 0, .int 0, .int 0, .int 0, .int 0, .int 0, .null, .long 0, .long 0, .long 0, .null, .null, .null, .int 0, .int 0, .int 0, .ref mq21, .null, .null])), (mq1, .inl (y 1, 4096, .inl (fun _ => 0))), (x, .inr (15, [.ref aq1, .ref aq3, .ref aq5, .ref aq7, .ref aq9, .ref aq11, .ref aq16, .ref aq19, .ref aq22, .ref aq37, .ref aq55, .ref aq57, .ref aq59, .int 0, .null])), (aq1, .inr (4, [.ref aq2, .int 0, .int (nI 5)])), (aq2, .inl (y 0, 4096, .inl f105))] H := hP
    have hD : va_D A [(mo, .inr (16, [.int 0, .int 0, .ref mq1, .ref mq2, .int 0, .ref mq3, .int 0, .ref mq4, .ref mq5, .ref mq6, .int 0, .ref mq7, .ref mq8, .ref mq9, .int 0, .ref mq10, .ref mq11, .ref mq12, .ref mq13, .ref mq14, .int 0, .ref mq15, .ref mq16, .long 0, .ref mq17, .ref mq18, .ref mq19, .int 0, .null, .int 0, .int 0, .int 0, .null, .int 0, .int 0, .int 0, .null, .ref mq20, .int 0, .int 0, .long 0, .null, .null, .null, .null, .int 0, .int 0, .int 0, .int 0, .int 0, .int 0, .null, .long 0, .long 0, .long 0, .null, .null, .null, .int 0, .int 0, .int 0, .ref mq21, .null, .null])), (mq1, .inl (y 1, 4096, .inl (fun _ => 0))), (x, .inr (15, [.ref aq1, .ref aq3, .ref aq5, .ref aq7, .ref aq9, .ref aq11, .ref aq16, .ref aq19, .ref aq22, .ref aq37, .ref aq55, .ref aq57, .ref aq59, .int 0, .null])), (aq1, .inr (4, [.ref aq2, .int 0, .int (nI 5)])), (aq2, .inl (y 0, 4096, .inl f105))] := hD
    have hw : r104 = 1 := hw
    subst hw
    refine lv_aload_n hx hb dL_law_152 rfl (lv_at hl 2 rfl) ?_
    refine lv_aload_n hx hb dL_law_153 rfl (lv_at hl 4 rfl) ?_
    refine lv_iload hx hb dL_law_154 (lv_at hl 0 rfl) ?_
    refine lv_iconst (v := 1) hx hb dL_law_156 (by decide) ?_
    refine lv_iadd hx hb dL_law_157 ?_
    refine lv_topi (fun v106 ev106 => ?_)
    have ev106 : v106 = 1 := ev106.trans (by decide +kernel)
    subst ev106
    refine va_sld hx hb hX hbl hbA hS (by unfold vp_in; decide) dL_law_158 ?_
    refine lv_topi (fun x107 ex107 => ?_)
    have fx107 : x2 = x107 := ex2.trans ex107.symm
    subst fx107
    refine lv_i2l hx hb dL_law_159 rfl ?_
    refine lv_topl (fun z108 ez108 => ?_)
    have fz108 : z3 = z108 := ez3.trans ez108.symm
    subst fz108
    refine lv_bipush (v := 32) hx hb dL_law_160 (by decide) ?_
    refine lv_lshl hx hb dL_law_162 rfl ?_
    refine lv_topl (fun z109 ez109 => ?_)
    have fz109 : z4 = z109 := ez4.trans ez109.symm
    subst fz109
    refine lv_aload_n hx hb dL_law_163 rfl (lv_at hl 4 rfl) ?_
    refine lv_iload hx hb dL_law_164 (lv_at hl 0 rfl) ?_
    refine lv_iconst (v := 2) hx hb dL_law_166 (by decide) ?_
    refine lv_iadd hx hb dL_law_167 ?_
    refine lv_topi (fun v110 ev110 => ?_)
    have ev110 : v110 = 2 := ev110.trans (by decide +kernel)
    subst ev110
    refine va_sld hx hb hX hbl hbA hS (by unfold vp_in; decide) dL_law_168 ?_
    refine lv_topi (fun x111 ex111 => ?_)
    have fx111 : x6 = x111 := ex6.trans ex111.symm
    subst fx111
    refine lv_i2l hx hb dL_law_169 rfl ?_
    refine lv_topl (fun z112 ez112 => ?_)
    have fz112 : z7 = z112 := ez7.trans ez112.symm
    subst fz112
    refine lv_ldc2 (v := 4294967295) hx hb hown (hts (.constantLong RL 60 4294967295) (by decide +kernel)) dL_law_170 ?_
    refine lv_land hx hb dL_law_173 ?_
    refine lv_topl (fun z113 ez113 => ?_)
    have fz113 : z8 = z113 := ez8.trans ez113.symm
    subst fz113
    refine lv_lor hx hb dL_law_174 ?_
    refine lv_topl (fun z114 ez114 => ?_)
    have fz114 : z9 = z114 := ez9.trans ez114.symm
    subst fz114
    refine lv_aload_n hx hb dL_law_175 rfl (lv_at hl 4 rfl) ?_
    refine lv_iload hx hb dL_law_176 (lv_at hl 0 rfl) ?_
    refine lv_iconst (v := 3) hx hb dL_law_178 (by decide) ?_
    refine lv_iadd hx hb dL_law_179 ?_
    refine lv_topi (fun v115 ev115 => ?_)
    have ev115 : v115 = 3 := ev115.trans (by decide +kernel)
    subst ev115
    refine va_sld hx hb hX hbl hbA hS (by unfold vp_in; decide) dL_law_180 ?_
    refine lv_topi (fun x116 ex116 => ?_)
    have fx116 : 5 = x116 := ex11.trans ex116.symm
    subst fx116
    have hPc := hP.sub (ws' := [(mo, .inr (16, [.int 0, .int 0, .ref mq1, .ref mq2, .int 0, .ref mq3, .int 0, .ref mq4, .ref mq5, .ref mq6, .int 0, .ref mq7, .ref mq8, .ref mq9, .int 0, .ref mq10, .ref mq11, .ref mq12, .ref mq13, .ref mq14, .int 0, .ref mq15, .ref mq16, .long 0, .ref mq17, .ref mq18, .ref mq19, .int 0, .null, .int 0, .int 0, .int 0, .null, .int 0, .int 0, .int 0, .null, .ref mq20, .int 0, .int 0, .long 0, .null, .null, .null, .null, .int 0, .int 0, .int 0, .int 0, .int 0, .int 0, .null, .long 0, .long 0, .long 0, .null, .null, .null, .int 0, .int 0, .int 0, .ref mq21, .null, .null])), (mq1, .inl (y 1, 4096, .inl (fun _ => 0)))]) [0, 1] rfl
    have hDc := hD.sub (ws' := [(mo, .inr (16, [.int 0, .int 0, .ref mq1, .ref mq2, .int 0, .ref mq3, .int 0, .ref mq4, .ref mq5, .ref mq6, .int 0, .ref mq7, .ref mq8, .ref mq9, .int 0, .ref mq10, .ref mq11, .ref mq12, .ref mq13, .ref mq14, .int 0, .ref mq15, .ref mq16, .long 0, .ref mq17, .ref mq18, .ref mq19, .int 0, .null, .int 0, .int 0, .int 0, .null, .int 0, .int 0, .int 0, .null, .ref mq20, .int 0, .int 0, .long 0, .null, .null, .null, .null, .int 0, .int 0, .int 0, .int 0, .int 0, .int 0, .null, .long 0, .long 0, .long 0, .null, .null, .null, .int 0, .int 0, .int 0, .ref mq21, .null, .null])), (mq1, .inl (y 1, 4096, .inl (fun _ => 0)))]) [0, 1] (by decide) rfl
    have hFc := va_free (wc := [(mo, .inr (16, [.int 0, .int 0, .ref mq1, .ref mq2, .int 0, .ref mq3, .int 0, .ref mq4, .ref mq5, .ref mq6, .int 0, .ref mq7, .ref mq8, .ref mq9, .int 0, .ref mq10, .ref mq11, .ref mq12, .ref mq13, .ref mq14, .int 0, .ref mq15, .ref mq16, .long 0, .ref mq17, .ref mq18, .ref mq19, .int 0, .null, .int 0, .int 0, .int 0, .null, .int 0, .int 0, .int 0, .null, .ref mq20, .int 0, .int 0, .long 0, .null, .null, .null, .null, .int 0, .int 0, .int 0, .int 0, .int 0, .int 0, .null, .long 0, .long 0, .long 0, .null, .null, .null, .int 0, .int 0, .int 0, .ref mq21, .null, .null])), (mq1, .inl (y 1, 4096, .inl (fun _ => 0)))]) hD hS hA [0, 1] rfl
    refine va_calli (va_runV (As := [.long z9, .int 5]) (rest := [.int 1]) ⟨hx, hb, hml, hown, hts⟩ (c_M_add_5 l D y H.size mo mq1 ((.int 0)) ((.ref mq2)) ((.int 0)) ((.ref mq3)) ((.int 0)) ((.ref mq4)) ((.ref mq5)) ((.ref mq6)) ((.int 0)) ((.ref mq7)) ((.ref mq8)) ((.ref mq9)) ((.int 0)) ((.ref mq10)) ((.ref mq11)) ((.ref mq12)) ((.ref mq13)) ((.ref mq14)) ((.int 0)) ((.ref mq15)) ((.ref mq16)) ((.long 0)) ((.ref mq17)) ((.ref mq18)) ((.ref mq19)) ((.int 0)) ((.null)) ((.int 0)) ((.int 0)) ((.int 0)) ((.null)) ((.int 0)) ((.int 0)) ((.int 0)) ((.null)) ((.ref mq20)) ((.int 0)) ((.int 0)) ((.long 0)) ((.null)) ((.null)) ((.null)) ((.null)) ((.int 0)) ((.int 0)) ((.int 0)) ((.int 0)) ((.int 0)) ((.int 0)) ((.null)) ((.long 0)) ((.long 0)) ((.long 0)) ((.null)) ((.null)) ((.null)) ((.int 0)) ((.int 0)) ((.int 0)) ((.ref mq21)) ((.null)) ((.null)) ((fun _ => 0)) z9) (cwV 2 hts gv_law_0_c_M_add_5_66 rfl rfl rfl (by decide +kernel) ⟨(Nat.le_of_ble_eq_true rfl), (Nat.le_of_ble_eq_true rfl)⟩) (zB.preV hPc hDc hK hN hE hO hT hG hS hFc (fun _ h => nomatch h) (fun _ h => nomatch h) (fun _ h => nomatch h) (fun _ h => nomatch h) (va_recv hK hPc (ci := 16) (q0 := 0) rfl rfl)) rfl rfl hl.1 rfl (lv_room (Nat.le_of_ble_eq_true rfl)) dL_law_181 ⟨(Nat.le_of_ble_eq_true rfl), (Nat.le_of_ble_eq_true rfl)⟩) hS (fun q _ h => hFc q h) hFc (fun r117 u t H1 locs ht hvm hw hB hz1 hk1 hS => ?_)
    obtain ⟨f118, hP1, hD1⟩ := hB
    rw [ht] at hP1
    obtain ⟨hP, hD⟩ := va_join (wr := [(x, .inr (15, [.ref aq1, .ref aq3, .ref aq5, .ref aq7, .ref aq9, .ref aq11, .ref aq16, .ref aq19, .ref aq22, .ref aq37, .ref aq55, .ref aq57, .ref aq59, .int 0, .null])), (aq1, .inr (4, [.ref aq2, .int 0, .int (nI 5)])), (aq2, .inl (y 0, 4096, .inl f105))]) (w1 := [(mo, .inr (16, [.int 0, .int 5, .ref mq1, .ref mq2, .int 0, .ref mq3, .int 0, .ref mq4, .ref mq5, .ref mq6, .int 0, .ref mq7, .ref mq8, .ref mq9, .int 0, .ref mq10, .ref mq11, .ref mq12, .ref mq13, .ref mq14, .int 0, .ref mq15, .ref mq16, .long 0, .ref mq17, .ref mq18, .ref mq19, .int 0, .null, .int 0, .int 0, .int 0, .null, .int 0, .int 0, .int 0, .null, .ref mq20, .int 0, .int 0, .long 0, .null, .null, .null, .null, .int 0, .int 0, .int 0, .int 0, .int 0, .int 0, .null, .long 0, .long 0, .long 0, .null, .null, .null, .int 0, .int 0, .int 0, .ref mq21, .null, .null])), (mq1, .inl (y 1, 4096, .inl f118))]) hP hD [0, 1] [2, 3, 4] rfl rfl (by decide) (by decide) hk1 hFc hP1 hD1
    generalize H1 = H at hP hS ⊢
    have hP : va_P D vwCl [(x, .inr (15, [.ref aq1, .ref aq3, .ref aq5, .ref aq7, .ref aq9, .ref aq11, .ref aq16, .ref aq19, .ref aq22, .ref aq37, .ref aq55, .ref aq57, .ref aq59, .int 0, .null])), (aq1, .inr (4, [.ref aq2, .int 0, .int (nI 5)])), (aq2, .inl (y 0, 4096, .inl f105)), (mo, .inr (16, [.int 0, .int 5, .ref mq1, .ref mq2, .int 0, .ref mq3, .int 0, .ref mq4, .ref mq5, .ref mq6, .int 0, .ref mq7, .ref mq8, .ref mq9, .int 0, .ref mq10, .ref mq11, .ref mq12, .ref mq13, .ref mq14, .int 0, .ref mq15, .ref mq16, .long 0, .ref mq17, .ref mq18, .ref mq19, .int 0, .null, .int 0, .int 0, .int 0, .null, .int 0, .int 0, .int 0, .null, .ref mq20, .int 0, .int 0, .long 0, .null, .null, .null, .null, .int 0, .int 0, .int 0, .int 0, .int 0, .int 0, .null, .long 0, .long 0, .long 0, .null, .null, .null, .int 0, .int 0, .int 0, .ref mq21, .null, .null])), (mq1, .inl (y 1, 4096, .inl f118))] H := hP
    have hD : va_D A [(x, .inr (15, [.ref aq1, .ref aq3, .ref aq5, .ref aq7, .ref aq9, .ref aq11, .ref aq16, .ref aq19, .ref aq22, .ref aq37, .ref aq55, .ref aq57, .ref aq59, .int 0, .null])), (aq1, .inr (4, [.ref aq2, .int 0, .int (nI 5)])), (aq2, .inl (y 0, 4096, .inl f105)), (mo, .inr (16, [.int 0, .int 5, .ref mq1, .ref mq2, .int 0, .ref mq3, .int 0, .ref mq4, .ref mq5, .ref mq6, .int 0, .ref mq7, .ref mq8, .ref mq9, .int 0, .ref mq10, .ref mq11, .ref mq12, .ref mq13, .ref mq14, .int 0, .ref mq15, .ref mq16, .long 0, .ref mq17, .ref mq18, .ref mq19, .int 0, .null, .int 0, .int 0, .int 0, .null, .int 0, .int 0, .int 0, .null, .ref mq20, .int 0, .int 0, .long 0, .null, .null, .null, .null, .int 0, .int 0, .int 0, .int 0, .int 0, .int 0, .null, .long 0, .long 0, .long 0, .null, .null, .null, .int 0, .int 0, .int 0, .ref mq21, .null, .null])), (mq1, .inl (y 1, 4096, .inl f118))] := hD
    have hw : r117 = 1 := hw
    subst hw
    refine lv_icmp_eq (tgt := 1017) hx hb dL_law_184 (by decide) (fun _ => ?_) (fun c9 => absurd (by decide) c9)
    refine lv_iinc (v := 6) (lv' := [(4, .int 6), (3, .ref o), (2, .ref mo), (1, .ref x), (0, .ref b)]) hx hb dL_law_1017 hl (k := 0) rfl (by decide) (by decide) rfl (fun ls hl => ?_)
    refine lv_goto (tgt := 23) hx hb dL_law_1020 (by decide) ?_
    refine lv_iload hx hb dL_law_23 (lv_at hl 0 rfl) ?_
    refine lv_aload_n hx hb dL_law_25 rfl (lv_at hl 4 rfl) ?_
    refine va_slen hx hb hX hbl hbA hS dL_law_26 ?_
    refine lv_bipush (v := 6) hx hb dL_law_27 (by decide) ?_
    refine lv_isub hx hb dL_law_29 ?_
    refine lv_topi (fun v119 ev119 => ?_)
    have ev119 : v119 = 0 := ev119.trans (by decide +kernel)
    subst ev119
    refine lv_icmp_gt (tgt := 1023) hx hb dL_law_30 (by decide) (fun _ => ?_) (fun c9 => absurd (by decide) c9)
    refine lv_iconst (v := 1) hx hb dL_law_1023 (by decide) ?_
    refine va_forget (fun q hq => hAf _ (hS.2.2 q hq)) ?_
    refine W.widen (k := 600002) (n := 7302232) (Nat.le_of_ble_eq_true rfl) (Nat.le_of_ble_eq_true rfl) ?_
    exact lw_ret hx hb hr hlocks dL_law_1024
  · subst h1
    have hPc := hP.sub (ws' := [(x, .inr (15, [.ref aq1, .ref aq3, .ref aq5, .ref aq7, .ref aq9, .ref aq11, .ref aq16, .ref aq19, .ref aq22, .ref aq37, .ref aq55, .ref aq57, .ref aq59, .int 0, .null])), (aq1, .inr (4, [.ref aq2, .int 0, .int 0])), (aq2, .inl (y 0, 4096, .inl (fun _ => 0)))]) [0, 1, 2] rfl
    have hDc := hD.sub (ws' := [(x, .inr (15, [.ref aq1, .ref aq3, .ref aq5, .ref aq7, .ref aq9, .ref aq11, .ref aq16, .ref aq19, .ref aq22, .ref aq37, .ref aq55, .ref aq57, .ref aq59, .int 0, .null])), (aq1, .inr (4, [.ref aq2, .int 0, .int 0])), (aq2, .inl (y 0, 4096, .inl (fun _ => 0)))]) [0, 1, 2] (by decide) rfl
    have hFc := va_free (wc := [(x, .inr (15, [.ref aq1, .ref aq3, .ref aq5, .ref aq7, .ref aq9, .ref aq11, .ref aq16, .ref aq19, .ref aq22, .ref aq37, .ref aq55, .ref aq57, .ref aq59, .int 0, .null])), (aq1, .inr (4, [.ref aq2, .int 0, .int 0])), (aq2, .inl (y 0, 4096, .inl (fun _ => 0)))]) hD hS hA [0, 1, 2] rfl
    refine va_calli (va_runV (As := [.long z9, .int 6]) (rest := []) ⟨hx, hb, hml, hown, hts⟩ (c_X11_add_6 l D y H.size x aq1 aq2 ((.ref aq3)) ((.ref aq5)) ((.ref aq7)) ((.ref aq9)) ((.ref aq11)) ((.ref aq16)) ((.ref aq19)) ((.ref aq22)) ((.ref aq37)) ((.ref aq55)) ((.ref aq57)) ((.ref aq59)) ((.int 0)) ((.null)) ((.int 0)) ((fun _ => 0)) z9) (cwV 2 hts gv_law_0_c_X11_add_6_62 rfl rfl rfl (by decide +kernel) ⟨(Nat.le_of_ble_eq_true rfl), (Nat.le_of_ble_eq_true rfl)⟩) (zB.preV hPc hDc hK hN hE hO hT hG hS hFc (fun _ h => nomatch h) (fun _ h => nomatch h) (fun _ h => nomatch h) (fun _ h => nomatch h) (va_recv hK hPc (ci := 15) (q0 := 0) rfl rfl)) rfl rfl hl.1 rfl (lv_room (Nat.le_of_ble_eq_true rfl)) dL_law_149 ⟨(Nat.le_of_ble_eq_true rfl), (Nat.le_of_ble_eq_true rfl)⟩) hS (fun q _ h => hFc q h) hFc (fun r120 u t H1 locs ht hvm hw hB hz1 hk1 hS => ?_)
    obtain ⟨f121, hP1, hD1⟩ := hB
    rw [ht] at hP1
    obtain ⟨hP, hD⟩ := va_join (wr := [(mo, .inr (16, [.int 0, .int 0, .ref mq1, .ref mq2, .int 0, .ref mq3, .int 0, .ref mq4, .ref mq5, .ref mq6, .int 0, .ref mq7, .ref mq8, .ref mq9, .int 0, .ref mq10, .ref mq11, .ref mq12, .ref mq13, .ref mq14, .int 0, .ref mq15, .ref mq16, .long 0, .ref mq17, .ref mq18, .ref mq19, .int 0, .null, .int 0, .int 0, .int 0, .null, .int 0, .int 0, .int 0, .null, .ref mq20, .int 0, .int 0, .long 0, .null, .null, .null, .null, .int 0, .int 0, .int 0, .int 0, .int 0, .int 0, .null, .long 0, .long 0, .long 0, .null, .null, .null, .int 0, .int 0, .int 0, .ref mq21, .null, .null])), (mq1, .inl (y 1, 4096, .inl (fun _ => 0)))]) (w1 := [(x, .inr (15, [.ref aq1, .ref aq3, .ref aq5, .ref aq7, .ref aq9, .ref aq11, .ref aq16, .ref aq19, .ref aq22, .ref aq37, .ref aq55, .ref aq57, .ref aq59, .int 0, .null])), (aq1, .inr (4, [.ref aq2, .int 0, .int (nI 6)])), (aq2, .inl (y 0, 4096, .inl f121))]) hP hD [0, 1, 2] [3, 4] rfl rfl (by decide) (by decide) hk1 hFc hP1 hD1
    generalize H1 = H at hP hS ⊢
    have hP : va_P D vwCl [(mo, .inr (16, [.int 0, .int 0, .ref mq1, .ref mq2, .int 0, .ref mq3, .int 0, .ref mq4, .ref mq5, .ref mq6, .int 0, .ref mq7, .ref mq8, .ref mq9, .int 0, .ref mq10, .ref mq11, .ref mq12, .ref mq13, .ref mq14, .int 0, .ref mq15, .ref mq16, .long 0, .ref mq17, .ref mq18, .ref mq19, .int 0, .null, .int 0, .int 0, .int 0, .null, .int 0, .int 0, .int 0, .null, .ref mq20, .int 0, .int 0, .long 0, .null, .null, .null, .null, .int 0, .int 0, .int 0, .int 0, .int 0, .int 0, .null, .long 0, .long 0, .long 0, .null, .null, .null, .int 0, .int 0, .int 0, .ref mq21, .null, .null])), (mq1, .inl (y 1, 4096, .inl (fun _ => 0))), (x, .inr (15, [.ref aq1, .ref aq3, .ref aq5, .ref aq7, .ref aq9, .ref aq11, .ref aq16, .ref aq19, .ref aq22, .ref aq37, .ref aq55, .ref aq57, .ref aq59, .int 0, .null])), (aq1, .inr (4, [.ref aq2, .int 0, .int (nI 6)])), (aq2, .inl (y 0, 4096, .inl f121))] H := hP
    have hD : va_D A [(mo, .inr (16, [.int 0, .int 0, .ref mq1, .ref mq2, .int 0, .ref mq3, .int 0, .ref mq4, .ref mq5, .ref mq6, .int 0, .ref mq7, .ref mq8, .ref mq9, .int 0, .ref mq10, .ref mq11, .ref mq12, .ref mq13, .ref mq14, .int 0, .ref mq15, .ref mq16, .long 0, .ref mq17, .ref mq18, .ref mq19, .int 0, .null, .int 0, .int 0, .int 0, .null, .int 0, .int 0, .int 0, .null, .ref mq20, .int 0, .int 0, .long 0, .null, .null, .null, .null, .int 0, .int 0, .int 0, .int 0, .int 0, .int 0, .null, .long 0, .long 0, .long 0, .null, .null, .null, .int 0, .int 0, .int 0, .ref mq21, .null, .null])), (mq1, .inl (y 1, 4096, .inl (fun _ => 0))), (x, .inr (15, [.ref aq1, .ref aq3, .ref aq5, .ref aq7, .ref aq9, .ref aq11, .ref aq16, .ref aq19, .ref aq22, .ref aq37, .ref aq55, .ref aq57, .ref aq59, .int 0, .null])), (aq1, .inr (4, [.ref aq2, .int 0, .int (nI 6)])), (aq2, .inl (y 0, 4096, .inl f121))] := hD
    have hw : r120 = 1 := hw
    subst hw
    refine lv_aload_n hx hb dL_law_152 rfl (lv_at hl 2 rfl) ?_
    refine lv_aload_n hx hb dL_law_153 rfl (lv_at hl 4 rfl) ?_
    refine lv_iload hx hb dL_law_154 (lv_at hl 0 rfl) ?_
    refine lv_iconst (v := 1) hx hb dL_law_156 (by decide) ?_
    refine lv_iadd hx hb dL_law_157 ?_
    refine lv_topi (fun v122 ev122 => ?_)
    have ev122 : v122 = 1 := ev122.trans (by decide +kernel)
    subst ev122
    refine va_sld hx hb hX hbl hbA hS (by unfold vp_in; decide) dL_law_158 ?_
    refine lv_topi (fun x123 ex123 => ?_)
    have fx123 : x2 = x123 := ex2.trans ex123.symm
    subst fx123
    refine lv_i2l hx hb dL_law_159 rfl ?_
    refine lv_topl (fun z124 ez124 => ?_)
    have fz124 : z3 = z124 := ez3.trans ez124.symm
    subst fz124
    refine lv_bipush (v := 32) hx hb dL_law_160 (by decide) ?_
    refine lv_lshl hx hb dL_law_162 rfl ?_
    refine lv_topl (fun z125 ez125 => ?_)
    have fz125 : z4 = z125 := ez4.trans ez125.symm
    subst fz125
    refine lv_aload_n hx hb dL_law_163 rfl (lv_at hl 4 rfl) ?_
    refine lv_iload hx hb dL_law_164 (lv_at hl 0 rfl) ?_
    refine lv_iconst (v := 2) hx hb dL_law_166 (by decide) ?_
    refine lv_iadd hx hb dL_law_167 ?_
    refine lv_topi (fun v126 ev126 => ?_)
    have ev126 : v126 = 2 := ev126.trans (by decide +kernel)
    subst ev126
    refine va_sld hx hb hX hbl hbA hS (by unfold vp_in; decide) dL_law_168 ?_
    refine lv_topi (fun x127 ex127 => ?_)
    have fx127 : x6 = x127 := ex6.trans ex127.symm
    subst fx127
    refine lv_i2l hx hb dL_law_169 rfl ?_
    refine lv_topl (fun z128 ez128 => ?_)
    have fz128 : z7 = z128 := ez7.trans ez128.symm
    subst fz128
    refine lv_ldc2 (v := 4294967295) hx hb hown (hts (.constantLong RL 60 4294967295) (by decide +kernel)) dL_law_170 ?_
    refine lv_land hx hb dL_law_173 ?_
    refine lv_topl (fun z129 ez129 => ?_)
    have fz129 : z8 = z129 := ez8.trans ez129.symm
    subst fz129
    refine lv_lor hx hb dL_law_174 ?_
    refine lv_topl (fun z130 ez130 => ?_)
    have fz130 : z9 = z130 := ez9.trans ez130.symm
    subst fz130
    refine lv_aload_n hx hb dL_law_175 rfl (lv_at hl 4 rfl) ?_
    refine lv_iload hx hb dL_law_176 (lv_at hl 0 rfl) ?_
    refine lv_iconst (v := 3) hx hb dL_law_178 (by decide) ?_
    refine lv_iadd hx hb dL_law_179 ?_
    refine lv_topi (fun v131 ev131 => ?_)
    have ev131 : v131 = 3 := ev131.trans (by decide +kernel)
    subst ev131
    refine va_sld hx hb hX hbl hbA hS (by unfold vp_in; decide) dL_law_180 ?_
    refine lv_topi (fun x132 ex132 => ?_)
    have fx132 : 6 = x132 := ex11.trans ex132.symm
    subst fx132
    have hPc := hP.sub (ws' := [(mo, .inr (16, [.int 0, .int 0, .ref mq1, .ref mq2, .int 0, .ref mq3, .int 0, .ref mq4, .ref mq5, .ref mq6, .int 0, .ref mq7, .ref mq8, .ref mq9, .int 0, .ref mq10, .ref mq11, .ref mq12, .ref mq13, .ref mq14, .int 0, .ref mq15, .ref mq16, .long 0, .ref mq17, .ref mq18, .ref mq19, .int 0, .null, .int 0, .int 0, .int 0, .null, .int 0, .int 0, .int 0, .null, .ref mq20, .int 0, .int 0, .long 0, .null, .null, .null, .null, .int 0, .int 0, .int 0, .int 0, .int 0, .int 0, .null, .long 0, .long 0, .long 0, .null, .null, .null, .int 0, .int 0, .int 0, .ref mq21, .null, .null])), (mq1, .inl (y 1, 4096, .inl (fun _ => 0)))]) [0, 1] rfl
    have hDc := hD.sub (ws' := [(mo, .inr (16, [.int 0, .int 0, .ref mq1, .ref mq2, .int 0, .ref mq3, .int 0, .ref mq4, .ref mq5, .ref mq6, .int 0, .ref mq7, .ref mq8, .ref mq9, .int 0, .ref mq10, .ref mq11, .ref mq12, .ref mq13, .ref mq14, .int 0, .ref mq15, .ref mq16, .long 0, .ref mq17, .ref mq18, .ref mq19, .int 0, .null, .int 0, .int 0, .int 0, .null, .int 0, .int 0, .int 0, .null, .ref mq20, .int 0, .int 0, .long 0, .null, .null, .null, .null, .int 0, .int 0, .int 0, .int 0, .int 0, .int 0, .null, .long 0, .long 0, .long 0, .null, .null, .null, .int 0, .int 0, .int 0, .ref mq21, .null, .null])), (mq1, .inl (y 1, 4096, .inl (fun _ => 0)))]) [0, 1] (by decide) rfl
    have hFc := va_free (wc := [(mo, .inr (16, [.int 0, .int 0, .ref mq1, .ref mq2, .int 0, .ref mq3, .int 0, .ref mq4, .ref mq5, .ref mq6, .int 0, .ref mq7, .ref mq8, .ref mq9, .int 0, .ref mq10, .ref mq11, .ref mq12, .ref mq13, .ref mq14, .int 0, .ref mq15, .ref mq16, .long 0, .ref mq17, .ref mq18, .ref mq19, .int 0, .null, .int 0, .int 0, .int 0, .null, .int 0, .int 0, .int 0, .null, .ref mq20, .int 0, .int 0, .long 0, .null, .null, .null, .null, .int 0, .int 0, .int 0, .int 0, .int 0, .int 0, .null, .long 0, .long 0, .long 0, .null, .null, .null, .int 0, .int 0, .int 0, .ref mq21, .null, .null])), (mq1, .inl (y 1, 4096, .inl (fun _ => 0)))]) hD hS hA [0, 1] rfl
    refine va_calli (va_runV (As := [.long z9, .int 6]) (rest := [.int 1]) ⟨hx, hb, hml, hown, hts⟩ (c_M_add_6 l D y H.size mo mq1 ((.int 0)) ((.ref mq2)) ((.int 0)) ((.ref mq3)) ((.int 0)) ((.ref mq4)) ((.ref mq5)) ((.ref mq6)) ((.int 0)) ((.ref mq7)) ((.ref mq8)) ((.ref mq9)) ((.int 0)) ((.ref mq10)) ((.ref mq11)) ((.ref mq12)) ((.ref mq13)) ((.ref mq14)) ((.int 0)) ((.ref mq15)) ((.ref mq16)) ((.long 0)) ((.ref mq17)) ((.ref mq18)) ((.ref mq19)) ((.int 0)) ((.null)) ((.int 0)) ((.int 0)) ((.int 0)) ((.null)) ((.int 0)) ((.int 0)) ((.int 0)) ((.null)) ((.ref mq20)) ((.int 0)) ((.int 0)) ((.long 0)) ((.null)) ((.null)) ((.null)) ((.null)) ((.int 0)) ((.int 0)) ((.int 0)) ((.int 0)) ((.int 0)) ((.int 0)) ((.null)) ((.long 0)) ((.long 0)) ((.long 0)) ((.null)) ((.null)) ((.null)) ((.int 0)) ((.int 0)) ((.int 0)) ((.ref mq21)) ((.null)) ((.null)) ((fun _ => 0)) z9) (cwV 2 hts gv_law_0_c_M_add_6_66 rfl rfl rfl (by decide +kernel) ⟨(Nat.le_of_ble_eq_true rfl), (Nat.le_of_ble_eq_true rfl)⟩) (zB.preV hPc hDc hK hN hE hO hT hG hS hFc (fun _ h => nomatch h) (fun _ h => nomatch h) (fun _ h => nomatch h) (fun _ h => nomatch h) (va_recv hK hPc (ci := 16) (q0 := 0) rfl rfl)) rfl rfl hl.1 rfl (lv_room (Nat.le_of_ble_eq_true rfl)) dL_law_181 ⟨(Nat.le_of_ble_eq_true rfl), (Nat.le_of_ble_eq_true rfl)⟩) hS (fun q _ h => hFc q h) hFc (fun r133 u t H1 locs ht hvm hw hB hz1 hk1 hS => ?_)
    obtain ⟨f134, hP1, hD1⟩ := hB
    rw [ht] at hP1
    obtain ⟨hP, hD⟩ := va_join (wr := [(x, .inr (15, [.ref aq1, .ref aq3, .ref aq5, .ref aq7, .ref aq9, .ref aq11, .ref aq16, .ref aq19, .ref aq22, .ref aq37, .ref aq55, .ref aq57, .ref aq59, .int 0, .null])), (aq1, .inr (4, [.ref aq2, .int 0, .int (nI 6)])), (aq2, .inl (y 0, 4096, .inl f121))]) (w1 := [(mo, .inr (16, [.int 0, .int 6, .ref mq1, .ref mq2, .int 0, .ref mq3, .int 0, .ref mq4, .ref mq5, .ref mq6, .int 0, .ref mq7, .ref mq8, .ref mq9, .int 0, .ref mq10, .ref mq11, .ref mq12, .ref mq13, .ref mq14, .int 0, .ref mq15, .ref mq16, .long 0, .ref mq17, .ref mq18, .ref mq19, .int 0, .null, .int 0, .int 0, .int 0, .null, .int 0, .int 0, .int 0, .null, .ref mq20, .int 0, .int 0, .long 0, .null, .null, .null, .null, .int 0, .int 0, .int 0, .int 0, .int 0, .int 0, .null, .long 0, .long 0, .long 0, .null, .null, .null, .int 0, .int 0, .int 0, .ref mq21, .null, .null])), (mq1, .inl (y 1, 4096, .inl f134))]) hP hD [0, 1] [2, 3, 4] rfl rfl (by decide) (by decide) hk1 hFc hP1 hD1
    generalize H1 = H at hP hS ⊢
    have hP : va_P D vwCl [(x, .inr (15, [.ref aq1, .ref aq3, .ref aq5, .ref aq7, .ref aq9, .ref aq11, .ref aq16, .ref aq19, .ref aq22, .ref aq37, .ref aq55, .ref aq57, .ref aq59, .int 0, .null])), (aq1, .inr (4, [.ref aq2, .int 0, .int (nI 6)])), (aq2, .inl (y 0, 4096, .inl f121)), (mo, .inr (16, [.int 0, .int 6, .ref mq1, .ref mq2, .int 0, .ref mq3, .int 0, .ref mq4, .ref mq5, .ref mq6, .int 0, .ref mq7, .ref mq8, .ref mq9, .int 0, .ref mq10, .ref mq11, .ref mq12, .ref mq13, .ref mq14, .int 0, .ref mq15, .ref mq16, .long 0, .ref mq17, .ref mq18, .ref mq19, .int 0, .null, .int 0, .int 0, .int 0, .null, .int 0, .int 0, .int 0, .null, .ref mq20, .int 0, .int 0, .long 0, .null, .null, .null, .null, .int 0, .int 0, .int 0, .int 0, .int 0, .int 0, .null, .long 0, .long 0, .long 0, .null, .null, .null, .int 0, .int 0, .int 0, .ref mq21, .null, .null])), (mq1, .inl (y 1, 4096, .inl f134))] H := hP
    have hD : va_D A [(x, .inr (15, [.ref aq1, .ref aq3, .ref aq5, .ref aq7, .ref aq9, .ref aq11, .ref aq16, .ref aq19, .ref aq22, .ref aq37, .ref aq55, .ref aq57, .ref aq59, .int 0, .null])), (aq1, .inr (4, [.ref aq2, .int 0, .int (nI 6)])), (aq2, .inl (y 0, 4096, .inl f121)), (mo, .inr (16, [.int 0, .int 6, .ref mq1, .ref mq2, .int 0, .ref mq3, .int 0, .ref mq4, .ref mq5, .ref mq6, .int 0, .ref mq7, .ref mq8, .ref mq9, .int 0, .ref mq10, .ref mq11, .ref mq12, .ref mq13, .ref mq14, .int 0, .ref mq15, .ref mq16, .long 0, .ref mq17, .ref mq18, .ref mq19, .int 0, .null, .int 0, .int 0, .int 0, .null, .int 0, .int 0, .int 0, .null, .ref mq20, .int 0, .int 0, .long 0, .null, .null, .null, .null, .int 0, .int 0, .int 0, .int 0, .int 0, .int 0, .null, .long 0, .long 0, .long 0, .null, .null, .null, .int 0, .int 0, .int 0, .ref mq21, .null, .null])), (mq1, .inl (y 1, 4096, .inl f134))] := hD
    have hw : r133 = 1 := hw
    subst hw
    refine lv_icmp_eq (tgt := 1017) hx hb dL_law_184 (by decide) (fun _ => ?_) (fun c9 => absurd (by decide) c9)
    refine lv_iinc (v := 6) (lv' := [(4, .int 6), (3, .ref o), (2, .ref mo), (1, .ref x), (0, .ref b)]) hx hb dL_law_1017 hl (k := 0) rfl (by decide) (by decide) rfl (fun ls hl => ?_)
    refine lv_goto (tgt := 23) hx hb dL_law_1020 (by decide) ?_
    refine lv_iload hx hb dL_law_23 (lv_at hl 0 rfl) ?_
    refine lv_aload_n hx hb dL_law_25 rfl (lv_at hl 4 rfl) ?_
    refine va_slen hx hb hX hbl hbA hS dL_law_26 ?_
    refine lv_bipush (v := 6) hx hb dL_law_27 (by decide) ?_
    refine lv_isub hx hb dL_law_29 ?_
    refine lv_topi (fun v135 ev135 => ?_)
    have ev135 : v135 = 0 := ev135.trans (by decide +kernel)
    subst ev135
    refine lv_icmp_gt (tgt := 1023) hx hb dL_law_30 (by decide) (fun _ => ?_) (fun c9 => absurd (by decide) c9)
    refine lv_iconst (v := 1) hx hb dL_law_1023 (by decide) ?_
    refine va_forget (fun q hq => hAf _ (hS.2.2 q hq)) ?_
    refine W.widen (k := 600002) (n := 7302232) (Nat.le_of_ble_eq_true rfl) (Nat.le_of_ble_eq_true rfl) ?_
    exact lw_ret hx hb hr hlocks dL_law_1024
  · subst h1
    have hPc := hP.sub (ws' := [(x, .inr (15, [.ref aq1, .ref aq3, .ref aq5, .ref aq7, .ref aq9, .ref aq11, .ref aq16, .ref aq19, .ref aq22, .ref aq37, .ref aq55, .ref aq57, .ref aq59, .int 0, .null])), (aq1, .inr (4, [.ref aq2, .int 0, .int 0])), (aq2, .inl (y 0, 4096, .inl (fun _ => 0)))]) [0, 1, 2] rfl
    have hDc := hD.sub (ws' := [(x, .inr (15, [.ref aq1, .ref aq3, .ref aq5, .ref aq7, .ref aq9, .ref aq11, .ref aq16, .ref aq19, .ref aq22, .ref aq37, .ref aq55, .ref aq57, .ref aq59, .int 0, .null])), (aq1, .inr (4, [.ref aq2, .int 0, .int 0])), (aq2, .inl (y 0, 4096, .inl (fun _ => 0)))]) [0, 1, 2] (by decide) rfl
    have hFc := va_free (wc := [(x, .inr (15, [.ref aq1, .ref aq3, .ref aq5, .ref aq7, .ref aq9, .ref aq11, .ref aq16, .ref aq19, .ref aq22, .ref aq37, .ref aq55, .ref aq57, .ref aq59, .int 0, .null])), (aq1, .inr (4, [.ref aq2, .int 0, .int 0])), (aq2, .inl (y 0, 4096, .inl (fun _ => 0)))]) hD hS hA [0, 1, 2] rfl
    refine va_calli (va_runV (As := [.long z9, .int 7]) (rest := []) ⟨hx, hb, hml, hown, hts⟩ (c_X11_add_7 l D y H.size x aq1 aq2 ((.ref aq3)) ((.ref aq5)) ((.ref aq7)) ((.ref aq9)) ((.ref aq11)) ((.ref aq16)) ((.ref aq19)) ((.ref aq22)) ((.ref aq37)) ((.ref aq55)) ((.ref aq57)) ((.ref aq59)) ((.int 0)) ((.null)) ((.int 0)) ((fun _ => 0)) z9) (cwV 2 hts gv_law_0_c_X11_add_7_62 rfl rfl rfl (by decide +kernel) ⟨(Nat.le_of_ble_eq_true rfl), (Nat.le_of_ble_eq_true rfl)⟩) (zB.preV hPc hDc hK hN hE hO hT hG hS hFc (fun _ h => nomatch h) (fun _ h => nomatch h) (fun _ h => nomatch h) (fun _ h => nomatch h) (va_recv hK hPc (ci := 15) (q0 := 0) rfl rfl)) rfl rfl hl.1 rfl (lv_room (Nat.le_of_ble_eq_true rfl)) dL_law_149 ⟨(Nat.le_of_ble_eq_true rfl), (Nat.le_of_ble_eq_true rfl)⟩) hS (fun q _ h => hFc q h) hFc (fun r136 u t H1 locs ht hvm hw hB hz1 hk1 hS => ?_)
    obtain ⟨f137, hP1, hD1⟩ := hB
    rw [ht] at hP1
    obtain ⟨hP, hD⟩ := va_join (wr := [(mo, .inr (16, [.int 0, .int 0, .ref mq1, .ref mq2, .int 0, .ref mq3, .int 0, .ref mq4, .ref mq5, .ref mq6, .int 0, .ref mq7, .ref mq8, .ref mq9, .int 0, .ref mq10, .ref mq11, .ref mq12, .ref mq13, .ref mq14, .int 0, .ref mq15, .ref mq16, .long 0, .ref mq17, .ref mq18, .ref mq19, .int 0, .null, .int 0, .int 0, .int 0, .null, .int 0, .int 0, .int 0, .null, .ref mq20, .int 0, .int 0, .long 0, .null, .null, .null, .null, .int 0, .int 0, .int 0, .int 0, .int 0, .int 0, .null, .long 0, .long 0, .long 0, .null, .null, .null, .int 0, .int 0, .int 0, .ref mq21, .null, .null])), (mq1, .inl (y 1, 4096, .inl (fun _ => 0)))]) (w1 := [(x, .inr (15, [.ref aq1, .ref aq3, .ref aq5, .ref aq7, .ref aq9, .ref aq11, .ref aq16, .ref aq19, .ref aq22, .ref aq37, .ref aq55, .ref aq57, .ref aq59, .int 0, .null])), (aq1, .inr (4, [.ref aq2, .int 0, .int (nI 7)])), (aq2, .inl (y 0, 4096, .inl f137))]) hP hD [0, 1, 2] [3, 4] rfl rfl (by decide) (by decide) hk1 hFc hP1 hD1
    generalize H1 = H at hP hS ⊢
    have hP : va_P D vwCl [(mo, .inr (16, [.int 0, .int 0, .ref mq1, .ref mq2, .int 0, .ref mq3, .int 0, .ref mq4, .ref mq5, .ref mq6, .int 0, .ref mq7, .ref mq8, .ref mq9, .int 0, .ref mq10, .ref mq11, .ref mq12, .ref mq13, .ref mq14, .int 0, .ref mq15, .ref mq16, .long 0, .ref mq17, .ref mq18, .ref mq19, .int 0, .null, .int 0, .int 0, .int 0, .null, .int 0, .int 0, .int 0, .null, .ref mq20, .int 0, .int 0, .long 0, .null, .null, .null, .null, .int 0, .int 0, .int 0, .int 0, .int 0, .int 0, .null, .long 0, .long 0, .long 0, .null, .null, .null, .int 0, .int 0, .int 0, .ref mq21, .null, .null])), (mq1, .inl (y 1, 4096, .inl (fun _ => 0))), (x, .inr (15, [.ref aq1, .ref aq3, .ref aq5, .ref aq7, .ref aq9, .ref aq11, .ref aq16, .ref aq19, .ref aq22, .ref aq37, .ref aq55, .ref aq57, .ref aq59, .int 0, .null])), (aq1, .inr (4, [.ref aq2, .int 0, .int (nI 7)])), (aq2, .inl (y 0, 4096, .inl f137))] H := hP
    have hD : va_D A [(mo, .inr (16, [.int 0, .int 0, .ref mq1, .ref mq2, .int 0, .ref mq3, .int 0, .ref mq4, .ref mq5, .ref mq6, .int 0, .ref mq7, .ref mq8, .ref mq9, .int 0, .ref mq10, .ref mq11, .ref mq12, .ref mq13, .ref mq14, .int 0, .ref mq15, .ref mq16, .long 0, .ref mq17, .ref mq18, .ref mq19, .int 0, .null, .int 0, .int 0, .int 0, .null, .int 0, .int 0, .int 0, .null, .ref mq20, .int 0, .int 0, .long 0, .null, .null, .null, .null, .int 0, .int 0, .int 0, .int 0, .int 0, .int 0, .null, .long 0, .long 0, .long 0, .null, .null, .null, .int 0, .int 0, .int 0, .ref mq21, .null, .null])), (mq1, .inl (y 1, 4096, .inl (fun _ => 0))), (x, .inr (15, [.ref aq1, .ref aq3, .ref aq5, .ref aq7, .ref aq9, .ref aq11, .ref aq16, .ref aq19, .ref aq22, .ref aq37, .ref aq55, .ref aq57, .ref aq59, .int 0, .null])), (aq1, .inr (4, [.ref aq2, .int 0, .int (nI 7)])), (aq2, .inl (y 0, 4096, .inl f137))] := hD
    have hw : r136 = 1 := hw
    subst hw
    refine lv_aload_n hx hb dL_law_152 rfl (lv_at hl 2 rfl) ?_
    refine lv_aload_n hx hb dL_law_153 rfl (lv_at hl 4 rfl) ?_
    refine lv_iload hx hb dL_law_154 (lv_at hl 0 rfl) ?_
    refine lv_iconst (v := 1) hx hb dL_law_156 (by decide) ?_
    refine lv_iadd hx hb dL_law_157 ?_
    refine lv_topi (fun v138 ev138 => ?_)
    have ev138 : v138 = 1 := ev138.trans (by decide +kernel)
    subst ev138
    refine va_sld hx hb hX hbl hbA hS (by unfold vp_in; decide) dL_law_158 ?_
    refine lv_topi (fun x139 ex139 => ?_)
    have fx139 : x2 = x139 := ex2.trans ex139.symm
    subst fx139
    refine lv_i2l hx hb dL_law_159 rfl ?_
    refine lv_topl (fun z140 ez140 => ?_)
    have fz140 : z3 = z140 := ez3.trans ez140.symm
    subst fz140
    refine lv_bipush (v := 32) hx hb dL_law_160 (by decide) ?_
    refine lv_lshl hx hb dL_law_162 rfl ?_
    refine lv_topl (fun z141 ez141 => ?_)
    have fz141 : z4 = z141 := ez4.trans ez141.symm
    subst fz141
    refine lv_aload_n hx hb dL_law_163 rfl (lv_at hl 4 rfl) ?_
    refine lv_iload hx hb dL_law_164 (lv_at hl 0 rfl) ?_
    refine lv_iconst (v := 2) hx hb dL_law_166 (by decide) ?_
    refine lv_iadd hx hb dL_law_167 ?_
    refine lv_topi (fun v142 ev142 => ?_)
    have ev142 : v142 = 2 := ev142.trans (by decide +kernel)
    subst ev142
    refine va_sld hx hb hX hbl hbA hS (by unfold vp_in; decide) dL_law_168 ?_
    refine lv_topi (fun x143 ex143 => ?_)
    have fx143 : x6 = x143 := ex6.trans ex143.symm
    subst fx143
    refine lv_i2l hx hb dL_law_169 rfl ?_
    refine lv_topl (fun z144 ez144 => ?_)
    have fz144 : z7 = z144 := ez7.trans ez144.symm
    subst fz144
    refine lv_ldc2 (v := 4294967295) hx hb hown (hts (.constantLong RL 60 4294967295) (by decide +kernel)) dL_law_170 ?_
    refine lv_land hx hb dL_law_173 ?_
    refine lv_topl (fun z145 ez145 => ?_)
    have fz145 : z8 = z145 := ez8.trans ez145.symm
    subst fz145
    refine lv_lor hx hb dL_law_174 ?_
    refine lv_topl (fun z146 ez146 => ?_)
    have fz146 : z9 = z146 := ez9.trans ez146.symm
    subst fz146
    refine lv_aload_n hx hb dL_law_175 rfl (lv_at hl 4 rfl) ?_
    refine lv_iload hx hb dL_law_176 (lv_at hl 0 rfl) ?_
    refine lv_iconst (v := 3) hx hb dL_law_178 (by decide) ?_
    refine lv_iadd hx hb dL_law_179 ?_
    refine lv_topi (fun v147 ev147 => ?_)
    have ev147 : v147 = 3 := ev147.trans (by decide +kernel)
    subst ev147
    refine va_sld hx hb hX hbl hbA hS (by unfold vp_in; decide) dL_law_180 ?_
    refine lv_topi (fun x148 ex148 => ?_)
    have fx148 : 7 = x148 := ex11.trans ex148.symm
    subst fx148
    have hPc := hP.sub (ws' := [(mo, .inr (16, [.int 0, .int 0, .ref mq1, .ref mq2, .int 0, .ref mq3, .int 0, .ref mq4, .ref mq5, .ref mq6, .int 0, .ref mq7, .ref mq8, .ref mq9, .int 0, .ref mq10, .ref mq11, .ref mq12, .ref mq13, .ref mq14, .int 0, .ref mq15, .ref mq16, .long 0, .ref mq17, .ref mq18, .ref mq19, .int 0, .null, .int 0, .int 0, .int 0, .null, .int 0, .int 0, .int 0, .null, .ref mq20, .int 0, .int 0, .long 0, .null, .null, .null, .null, .int 0, .int 0, .int 0, .int 0, .int 0, .int 0, .null, .long 0, .long 0, .long 0, .null, .null, .null, .int 0, .int 0, .int 0, .ref mq21, .null, .null])), (mq1, .inl (y 1, 4096, .inl (fun _ => 0)))]) [0, 1] rfl
    have hDc := hD.sub (ws' := [(mo, .inr (16, [.int 0, .int 0, .ref mq1, .ref mq2, .int 0, .ref mq3, .int 0, .ref mq4, .ref mq5, .ref mq6, .int 0, .ref mq7, .ref mq8, .ref mq9, .int 0, .ref mq10, .ref mq11, .ref mq12, .ref mq13, .ref mq14, .int 0, .ref mq15, .ref mq16, .long 0, .ref mq17, .ref mq18, .ref mq19, .int 0, .null, .int 0, .int 0, .int 0, .null, .int 0, .int 0, .int 0, .null, .ref mq20, .int 0, .int 0, .long 0, .null, .null, .null, .null, .int 0, .int 0, .int 0, .int 0, .int 0, .int 0, .null, .long 0, .long 0, .long 0, .null, .null, .null, .int 0, .int 0, .int 0, .ref mq21, .null, .null])), (mq1, .inl (y 1, 4096, .inl (fun _ => 0)))]) [0, 1] (by decide) rfl
    have hFc := va_free (wc := [(mo, .inr (16, [.int 0, .int 0, .ref mq1, .ref mq2, .int 0, .ref mq3, .int 0, .ref mq4, .ref mq5, .ref mq6, .int 0, .ref mq7, .ref mq8, .ref mq9, .int 0, .ref mq10, .ref mq11, .ref mq12, .ref mq13, .ref mq14, .int 0, .ref mq15, .ref mq16, .long 0, .ref mq17, .ref mq18, .ref mq19, .int 0, .null, .int 0, .int 0, .int 0, .null, .int 0, .int 0, .int 0, .null, .ref mq20, .int 0, .int 0, .long 0, .null, .null, .null, .null, .int 0, .int 0, .int 0, .int 0, .int 0, .int 0, .null, .long 0, .long 0, .long 0, .null, .null, .null, .int 0, .int 0, .int 0, .ref mq21, .null, .null])), (mq1, .inl (y 1, 4096, .inl (fun _ => 0)))]) hD hS hA [0, 1] rfl
    refine va_calli (va_runV (As := [.long z9, .int 7]) (rest := [.int 1]) ⟨hx, hb, hml, hown, hts⟩ (c_M_add_7 l D y H.size mo mq1 ((.int 0)) ((.ref mq2)) ((.int 0)) ((.ref mq3)) ((.int 0)) ((.ref mq4)) ((.ref mq5)) ((.ref mq6)) ((.int 0)) ((.ref mq7)) ((.ref mq8)) ((.ref mq9)) ((.int 0)) ((.ref mq10)) ((.ref mq11)) ((.ref mq12)) ((.ref mq13)) ((.ref mq14)) ((.int 0)) ((.ref mq15)) ((.ref mq16)) ((.long 0)) ((.ref mq17)) ((.ref mq18)) ((.ref mq19)) ((.int 0)) ((.null)) ((.int 0)) ((.int 0)) ((.int 0)) ((.null)) ((.int 0)) ((.int 0)) ((.int 0)) ((.null)) ((.ref mq20)) ((.int 0)) ((.int 0)) ((.long 0)) ((.null)) ((.null)) ((.null)) ((.null)) ((.int 0)) ((.int 0)) ((.int 0)) ((.int 0)) ((.int 0)) ((.int 0)) ((.null)) ((.long 0)) ((.long 0)) ((.long 0)) ((.null)) ((.null)) ((.null)) ((.int 0)) ((.int 0)) ((.int 0)) ((.ref mq21)) ((.null)) ((.null)) ((fun _ => 0)) z9) (cwV 2 hts gv_law_0_c_M_add_7_66 rfl rfl rfl (by decide +kernel) ⟨(Nat.le_of_ble_eq_true rfl), (Nat.le_of_ble_eq_true rfl)⟩) (zB.preV hPc hDc hK hN hE hO hT hG hS hFc (fun _ h => nomatch h) (fun _ h => nomatch h) (fun _ h => nomatch h) (fun _ h => nomatch h) (va_recv hK hPc (ci := 16) (q0 := 0) rfl rfl)) rfl rfl hl.1 rfl (lv_room (Nat.le_of_ble_eq_true rfl)) dL_law_181 ⟨(Nat.le_of_ble_eq_true rfl), (Nat.le_of_ble_eq_true rfl)⟩) hS (fun q _ h => hFc q h) hFc (fun r149 u t H1 locs ht hvm hw hB hz1 hk1 hS => ?_)
    obtain ⟨f150, hP1, hD1⟩ := hB
    rw [ht] at hP1
    obtain ⟨hP, hD⟩ := va_join (wr := [(x, .inr (15, [.ref aq1, .ref aq3, .ref aq5, .ref aq7, .ref aq9, .ref aq11, .ref aq16, .ref aq19, .ref aq22, .ref aq37, .ref aq55, .ref aq57, .ref aq59, .int 0, .null])), (aq1, .inr (4, [.ref aq2, .int 0, .int (nI 7)])), (aq2, .inl (y 0, 4096, .inl f137))]) (w1 := [(mo, .inr (16, [.int 0, .int 7, .ref mq1, .ref mq2, .int 0, .ref mq3, .int 0, .ref mq4, .ref mq5, .ref mq6, .int 0, .ref mq7, .ref mq8, .ref mq9, .int 0, .ref mq10, .ref mq11, .ref mq12, .ref mq13, .ref mq14, .int 0, .ref mq15, .ref mq16, .long 0, .ref mq17, .ref mq18, .ref mq19, .int 0, .null, .int 0, .int 0, .int 0, .null, .int 0, .int 0, .int 0, .null, .ref mq20, .int 0, .int 0, .long 0, .null, .null, .null, .null, .int 0, .int 0, .int 0, .int 0, .int 0, .int 0, .null, .long 0, .long 0, .long 0, .null, .null, .null, .int 0, .int 0, .int 0, .ref mq21, .null, .null])), (mq1, .inl (y 1, 4096, .inl f150))]) hP hD [0, 1] [2, 3, 4] rfl rfl (by decide) (by decide) hk1 hFc hP1 hD1
    generalize H1 = H at hP hS ⊢
    have hP : va_P D vwCl [(x, .inr (15, [.ref aq1, .ref aq3, .ref aq5, .ref aq7, .ref aq9, .ref aq11, .ref aq16, .ref aq19, .ref aq22, .ref aq37, .ref aq55, .ref aq57, .ref aq59, .int 0, .null])), (aq1, .inr (4, [.ref aq2, .int 0, .int (nI 7)])), (aq2, .inl (y 0, 4096, .inl f137)), (mo, .inr (16, [.int 0, .int 7, .ref mq1, .ref mq2, .int 0, .ref mq3, .int 0, .ref mq4, .ref mq5, .ref mq6, .int 0, .ref mq7, .ref mq8, .ref mq9, .int 0, .ref mq10, .ref mq11, .ref mq12, .ref mq13, .ref mq14, .int 0, .ref mq15, .ref mq16, .long 0, .ref mq17, .ref mq18, .ref mq19, .int 0, .null, .int 0, .int 0, .int 0, .null, .int 0, .int 0, .int 0, .null, .ref mq20, .int 0, .int 0, .long 0, .null, .null, .null, .null, .int 0, .int 0, .int 0, .int 0, .int 0, .int 0, .null, .long 0, .long 0, .long 0, .null, .null, .null, .int 0, .int 0, .int 0, .ref mq21, .null, .null])), (mq1, .inl (y 1, 4096, .inl f150))] H := hP
    have hD : va_D A [(x, .inr (15, [.ref aq1, .ref aq3, .ref aq5, .ref aq7, .ref aq9, .ref aq11, .ref aq16, .ref aq19, .ref aq22, .ref aq37, .ref aq55, .ref aq57, .ref aq59, .int 0, .null])), (aq1, .inr (4, [.ref aq2, .int 0, .int (nI 7)])), (aq2, .inl (y 0, 4096, .inl f137)), (mo, .inr (16, [.int 0, .int 7, .ref mq1, .ref mq2, .int 0, .ref mq3, .int 0, .ref mq4, .ref mq5, .ref mq6, .int 0, .ref mq7, .ref mq8, .ref mq9, .int 0, .ref mq10, .ref mq11, .ref mq12, .ref mq13, .ref mq14, .int 0, .ref mq15, .ref mq16, .long 0, .ref mq17, .ref mq18, .ref mq19, .int 0, .null, .int 0, .int 0, .int 0, .null, .int 0, .int 0, .int 0, .null, .ref mq20, .int 0, .int 0, .long 0, .null, .null, .null, .null, .int 0, .int 0, .int 0, .int 0, .int 0, .int 0, .null, .long 0, .long 0, .long 0, .null, .null, .null, .int 0, .int 0, .int 0, .ref mq21, .null, .null])), (mq1, .inl (y 1, 4096, .inl f150))] := hD
    have hw : r149 = 1 := hw
    subst hw
    refine lv_icmp_eq (tgt := 1017) hx hb dL_law_184 (by decide) (fun _ => ?_) (fun c9 => absurd (by decide) c9)
    refine lv_iinc (v := 6) (lv' := [(4, .int 6), (3, .ref o), (2, .ref mo), (1, .ref x), (0, .ref b)]) hx hb dL_law_1017 hl (k := 0) rfl (by decide) (by decide) rfl (fun ls hl => ?_)
    refine lv_goto (tgt := 23) hx hb dL_law_1020 (by decide) ?_
    refine lv_iload hx hb dL_law_23 (lv_at hl 0 rfl) ?_
    refine lv_aload_n hx hb dL_law_25 rfl (lv_at hl 4 rfl) ?_
    refine va_slen hx hb hX hbl hbA hS dL_law_26 ?_
    refine lv_bipush (v := 6) hx hb dL_law_27 (by decide) ?_
    refine lv_isub hx hb dL_law_29 ?_
    refine lv_topi (fun v151 ev151 => ?_)
    have ev151 : v151 = 0 := ev151.trans (by decide +kernel)
    subst ev151
    refine lv_icmp_gt (tgt := 1023) hx hb dL_law_30 (by decide) (fun _ => ?_) (fun c9 => absurd (by decide) c9)
    refine lv_iconst (v := 1) hx hb dL_law_1023 (by decide) ?_
    refine va_forget (fun q hq => hAf _ (hS.2.2 q hq)) ?_
    refine W.widen (k := 600002) (n := 7302232) (Nat.le_of_ble_eq_true rfl) (Nat.le_of_ble_eq_true rfl) ?_
    exact lw_ret hx hb hr hlocks dL_law_1024
  · subst h1
    have hPc := hP.sub (ws' := [(x, .inr (15, [.ref aq1, .ref aq3, .ref aq5, .ref aq7, .ref aq9, .ref aq11, .ref aq16, .ref aq19, .ref aq22, .ref aq37, .ref aq55, .ref aq57, .ref aq59, .int 0, .null])), (aq1, .inr (4, [.ref aq2, .int 0, .int 0])), (aq2, .inl (y 0, 4096, .inl (fun _ => 0)))]) [0, 1, 2] rfl
    have hDc := hD.sub (ws' := [(x, .inr (15, [.ref aq1, .ref aq3, .ref aq5, .ref aq7, .ref aq9, .ref aq11, .ref aq16, .ref aq19, .ref aq22, .ref aq37, .ref aq55, .ref aq57, .ref aq59, .int 0, .null])), (aq1, .inr (4, [.ref aq2, .int 0, .int 0])), (aq2, .inl (y 0, 4096, .inl (fun _ => 0)))]) [0, 1, 2] (by decide) rfl
    have hFc := va_free (wc := [(x, .inr (15, [.ref aq1, .ref aq3, .ref aq5, .ref aq7, .ref aq9, .ref aq11, .ref aq16, .ref aq19, .ref aq22, .ref aq37, .ref aq55, .ref aq57, .ref aq59, .int 0, .null])), (aq1, .inr (4, [.ref aq2, .int 0, .int 0])), (aq2, .inl (y 0, 4096, .inl (fun _ => 0)))]) hD hS hA [0, 1, 2] rfl
    refine va_calli (va_runV (As := [.long z9, .int 8]) (rest := []) ⟨hx, hb, hml, hown, hts⟩ (c_X11_add_8 l D y H.size x aq1 aq2 ((.ref aq3)) ((.ref aq5)) ((.ref aq7)) ((.ref aq9)) ((.ref aq11)) ((.ref aq16)) ((.ref aq19)) ((.ref aq22)) ((.ref aq37)) ((.ref aq55)) ((.ref aq57)) ((.ref aq59)) ((.int 0)) ((.null)) ((.int 0)) ((fun _ => 0)) z9) (cwV 2 hts gv_law_0_c_X11_add_8_62 rfl rfl rfl (by decide +kernel) ⟨(Nat.le_of_ble_eq_true rfl), (Nat.le_of_ble_eq_true rfl)⟩) (zB.preV hPc hDc hK hN hE hO hT hG hS hFc (fun _ h => nomatch h) (fun _ h => nomatch h) (fun _ h => nomatch h) (fun _ h => nomatch h) (va_recv hK hPc (ci := 15) (q0 := 0) rfl rfl)) rfl rfl hl.1 rfl (lv_room (Nat.le_of_ble_eq_true rfl)) dL_law_149 ⟨(Nat.le_of_ble_eq_true rfl), (Nat.le_of_ble_eq_true rfl)⟩) hS (fun q _ h => hFc q h) hFc (fun r152 u t H1 locs ht hvm hw hB hz1 hk1 hS => ?_)
    obtain ⟨f153, hP1, hD1⟩ := hB
    rw [ht] at hP1
    obtain ⟨hP, hD⟩ := va_join (wr := [(mo, .inr (16, [.int 0, .int 0, .ref mq1, .ref mq2, .int 0, .ref mq3, .int 0, .ref mq4, .ref mq5, .ref mq6, .int 0, .ref mq7, .ref mq8, .ref mq9, .int 0, .ref mq10, .ref mq11, .ref mq12, .ref mq13, .ref mq14, .int 0, .ref mq15, .ref mq16, .long 0, .ref mq17, .ref mq18, .ref mq19, .int 0, .null, .int 0, .int 0, .int 0, .null, .int 0, .int 0, .int 0, .null, .ref mq20, .int 0, .int 0, .long 0, .null, .null, .null, .null, .int 0, .int 0, .int 0, .int 0, .int 0, .int 0, .null, .long 0, .long 0, .long 0, .null, .null, .null, .int 0, .int 0, .int 0, .ref mq21, .null, .null])), (mq1, .inl (y 1, 4096, .inl (fun _ => 0)))]) (w1 := [(x, .inr (15, [.ref aq1, .ref aq3, .ref aq5, .ref aq7, .ref aq9, .ref aq11, .ref aq16, .ref aq19, .ref aq22, .ref aq37, .ref aq55, .ref aq57, .ref aq59, .int 0, .null])), (aq1, .inr (4, [.ref aq2, .int 0, .int (nI 8)])), (aq2, .inl (y 0, 4096, .inl f153))]) hP hD [0, 1, 2] [3, 4] rfl rfl (by decide) (by decide) hk1 hFc hP1 hD1
    generalize H1 = H at hP hS ⊢
    have hP : va_P D vwCl [(mo, .inr (16, [.int 0, .int 0, .ref mq1, .ref mq2, .int 0, .ref mq3, .int 0, .ref mq4, .ref mq5, .ref mq6, .int 0, .ref mq7, .ref mq8, .ref mq9, .int 0, .ref mq10, .ref mq11, .ref mq12, .ref mq13, .ref mq14, .int 0, .ref mq15, .ref mq16, .long 0, .ref mq17, .ref mq18, .ref mq19, .int 0, .null, .int 0, .int 0, .int 0, .null, .int 0, .int 0, .int 0, .null, .ref mq20, .int 0, .int 0, .long 0, .null, .null, .null, .null, .int 0, .int 0, .int 0, .int 0, .int 0, .int 0, .null, .long 0, .long 0, .long 0, .null, .null, .null, .int 0, .int 0, .int 0, .ref mq21, .null, .null])), (mq1, .inl (y 1, 4096, .inl (fun _ => 0))), (x, .inr (15, [.ref aq1, .ref aq3, .ref aq5, .ref aq7, .ref aq9, .ref aq11, .ref aq16, .ref aq19, .ref aq22, .ref aq37, .ref aq55, .ref aq57, .ref aq59, .int 0, .null])), (aq1, .inr (4, [.ref aq2, .int 0, .int (nI 8)])), (aq2, .inl (y 0, 4096, .inl f153))] H := hP
    have hD : va_D A [(mo, .inr (16, [.int 0, .int 0, .ref mq1, .ref mq2, .int 0, .ref mq3, .int 0, .ref mq4, .ref mq5, .ref mq6, .int 0, .ref mq7, .ref mq8, .ref mq9, .int 0, .ref mq10, .ref mq11, .ref mq12, .ref mq13, .ref mq14, .int 0, .ref mq15, .ref mq16, .long 0, .ref mq17, .ref mq18, .ref mq19, .int 0, .null, .int 0, .int 0, .int 0, .null, .int 0, .int 0, .int 0, .null, .ref mq20, .int 0, .int 0, .long 0, .null, .null, .null, .null, .int 0, .int 0, .int 0, .int 0, .int 0, .int 0, .null, .long 0, .long 0, .long 0, .null, .null, .null, .int 0, .int 0, .int 0, .ref mq21, .null, .null])), (mq1, .inl (y 1, 4096, .inl (fun _ => 0))), (x, .inr (15, [.ref aq1, .ref aq3, .ref aq5, .ref aq7, .ref aq9, .ref aq11, .ref aq16, .ref aq19, .ref aq22, .ref aq37, .ref aq55, .ref aq57, .ref aq59, .int 0, .null])), (aq1, .inr (4, [.ref aq2, .int 0, .int (nI 8)])), (aq2, .inl (y 0, 4096, .inl f153))] := hD
    have hw : r152 = 1 := hw
    subst hw
    refine lv_aload_n hx hb dL_law_152 rfl (lv_at hl 2 rfl) ?_
    refine lv_aload_n hx hb dL_law_153 rfl (lv_at hl 4 rfl) ?_
    refine lv_iload hx hb dL_law_154 (lv_at hl 0 rfl) ?_
    refine lv_iconst (v := 1) hx hb dL_law_156 (by decide) ?_
    refine lv_iadd hx hb dL_law_157 ?_
    refine lv_topi (fun v154 ev154 => ?_)
    have ev154 : v154 = 1 := ev154.trans (by decide +kernel)
    subst ev154
    refine va_sld hx hb hX hbl hbA hS (by unfold vp_in; decide) dL_law_158 ?_
    refine lv_topi (fun x155 ex155 => ?_)
    have fx155 : x2 = x155 := ex2.trans ex155.symm
    subst fx155
    refine lv_i2l hx hb dL_law_159 rfl ?_
    refine lv_topl (fun z156 ez156 => ?_)
    have fz156 : z3 = z156 := ez3.trans ez156.symm
    subst fz156
    refine lv_bipush (v := 32) hx hb dL_law_160 (by decide) ?_
    refine lv_lshl hx hb dL_law_162 rfl ?_
    refine lv_topl (fun z157 ez157 => ?_)
    have fz157 : z4 = z157 := ez4.trans ez157.symm
    subst fz157
    refine lv_aload_n hx hb dL_law_163 rfl (lv_at hl 4 rfl) ?_
    refine lv_iload hx hb dL_law_164 (lv_at hl 0 rfl) ?_
    refine lv_iconst (v := 2) hx hb dL_law_166 (by decide) ?_
    refine lv_iadd hx hb dL_law_167 ?_
    refine lv_topi (fun v158 ev158 => ?_)
    have ev158 : v158 = 2 := ev158.trans (by decide +kernel)
    subst ev158
    refine va_sld hx hb hX hbl hbA hS (by unfold vp_in; decide) dL_law_168 ?_
    refine lv_topi (fun x159 ex159 => ?_)
    have fx159 : x6 = x159 := ex6.trans ex159.symm
    subst fx159
    refine lv_i2l hx hb dL_law_169 rfl ?_
    refine lv_topl (fun z160 ez160 => ?_)
    have fz160 : z7 = z160 := ez7.trans ez160.symm
    subst fz160
    refine lv_ldc2 (v := 4294967295) hx hb hown (hts (.constantLong RL 60 4294967295) (by decide +kernel)) dL_law_170 ?_
    refine lv_land hx hb dL_law_173 ?_
    refine lv_topl (fun z161 ez161 => ?_)
    have fz161 : z8 = z161 := ez8.trans ez161.symm
    subst fz161
    refine lv_lor hx hb dL_law_174 ?_
    refine lv_topl (fun z162 ez162 => ?_)
    have fz162 : z9 = z162 := ez9.trans ez162.symm
    subst fz162
    refine lv_aload_n hx hb dL_law_175 rfl (lv_at hl 4 rfl) ?_
    refine lv_iload hx hb dL_law_176 (lv_at hl 0 rfl) ?_
    refine lv_iconst (v := 3) hx hb dL_law_178 (by decide) ?_
    refine lv_iadd hx hb dL_law_179 ?_
    refine lv_topi (fun v163 ev163 => ?_)
    have ev163 : v163 = 3 := ev163.trans (by decide +kernel)
    subst ev163
    refine va_sld hx hb hX hbl hbA hS (by unfold vp_in; decide) dL_law_180 ?_
    refine lv_topi (fun x164 ex164 => ?_)
    have fx164 : 8 = x164 := ex11.trans ex164.symm
    subst fx164
    have hPc := hP.sub (ws' := [(mo, .inr (16, [.int 0, .int 0, .ref mq1, .ref mq2, .int 0, .ref mq3, .int 0, .ref mq4, .ref mq5, .ref mq6, .int 0, .ref mq7, .ref mq8, .ref mq9, .int 0, .ref mq10, .ref mq11, .ref mq12, .ref mq13, .ref mq14, .int 0, .ref mq15, .ref mq16, .long 0, .ref mq17, .ref mq18, .ref mq19, .int 0, .null, .int 0, .int 0, .int 0, .null, .int 0, .int 0, .int 0, .null, .ref mq20, .int 0, .int 0, .long 0, .null, .null, .null, .null, .int 0, .int 0, .int 0, .int 0, .int 0, .int 0, .null, .long 0, .long 0, .long 0, .null, .null, .null, .int 0, .int 0, .int 0, .ref mq21, .null, .null])), (mq1, .inl (y 1, 4096, .inl (fun _ => 0)))]) [0, 1] rfl
    have hDc := hD.sub (ws' := [(mo, .inr (16, [.int 0, .int 0, .ref mq1, .ref mq2, .int 0, .ref mq3, .int 0, .ref mq4, .ref mq5, .ref mq6, .int 0, .ref mq7, .ref mq8, .ref mq9, .int 0, .ref mq10, .ref mq11, .ref mq12, .ref mq13, .ref mq14, .int 0, .ref mq15, .ref mq16, .long 0, .ref mq17, .ref mq18, .ref mq19, .int 0, .null, .int 0, .int 0, .int 0, .null, .int 0, .int 0, .int 0, .null, .ref mq20, .int 0, .int 0, .long 0, .null, .null, .null, .null, .int 0, .int 0, .int 0, .int 0, .int 0, .int 0, .null, .long 0, .long 0, .long 0, .null, .null, .null, .int 0, .int 0, .int 0, .ref mq21, .null, .null])), (mq1, .inl (y 1, 4096, .inl (fun _ => 0)))]) [0, 1] (by decide) rfl
    have hFc := va_free (wc := [(mo, .inr (16, [.int 0, .int 0, .ref mq1, .ref mq2, .int 0, .ref mq3, .int 0, .ref mq4, .ref mq5, .ref mq6, .int 0, .ref mq7, .ref mq8, .ref mq9, .int 0, .ref mq10, .ref mq11, .ref mq12, .ref mq13, .ref mq14, .int 0, .ref mq15, .ref mq16, .long 0, .ref mq17, .ref mq18, .ref mq19, .int 0, .null, .int 0, .int 0, .int 0, .null, .int 0, .int 0, .int 0, .null, .ref mq20, .int 0, .int 0, .long 0, .null, .null, .null, .null, .int 0, .int 0, .int 0, .int 0, .int 0, .int 0, .null, .long 0, .long 0, .long 0, .null, .null, .null, .int 0, .int 0, .int 0, .ref mq21, .null, .null])), (mq1, .inl (y 1, 4096, .inl (fun _ => 0)))]) hD hS hA [0, 1] rfl
    refine va_calli (va_runV (As := [.long z9, .int 8]) (rest := [.int 1]) ⟨hx, hb, hml, hown, hts⟩ (c_M_add_8 l D y H.size mo mq1 ((.int 0)) ((.ref mq2)) ((.int 0)) ((.ref mq3)) ((.int 0)) ((.ref mq4)) ((.ref mq5)) ((.ref mq6)) ((.int 0)) ((.ref mq7)) ((.ref mq8)) ((.ref mq9)) ((.int 0)) ((.ref mq10)) ((.ref mq11)) ((.ref mq12)) ((.ref mq13)) ((.ref mq14)) ((.int 0)) ((.ref mq15)) ((.ref mq16)) ((.long 0)) ((.ref mq17)) ((.ref mq18)) ((.ref mq19)) ((.int 0)) ((.null)) ((.int 0)) ((.int 0)) ((.int 0)) ((.null)) ((.int 0)) ((.int 0)) ((.int 0)) ((.null)) ((.ref mq20)) ((.int 0)) ((.int 0)) ((.long 0)) ((.null)) ((.null)) ((.null)) ((.null)) ((.int 0)) ((.int 0)) ((.int 0)) ((.int 0)) ((.int 0)) ((.int 0)) ((.null)) ((.long 0)) ((.long 0)) ((.long 0)) ((.null)) ((.null)) ((.null)) ((.int 0)) ((.int 0)) ((.int 0)) ((.ref mq21)) ((.null)) ((.null)) ((fun _ => 0)) z9) (cwV 2 hts gv_law_0_c_M_add_8_66 rfl rfl rfl (by decide +kernel) ⟨(Nat.le_of_ble_eq_true rfl), (Nat.le_of_ble_eq_true rfl)⟩) (zB.preV hPc hDc hK hN hE hO hT hG hS hFc (fun _ h => nomatch h) (fun _ h => nomatch h) (fun _ h => nomatch h) (fun _ h => nomatch h) (va_recv hK hPc (ci := 16) (q0 := 0) rfl rfl)) rfl rfl hl.1 rfl (lv_room (Nat.le_of_ble_eq_true rfl)) dL_law_181 ⟨(Nat.le_of_ble_eq_true rfl), (Nat.le_of_ble_eq_true rfl)⟩) hS (fun q _ h => hFc q h) hFc (fun r165 u t H1 locs ht hvm hw hB hz1 hk1 hS => ?_)
    obtain ⟨f166, hP1, hD1⟩ := hB
    rw [ht] at hP1
    obtain ⟨hP, hD⟩ := va_join (wr := [(x, .inr (15, [.ref aq1, .ref aq3, .ref aq5, .ref aq7, .ref aq9, .ref aq11, .ref aq16, .ref aq19, .ref aq22, .ref aq37, .ref aq55, .ref aq57, .ref aq59, .int 0, .null])), (aq1, .inr (4, [.ref aq2, .int 0, .int (nI 8)])), (aq2, .inl (y 0, 4096, .inl f153))]) (w1 := [(mo, .inr (16, [.int 0, .int 8, .ref mq1, .ref mq2, .int 0, .ref mq3, .int 0, .ref mq4, .ref mq5, .ref mq6, .int 0, .ref mq7, .ref mq8, .ref mq9, .int 0, .ref mq10, .ref mq11, .ref mq12, .ref mq13, .ref mq14, .int 0, .ref mq15, .ref mq16, .long 0, .ref mq17, .ref mq18, .ref mq19, .int 0, .null, .int 0, .int 0, .int 0, .null, .int 0, .int 0, .int 0, .null, .ref mq20, .int 0, .int 0, .long 0, .null, .null, .null, .null, .int 0, .int 0, .int 0, .int 0, .int 0, .int 0, .null, .long 0, .long 0, .long 0, .null, .null, .null, .int 0, .int 0, .int 0, .ref mq21, .null, .null])), (mq1, .inl (y 1, 4096, .inl f166))]) hP hD [0, 1] [2, 3, 4] rfl rfl (by decide) (by decide) hk1 hFc hP1 hD1
    generalize H1 = H at hP hS ⊢
    have hP : va_P D vwCl [(x, .inr (15, [.ref aq1, .ref aq3, .ref aq5, .ref aq7, .ref aq9, .ref aq11, .ref aq16, .ref aq19, .ref aq22, .ref aq37, .ref aq55, .ref aq57, .ref aq59, .int 0, .null])), (aq1, .inr (4, [.ref aq2, .int 0, .int (nI 8)])), (aq2, .inl (y 0, 4096, .inl f153)), (mo, .inr (16, [.int 0, .int 8, .ref mq1, .ref mq2, .int 0, .ref mq3, .int 0, .ref mq4, .ref mq5, .ref mq6, .int 0, .ref mq7, .ref mq8, .ref mq9, .int 0, .ref mq10, .ref mq11, .ref mq12, .ref mq13, .ref mq14, .int 0, .ref mq15, .ref mq16, .long 0, .ref mq17, .ref mq18, .ref mq19, .int 0, .null, .int 0, .int 0, .int 0, .null, .int 0, .int 0, .int 0, .null, .ref mq20, .int 0, .int 0, .long 0, .null, .null, .null, .null, .int 0, .int 0, .int 0, .int 0, .int 0, .int 0, .null, .long 0, .long 0, .long 0, .null, .null, .null, .int 0, .int 0, .int 0, .ref mq21, .null, .null])), (mq1, .inl (y 1, 4096, .inl f166))] H := hP
    have hD : va_D A [(x, .inr (15, [.ref aq1, .ref aq3, .ref aq5, .ref aq7, .ref aq9, .ref aq11, .ref aq16, .ref aq19, .ref aq22, .ref aq37, .ref aq55, .ref aq57, .ref aq59, .int 0, .null])), (aq1, .inr (4, [.ref aq2, .int 0, .int (nI 8)])), (aq2, .inl (y 0, 4096, .inl f153)), (mo, .inr (16, [.int 0, .int 8, .ref mq1, .ref mq2, .int 0, .ref mq3, .int 0, .ref mq4, .ref mq5, .ref mq6, .int 0, .ref mq7, .ref mq8, .ref mq9, .int 0, .ref mq10, .ref mq11, .ref mq12, .ref mq13, .ref mq14, .int 0, .ref mq15, .ref mq16, .long 0, .ref mq17, .ref mq18, .ref mq19, .int 0, .null, .int 0, .int 0, .int 0, .null, .int 0, .int 0, .int 0, .null, .ref mq20, .int 0, .int 0, .long 0, .null, .null, .null, .null, .int 0, .int 0, .int 0, .int 0, .int 0, .int 0, .null, .long 0, .long 0, .long 0, .null, .null, .null, .int 0, .int 0, .int 0, .ref mq21, .null, .null])), (mq1, .inl (y 1, 4096, .inl f166))] := hD
    have hw : r165 = 1 := hw
    subst hw
    refine lv_icmp_eq (tgt := 1017) hx hb dL_law_184 (by decide) (fun _ => ?_) (fun c9 => absurd (by decide) c9)
    refine lv_iinc (v := 6) (lv' := [(4, .int 6), (3, .ref o), (2, .ref mo), (1, .ref x), (0, .ref b)]) hx hb dL_law_1017 hl (k := 0) rfl (by decide) (by decide) rfl (fun ls hl => ?_)
    refine lv_goto (tgt := 23) hx hb dL_law_1020 (by decide) ?_
    refine lv_iload hx hb dL_law_23 (lv_at hl 0 rfl) ?_
    refine lv_aload_n hx hb dL_law_25 rfl (lv_at hl 4 rfl) ?_
    refine va_slen hx hb hX hbl hbA hS dL_law_26 ?_
    refine lv_bipush (v := 6) hx hb dL_law_27 (by decide) ?_
    refine lv_isub hx hb dL_law_29 ?_
    refine lv_topi (fun v167 ev167 => ?_)
    have ev167 : v167 = 0 := ev167.trans (by decide +kernel)
    subst ev167
    refine lv_icmp_gt (tgt := 1023) hx hb dL_law_30 (by decide) (fun _ => ?_) (fun c9 => absurd (by decide) c9)
    refine lv_iconst (v := 1) hx hb dL_law_1023 (by decide) ?_
    refine va_forget (fun q hq => hAf _ (hS.2.2 q hq)) ?_
    refine W.widen (k := 600002) (n := 7302232) (Nat.le_of_ble_eq_true rfl) (Nat.le_of_ble_eq_true rfl) ?_
    exact lw_ret hx hb hr hlocks dL_law_1024

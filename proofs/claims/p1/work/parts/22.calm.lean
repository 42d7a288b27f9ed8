def wz_c_X4_more : List Cond := .code yX4_more cX4_more 1 (some .boolean) :: ([.fieldLink RX4 36 "SignetRing$Packets" "next" "I", .fieldLink RX4 29 "SignetRing$Packets" "in" "LSignetRing$Span;", .fieldLink RX4 39 "SignetRing$Span" "size" "I"] ++ (wsX40 ++ (wsX00 ++ ([]))))
set_option maxHeartbeats 4000000 in
set_option maxRecDepth 100000 in
theorem c_X4_more (l : Launch) (D : va_G) (y : Nat → ClassId) (sz : Nat) (h0 : Nat) (b : Nat) (w1 : Value) (w2 : Value) (w3 : Value) (w4 : Value) (w5 : Value) (w6 : Value) : Met l yX4_more wz_c_X4_more ({ frames := 0, cells := 0, slots := 0, locals := 0 }) (va_Pc [.ref h0] (zB D y [(h0, .inr (8, [w1, w2, .ref b, w3, .int 0, w4])), (b, .inr (4, [w5, w6, .int 0]))] sz [] [] [] [])) (va_Qi (fun (r : Int32) (_ : Unit) => r = 0) (fun _ t => va_P D vwCl [(h0, .inr (8, [w1, w2, .ref b, w3, .int 0, w4])), (b, .inr (4, [w5, w6, .int 0]))] t.heap ∧ va_D (va_A [(h0, .inr (8, [w1, w2, .ref b, w3, .int 0, w4])), (b, .inr (4, [w5, w6, .int 0]))] sz) [(h0, .inr (8, [w1, w2, .ref b, w3, .int 0, w4])), (b, .inr (4, [w5, w6, .int 0]))]) (va_A [(h0, .inr (8, [w1, w2, .ref b, w3, .int 0, w4])), (b, .inr (4, [w5, w6, .int 0]))] sz)) 0 0 (va_A [(h0, .inr (8, [w1, w2, .ref b, w3, .int 0, w4])), (b, .inr (4, [w5, w6, .int 0]))] sz) := by
  refine Met.ofW (cc := cX4_more) (maxL := 1) (ret := (some .boolean)) (by decide) rfl ?_
  intro p e s m args below meth c s₁ B hml hv
  obtain ⟨rfl, hsz, hP, hK, hD0, hN, hE, hO, hT, hG⟩ := hv
  have hx := B.exec
  have hb := B.bytes
  have hr := B.returns
  have hts := atoms_spec (ws := wz_c_X4_more) B.pre
  have hown : s.vm.findClass RX4 = some m.cls := findClass_of_methodNamed B.named
  have hlocks := B.notSynchronized
  subst hsz
  have hD := hD0.self (sz := s.heap.size)
  generalize hAe : va_A [(h0, .inr (8, [w1, w2, .ref b, w3, .int 0, w4])), (b, .inr (4, [w5, w6, .int 0]))] s.heap.size = A at hD hE hT hG ⊢
  have hA : ∀ q : Nat, s.heap.size ≤ q → A q := fun q h => by rw [← hAe]; exact Or.inr h
  have hS : va_S A s.heap s.heap [] := va_S.rf
  have hl := lv_entry ([.ref h0]) (n := 1) (Nat.le_of_ble_eq_true rfl)
  rw [lg_entry_eq]
  generalize (lg_sl ([.ref h0]) ++ List.replicate (1 - (lg_sl ([.ref h0])).length) Slot.unset).toArray = ls at hl ⊢
  have hl : lv_has ls 1 [(0, .ref h0)] := hl
  refine lv_aload_n hx hb dX4_more_0 rfl (lv_at hl 0 rfl) ?_
  refine va_get (D := D) (ci := 8) (v := .int 0) (C := RX4) (T := TX4) (N := 6) hx hb hts (by decide +kernel) hown hK hP 0 rfl rfl 4 (by decide) (hts (.fieldLink RX4 36 "SignetRing$Packets" "next" "I") (by decide +kernel)) (fun _ h9 => h9) rfl dX4_more_1 ?_
  refine lv_aload_n hx hb dX4_more_4 rfl (lv_at hl 0 rfl) ?_
  refine va_get (D := D) (ci := 8) (v := .ref b) (C := RX4) (T := TX4) (N := 6) hx hb hts (by decide +kernel) hown hK hP 0 rfl rfl 2 (by decide) (hts (.fieldLink RX4 29 "SignetRing$Packets" "in" "LSignetRing$Span;") (by decide +kernel)) (fun _ h9 => h9) rfl dX4_more_5 ?_
  refine va_get (D := D) (ci := 4) (v := .int 0) (C := RX0) (T := TX0) (N := 3) hx hb hts (by decide +kernel) hown hK hP 1 rfl rfl 2 (by decide) (hts (.fieldLink RX4 39 "SignetRing$Span" "size" "I") (by decide +kernel)) (fun _ h9 => h9) rfl dX4_more_8 ?_
  refine lv_icmp_ge (tgt := 18) hx hb dX4_more_11 (by decide) (fun _ => ?_) (fun c9 => absurd (by decide) c9)
  refine lv_iconst (v := 0) hx hb dX4_more_18 (by decide) ?_
  have hP9 := hP.sub (ws' := [(h0, .inr (8, [w1, w2, .ref b, w3, .int 0, w4])), (b, .inr (4, [w5, w6, .int 0]))]) [0, 1] rfl
  have hD9 := hD.sub (ws' := [(h0, .inr (8, [w1, w2, .ref b, w3, .int 0, w4])), (b, .inr (4, [w5, w6, .int 0]))]) [0, 1] (by decide) rfl
  refine W.widen (k := 0) (n := 0) (Nat.le_of_ble_eq_true rfl) (Nat.le_of_ble_eq_true rfl) ?_
  exact W.zret (v := 0) hx hb hr (by decide) (fun t ht hW => ⟨⟨0, (), rfl, rfl, by rw [ht]; exact hP9, hD9⟩, hS.F ht⟩) hS.2.2 dX4_more_19
def wz_c_X7_joinAll : List Cond := .code yX7_joinAll cX7_joinAll 5 (some .int) :: ([.fieldLink RX7 52 "SignetRing$Ring" "key" "LSignetRing$Key;", .fieldLink RX7 55 "SignetRing$Ring" "place" "LSignetRing$Place;", .fieldLink RX7 12 "SignetRing$Ring" "keys" "Ljava/util/ArrayList;", .methodLink RX7 59 yJx4a65c_size_8abf5, .instanceMethod yJx4a65c_size_8abf5, .selects RJx4a65c yJx4a65c_size_8abf5 yJx4a65c_size_8abf5, .initialized RJx4a65c, .methodLink RX7 63 yX4_more, .instanceMethod yX4_more, .selects RX4 yX4_more yX4_more, .initialized RX4, .fieldLink RX7 97 "SignetRing$Packets" "in" "LSignetRing$Span;", .fieldLink RX7 100 "SignetRing$Span" "size" "I"] ++ (wsX70 ++ (wsX40 ++ (wsX00 ++ (wz_c_size ++ (wz_c_X4_more ++ ([])))))))
set_option maxRecDepth 100000 in
theorem gz_c_X7_joinAll_c_size : GoodIn wz_c_X7_joinAll wz_c_size := goodIn_sub (fun w h => List.mem_cons_of_mem _ (List.mem_append_right _ (List.mem_append_right _ (List.mem_append_right _ (List.mem_append_right _ (List.mem_append_left _ h)))))) (by decide +kernel)
set_option maxRecDepth 100000 in
theorem gz_c_X7_joinAll_c_X4_more : GoodIn wz_c_X7_joinAll wz_c_X4_more := goodIn_sub (fun w h => List.mem_cons_of_mem _ (List.mem_append_right _ (List.mem_append_right _ (List.mem_append_right _ (List.mem_append_right _ (List.mem_append_right _ (List.mem_append_left _ h))))))) (by decide +kernel)
set_option maxRecDepth 100000 in
theorem gv_c_X7_joinAll_c_size_59 : GoodIn wz_c_X7_joinAll (wsV RX7 59 RJx4a65c yJx4a65c_size_8abf5 wz_c_size) := goodIn_app (goodIn_of _ (by decide +kernel)) gz_c_X7_joinAll_c_size
set_option maxRecDepth 100000 in
theorem gv_c_X7_joinAll_c_X4_more_63 : GoodIn wz_c_X7_joinAll (wsV RX7 63 RX4 yX4_more wz_c_X4_more) := goodIn_app (goodIn_of _ (by decide +kernel)) gz_c_X7_joinAll_c_X4_more
set_option maxHeartbeats 4000000 in
set_option maxRecDepth 100000 in
theorem c_X7_joinAll (l : Launch) (D : va_G) (y : Nat → ClassId) (sz : Nat) (h0 : Nat) (pk : Nat) (ks : Nat) (bb : Nat) (w1 : Value) (w2 : Value) (w3 : Value) (w4 : Value) (w5 : Value) (w6 : Value) (w7 : Value) (w8 : Value) (w9 : Value) (w10 : Value) (w11 : Value) (w12 : Value) (w13 : Value) (w14 : Value) : Met l yX7_joinAll wz_c_X7_joinAll ({ frames := 1, cells := 0, slots := 0, locals := 20 }) (va_Pc [.ref h0, .ref pk] (zB D y [(h0, .inr (11, [.ref ks, w1, w2, w3, w4, w5, w6])), (pk, .inr (8, [w7, w8, .ref bb, w9, .int 0, w10])), (ks, .inr (3, [w11, w12, .int 0])), (bb, .inr (4, [w13, w14, .int 0]))] sz [] [] [] [])) (va_Qi (fun (r : Int32) (_ : Unit) => r = -1) (fun _ t => va_P D vwCl [(h0, .inr (11, [.ref ks, w1, w2, w3, w4, .null, .null])), (pk, .inr (8, [w7, w8, .ref bb, w9, .int 0, w10])), (ks, .inr (3, [w11, w12, .int 0])), (bb, .inr (4, [w13, w14, .int 0]))] t.heap ∧ va_D (va_A [(h0, .inr (11, [.ref ks, w1, w2, w3, w4, w5, w6])), (pk, .inr (8, [w7, w8, .ref bb, w9, .int 0, w10])), (ks, .inr (3, [w11, w12, .int 0])), (bb, .inr (4, [w13, w14, .int 0]))] sz) [(h0, .inr (11, [.ref ks, w1, w2, w3, w4, .null, .null])), (pk, .inr (8, [w7, w8, .ref bb, w9, .int 0, w10])), (ks, .inr (3, [w11, w12, .int 0])), (bb, .inr (4, [w13, w14, .int 0]))]) (va_A [(h0, .inr (11, [.ref ks, w1, w2, w3, w4, w5, w6])), (pk, .inr (8, [w7, w8, .ref bb, w9, .int 0, w10])), (ks, .inr (3, [w11, w12, .int 0])), (bb, .inr (4, [w13, w14, .int 0]))] sz)) 0 0 (va_A [(h0, .inr (11, [.ref ks, w1, w2, w3, w4, w5, w6])), (pk, .inr (8, [w7, w8, .ref bb, w9, .int 0, w10])), (ks, .inr (3, [w11, w12, .int 0])), (bb, .inr (4, [w13, w14, .int 0]))] sz) := by
  refine Met.ofW (cc := cX7_joinAll) (maxL := 5) (ret := (some .int)) (by decide) rfl ?_
  intro p e s m args below meth c s₁ B hml hv
  obtain ⟨rfl, hsz, hP, hK, hD0, hN, hE, hO, hT, hG⟩ := hv
  have hx := B.exec
  have hb := B.bytes
  have hr := B.returns
  have hts := atoms_spec (ws := wz_c_X7_joinAll) B.pre
  have hown : s.vm.findClass RX7 = some m.cls := findClass_of_methodNamed B.named
  have hlocks := B.notSynchronized
  subst hsz
  have hD := hD0.self (sz := s.heap.size)
  generalize hAe : va_A [(h0, .inr (11, [.ref ks, w1, w2, w3, w4, w5, w6])), (pk, .inr (8, [w7, w8, .ref bb, w9, .int 0, w10])), (ks, .inr (3, [w11, w12, .int 0])), (bb, .inr (4, [w13, w14, .int 0]))] s.heap.size = A at hD hE hT hG ⊢
  have hA : ∀ q : Nat, s.heap.size ≤ q → A q := fun q h => by rw [← hAe]; exact Or.inr h
  have hS : va_S A s.heap s.heap [] := va_S.rf
  have hl := lv_entry ([.ref h0, .ref pk]) (n := 5) (Nat.le_of_ble_eq_true rfl)
  rw [lg_entry_eq]
  generalize (lg_sl ([.ref h0, .ref pk]) ++ List.replicate (5 - (lg_sl ([.ref h0, .ref pk])).length) Slot.unset).toArray = ls at hl ⊢
  have hl : lv_has ls 5 [(0, .ref h0), (1, .ref pk)] := hl
  refine lv_aload_n hx hb dX7_joinAll_0 rfl (lv_at hl 0 rfl) ?_
  refine lv_null hx hb dX7_joinAll_1 ?_
  refine va_put (D := D) (ci := 11) (v := .null) (ty := (.object "SignetRing$Key")) (C := RX7) (T := TX7) (N := 7) hx hb hts (by decide +kernel) tyX7 tyX7_ok nmX7 hown hK hP hD hS 0 rfl rfl 5 (by decide) (hts (.fieldLink RX7 52 "SignetRing$Ring" "key" "LSignetRing$Key;") (by decide +kernel)) (fun _ h9 => h9) rfl (by decide +kernel) rfl rfl (Nat.le_of_ble_eq_true rfl) dX7_joinAll_2 (fun H locs hP hD hS => ?_)
  have hP : va_P D vwCl [(h0, .inr (11, [.ref ks, w1, w2, w3, w4, .null, w6])), (pk, .inr (8, [w7, w8, .ref bb, w9, .int 0, w10])), (ks, .inr (3, [w11, w12, .int 0])), (bb, .inr (4, [w13, w14, .int 0]))] H := hP
  have hD : va_D A [(h0, .inr (11, [.ref ks, w1, w2, w3, w4, .null, w6])), (pk, .inr (8, [w7, w8, .ref bb, w9, .int 0, w10])), (ks, .inr (3, [w11, w12, .int 0])), (bb, .inr (4, [w13, w14, .int 0]))] := hD
  refine lv_aload_n hx hb dX7_joinAll_5 rfl (lv_at hl 0 rfl) ?_
  refine lv_null hx hb dX7_joinAll_6 ?_
  refine va_put (D := D) (ci := 11) (v := .null) (ty := (.object "SignetRing$Place")) (C := RX7) (T := TX7) (N := 7) hx hb hts (by decide +kernel) tyX7 tyX7_ok nmX7 hown hK hP hD hS 0 rfl rfl 6 (by decide) (hts (.fieldLink RX7 55 "SignetRing$Ring" "place" "LSignetRing$Place;") (by decide +kernel)) (fun _ h9 => h9) rfl (by decide +kernel) rfl rfl (Nat.le_of_ble_eq_true rfl) dX7_joinAll_7 (fun H locs hP hD hS => ?_)
  have hP : va_P D vwCl [(h0, .inr (11, [.ref ks, w1, w2, w3, w4, .null, .null])), (pk, .inr (8, [w7, w8, .ref bb, w9, .int 0, w10])), (ks, .inr (3, [w11, w12, .int 0])), (bb, .inr (4, [w13, w14, .int 0]))] H := hP
  have hD : va_D A [(h0, .inr (11, [.ref ks, w1, w2, w3, w4, .null, .null])), (pk, .inr (8, [w7, w8, .ref bb, w9, .int 0, w10])), (ks, .inr (3, [w11, w12, .int 0])), (bb, .inr (4, [w13, w14, .int 0]))] := hD
  refine lv_iconst (v := 0) hx hb dX7_joinAll_10 (by decide) ?_
  refine lv_istore_n (lv' := [(2, .int 0), (0, .ref h0), (1, .ref pk)]) hx hb dX7_joinAll_11 rfl hl (by decide) rfl (fun ls hl => ?_)
  refine lv_aload_n hx hb dX7_joinAll_12 rfl (lv_at hl 1 rfl) ?_
  refine va_get (D := D) (ci := 11) (v := .ref ks) (C := RX7) (T := TX7) (N := 7) hx hb hts (by decide +kernel) hown hK hP 0 rfl rfl 0 (by decide) (hts (.fieldLink RX7 12 "SignetRing$Ring" "keys" "Ljava/util/ArrayList;") (by decide +kernel)) (fun _ h9 => h9) rfl dX7_joinAll_13 ?_
  have hPc := hP.sub (ws' := [(ks, .inr (3, [w11, w12, .int 0]))]) [2] rfl
  have hDc := hD.sub (ws' := [(ks, .inr (3, [w11, w12, .int 0]))]) [2] (by decide) rfl
  have hFc := va_free (wc := [(ks, .inr (3, [w11, w12, .int 0]))]) hD hS hA [2] rfl
  refine va_calli (va_runV (As := []) (rest := []) ⟨hx, hb, hml, hown, hts⟩ (c_size l D y H.size ks w11 w12 0) (cwV 0 hts gv_c_X7_joinAll_c_size_59 rfl rfl rfl (by decide +kernel) ⟨(Nat.le_of_ble_eq_true rfl), (Nat.le_of_ble_eq_true rfl)⟩) (zB.preV hPc hDc hK hN hE hO hT hG hS hFc (fun _ h => nomatch h) (fun _ h => nomatch h) (fun _ h => nomatch h) (fun _ h => nomatch h) (va_recv hK hPc (ci := 3) (q0 := 0) rfl rfl)) rfl rfl hl.1 rfl (lv_room (Nat.le_of_ble_eq_true rfl)) dX7_joinAll_16 ⟨(Nat.le_of_ble_eq_true rfl), (Nat.le_of_ble_eq_true rfl)⟩) hS (fun q _ h => hFc q h) hFc (fun r1 u t H1 locs ht hvm hw hB hz1 hk1 hS => ?_)
  obtain ⟨hP1, hD1⟩ := hB
  rw [ht] at hP1
  obtain ⟨hP, hD⟩ := va_join (wr := [(h0, .inr (11, [.ref ks, w1, w2, w3, w4, .null, .null])), (pk, .inr (8, [w7, w8, .ref bb, w9, .int 0, w10])), (bb, .inr (4, [w13, w14, .int 0]))]) (w1 := [(ks, .inr (3, [w11, w12, .int 0]))]) hP hD [2] [0, 1, 3] rfl rfl (by decide) (by decide) hk1 hFc hP1 hD1
  generalize H1 = H at hP hS ⊢
  have hP : va_P D vwCl [(h0, .inr (11, [.ref ks, w1, w2, w3, w4, .null, .null])), (pk, .inr (8, [w7, w8, .ref bb, w9, .int 0, w10])), (bb, .inr (4, [w13, w14, .int 0])), (ks, .inr (3, [w11, w12, .int 0]))] H := hP
  have hD : va_D A [(h0, .inr (11, [.ref ks, w1, w2, w3, w4, .null, .null])), (pk, .inr (8, [w7, w8, .ref bb, w9, .int 0, w10])), (bb, .inr (4, [w13, w14, .int 0])), (ks, .inr (3, [w11, w12, .int 0]))] := hD
  have hw : r1 = 0 := hw
  subst hw
  refine lv_istore_n (lv' := [(3, .int 0), (2, .int 0), (0, .ref h0), (1, .ref pk)]) hx hb dX7_joinAll_19 rfl hl (by decide) rfl (fun ls hl => ?_)
  refine lv_iconst (v := 0) hx hb dX7_joinAll_20 (by decide) ?_
  refine lv_istore (lv' := [(4, .int 0), (3, .int 0), (2, .int 0), (0, .ref h0), (1, .ref pk)]) hx hb dX7_joinAll_21 hl (by decide) rfl (fun ls hl => ?_)
  refine lv_iload hx hb dX7_joinAll_23 (lv_at hl 0 rfl) ?_
  refine lv_sipush (v := 4096) hx hb dX7_joinAll_25 (by decide) ?_
  refine lv_icmp_gt (tgt := 96) hx hb dX7_joinAll_28 (by decide) (fun c9 => absurd c9 (by decide)) (fun _ => ?_)
  refine lv_aload_n hx hb dX7_joinAll_31 rfl (lv_at hl 4 rfl) ?_
  have hPc := hP.sub (ws' := [(pk, .inr (8, [w7, w8, .ref bb, w9, .int 0, w10])), (bb, .inr (4, [w13, w14, .int 0]))]) [1, 2] rfl
  have hDc := hD.sub (ws' := [(pk, .inr (8, [w7, w8, .ref bb, w9, .int 0, w10])), (bb, .inr (4, [w13, w14, .int 0]))]) [1, 2] (by decide) rfl
  have hFc := va_free (wc := [(pk, .inr (8, [w7, w8, .ref bb, w9, .int 0, w10])), (bb, .inr (4, [w13, w14, .int 0]))]) hD hS hA [1, 2] rfl
  refine va_calli (va_runV (As := []) (rest := []) ⟨hx, hb, hml, hown, hts⟩ (c_X4_more l D y H.size pk bb w7 w8 w9 w10 w13 w14) (cwV 0 hts gv_c_X7_joinAll_c_X4_more_63 rfl rfl rfl (by decide +kernel) ⟨(Nat.le_of_ble_eq_true rfl), (Nat.le_of_ble_eq_true rfl)⟩) (zB.preV hPc hDc hK hN hE hO hT hG hS hFc (fun _ h => nomatch h) (fun _ h => nomatch h) (fun _ h => nomatch h) (fun _ h => nomatch h) (va_recv hK hPc (ci := 8) (q0 := 0) rfl rfl)) rfl rfl hl.1 rfl (lv_room (Nat.le_of_ble_eq_true rfl)) dX7_joinAll_32 ⟨(Nat.le_of_ble_eq_true rfl), (Nat.le_of_ble_eq_true rfl)⟩) hS (fun q _ h => hFc q h) hFc (fun r2 u t H1 locs ht hvm hw hB hz1 hk1 hS => ?_)
  obtain ⟨hP1, hD1⟩ := hB
  rw [ht] at hP1
  obtain ⟨hP, hD⟩ := va_join (wr := [(h0, .inr (11, [.ref ks, w1, w2, w3, w4, .null, .null])), (ks, .inr (3, [w11, w12, .int 0]))]) (w1 := [(pk, .inr (8, [w7, w8, .ref bb, w9, .int 0, w10])), (bb, .inr (4, [w13, w14, .int 0]))]) hP hD [1, 2] [0, 3] rfl rfl (by decide) (by decide) hk1 hFc hP1 hD1
  generalize H1 = H at hP hS ⊢
  have hP : va_P D vwCl [(h0, .inr (11, [.ref ks, w1, w2, w3, w4, .null, .null])), (ks, .inr (3, [w11, w12, .int 0])), (pk, .inr (8, [w7, w8, .ref bb, w9, .int 0, w10])), (bb, .inr (4, [w13, w14, .int 0]))] H := hP
  have hD : va_D A [(h0, .inr (11, [.ref ks, w1, w2, w3, w4, .null, .null])), (ks, .inr (3, [w11, w12, .int 0])), (pk, .inr (8, [w7, w8, .ref bb, w9, .int 0, w10])), (bb, .inr (4, [w13, w14, .int 0]))] := hD
  have hw : r2 = 0 := hw
  subst hw
  refine lv_if_eq (tgt := 96) hx hb dX7_joinAll_35 (by decide) (fun _ => ?_) (fun c9 => absurd (by decide) c9)
  refine lv_iconst (v := 0) hx hb dX7_joinAll_96 (by decide) ?_
  refine lv_istore (lv' := [(4, .int 0), (3, .int 0), (2, .int 0), (0, .ref h0), (1, .ref pk)]) hx hb dX7_joinAll_97 hl (by decide) rfl (fun ls hl => ?_)
  refine lv_iload hx hb dX7_joinAll_99 (lv_at hl 0 rfl) ?_
  refine lv_aload_n hx hb dX7_joinAll_101 rfl (lv_at hl 3 rfl) ?_
  refine va_get (D := D) (ci := 11) (v := .ref ks) (C := RX7) (T := TX7) (N := 7) hx hb hts (by decide +kernel) hown hK hP 0 rfl rfl 0 (by decide) (hts (.fieldLink RX7 12 "SignetRing$Ring" "keys" "Ljava/util/ArrayList;") (by decide +kernel)) (fun _ h9 => h9) rfl dX7_joinAll_102 ?_
  have hPc := hP.sub (ws' := [(ks, .inr (3, [w11, w12, .int 0]))]) [1] rfl
  have hDc := hD.sub (ws' := [(ks, .inr (3, [w11, w12, .int 0]))]) [1] (by decide) rfl
  have hFc := va_free (wc := [(ks, .inr (3, [w11, w12, .int 0]))]) hD hS hA [1] rfl
  refine va_calli (va_runV (As := []) (rest := [.int 0]) ⟨hx, hb, hml, hown, hts⟩ (c_size l D y H.size ks w11 w12 0) (cwV 0 hts gv_c_X7_joinAll_c_size_59 rfl rfl rfl (by decide +kernel) ⟨(Nat.le_of_ble_eq_true rfl), (Nat.le_of_ble_eq_true rfl)⟩) (zB.preV hPc hDc hK hN hE hO hT hG hS hFc (fun _ h => nomatch h) (fun _ h => nomatch h) (fun _ h => nomatch h) (fun _ h => nomatch h) (va_recv hK hPc (ci := 3) (q0 := 0) rfl rfl)) rfl rfl hl.1 rfl (lv_room (Nat.le_of_ble_eq_true rfl)) dX7_joinAll_105 ⟨(Nat.le_of_ble_eq_true rfl), (Nat.le_of_ble_eq_true rfl)⟩) hS (fun q _ h => hFc q h) hFc (fun r3 u t H1 locs ht hvm hw hB hz1 hk1 hS => ?_)
  obtain ⟨hP1, hD1⟩ := hB
  rw [ht] at hP1
  obtain ⟨hP, hD⟩ := va_join (wr := [(h0, .inr (11, [.ref ks, w1, w2, w3, w4, .null, .null])), (pk, .inr (8, [w7, w8, .ref bb, w9, .int 0, w10])), (bb, .inr (4, [w13, w14, .int 0]))]) (w1 := [(ks, .inr (3, [w11, w12, .int 0]))]) hP hD [1] [0, 2, 3] rfl rfl (by decide) (by decide) hk1 hFc hP1 hD1
  generalize H1 = H at hP hS ⊢
  have hP : va_P D vwCl [(h0, .inr (11, [.ref ks, w1, w2, w3, w4, .null, .null])), (pk, .inr (8, [w7, w8, .ref bb, w9, .int 0, w10])), (bb, .inr (4, [w13, w14, .int 0])), (ks, .inr (3, [w11, w12, .int 0]))] H := hP
  have hD : va_D A [(h0, .inr (11, [.ref ks, w1, w2, w3, w4, .null, .null])), (pk, .inr (8, [w7, w8, .ref bb, w9, .int 0, w10])), (bb, .inr (4, [w13, w14, .int 0])), (ks, .inr (3, [w11, w12, .int 0]))] := hD
  have hw : r3 = 0 := hw
  subst hw
  refine lv_icmp_ge (tgt := 132) hx hb dX7_joinAll_108 (by decide) (fun _ => ?_) (fun c9 => absurd (by decide) c9)
  refine lv_iload_n hx hb dX7_joinAll_132 rfl (lv_at hl 2 rfl) ?_
  refine lv_if_le (tgt := 140) hx hb dX7_joinAll_133 (by decide) (fun _ => ?_) (fun c9 => absurd (by decide) c9)
  refine lv_iconst (v := -1) hx hb dX7_joinAll_140 (by decide) ?_
  refine lv_aload_n hx hb dX7_joinAll_141 rfl (lv_at hl 4 rfl) ?_
  refine va_get (D := D) (ci := 8) (v := .ref bb) (C := RX4) (T := TX4) (N := 6) hx hb hts (by decide +kernel) hown hK hP 1 rfl rfl 2 (by decide) (hts (.fieldLink RX7 97 "SignetRing$Packets" "in" "LSignetRing$Span;") (by decide +kernel)) (fun _ h9 => h9) rfl dX7_joinAll_142 ?_
  refine va_get (D := D) (ci := 4) (v := .int 0) (C := RX0) (T := TX0) (N := 3) hx hb hts (by decide +kernel) hown hK hP 2 rfl rfl 2 (by decide) (hts (.fieldLink RX7 100 "SignetRing$Span" "size" "I") (by decide +kernel)) (fun _ h9 => h9) rfl dX7_joinAll_145 ?_
  refine lv_isub hx hb dX7_joinAll_148 ?_
  refine lv_topi (fun v4 ev4 => ?_)
  have ev4 : v4 = -1 := ev4.trans (by decide +kernel)
  subst ev4
  have hP9 := hP.sub (ws' := [(h0, .inr (11, [.ref ks, w1, w2, w3, w4, .null, .null])), (pk, .inr (8, [w7, w8, .ref bb, w9, .int 0, w10])), (ks, .inr (3, [w11, w12, .int 0])), (bb, .inr (4, [w13, w14, .int 0]))]) [0, 1, 3, 2] rfl
  have hD9 := hD.sub (ws' := [(h0, .inr (11, [.ref ks, w1, w2, w3, w4, .null, .null])), (pk, .inr (8, [w7, w8, .ref bb, w9, .int 0, w10])), (ks, .inr (3, [w11, w12, .int 0])), (bb, .inr (4, [w13, w14, .int 0]))]) [0, 1, 3, 2] (by decide) rfl
  refine W.widen (k := 0) (n := 0) (Nat.le_of_ble_eq_true rfl) (Nat.le_of_ble_eq_true rfl) ?_
  exact W.iret (v := (-1)) hx hb hr (fun t ht hW => ⟨⟨(-1), (), rfl, rfl, by rw [ht]; exact hP9, hD9⟩, hS.F ht⟩) hS.2.2 dX7_joinAll_149
def wz_c_X11_openKeys : List Cond := .code yX11_openKeys cX11_openKeys 1 (some .int) :: ([.fieldLink RX11 39 "SignetRing" "packets" "LSignetRing$Packets;", .fieldLink RX11 14 "SignetRing" "bytes" "LSignetRing$Bytes;", .methodLink RX11 234 yX4_open, .instanceMethod yX4_open, .selects RX4 yX4_open yX4_open, .initialized RX4, .methodLink RX11 238 yX11_isInSigns, .instanceMethod yX11_isInSigns, .selects RX11 yX11_isInSigns yX11_isInSigns, .initialized RX11] ++ (wsX110 ++ (wz_c_X4_open ++ (wz_c_X11_isInSigns ++ ([])))))
set_option maxRecDepth 100000 in
theorem gz_c_X11_openKeys_c_X4_open : GoodIn wz_c_X11_openKeys wz_c_X4_open := goodIn_sub (fun w h => List.mem_cons_of_mem _ (List.mem_append_right _ (List.mem_append_right _ (List.mem_append_left _ h)))) (by decide +kernel)
set_option maxRecDepth 100000 in
theorem gz_c_X11_openKeys_c_X11_isInSigns : GoodIn wz_c_X11_openKeys wz_c_X11_isInSigns := goodIn_sub (fun w h => List.mem_cons_of_mem _ (List.mem_append_right _ (List.mem_append_right _ (List.mem_append_right _ (List.mem_append_left _ h))))) (by decide +kernel)
set_option maxRecDepth 100000 in
theorem gv_c_X11_openKeys_c_X4_open_234 : GoodIn wz_c_X11_openKeys (wsV RX11 234 RX4 yX4_open wz_c_X4_open) := goodIn_app (goodIn_of _ (by decide +kernel)) gz_c_X11_openKeys_c_X4_open
set_option maxRecDepth 100000 in
theorem gv_c_X11_openKeys_c_X11_isInSigns_238 : GoodIn wz_c_X11_openKeys (wsV RX11 238 RX11 yX11_isInSigns wz_c_X11_isInSigns) := goodIn_app (goodIn_of _ (by decide +kernel)) gz_c_X11_openKeys_c_X11_isInSigns
set_option maxHeartbeats 4000000 in
set_option maxRecDepth 100000 in
theorem c_X11_openKeys (l : Launch) (D : va_G) (y : Nat → ClassId) (sz : Nat) (h0 : Nat) (pk : Nat) (bb : Nat) (w1 : Value) (w2 : Value) (w3 : Value) (w4 : Value) (w5 : Value) (w6 : Value) (w7 : Value) (w8 : Value) (w9 : Value) (w10 : Value) (w11 : Value) (w12 : Value) (w13 : Value) (w14 : Value) (w15 : Value) (w16 : Value) (w17 : Value) (w18 : Value) (w19 : Value) (w20 : Value) : Met l yX11_openKeys wz_c_X11_openKeys ({ frames := 1, cells := 0, slots := 0, locals := 21 }) (va_Pc [.ref h0] (zB D y [(h0, .inr (15, [.ref bb, w1, w2, w3, w4, .ref pk, w5, w6, w7, w8, w9, w10, w11, w12, w13])), (pk, .inr (8, [w14, w15, w16, w17, w18, w19])), (bb, .inr (4, [w20, .int 0, .int 0]))] sz [] [] [] [])) (va_Qi (fun (r : Int32) (_ : Unit) => r = 0) (fun _ t => va_P D vwCl [(h0, .inr (15, [.ref bb, w1, w2, w3, w4, .ref pk, w5, w6, w7, w8, w9, w10, w11, w12, w13])), (pk, .inr (8, [w14, w15, .ref bb, .int 0, .int 0, w19])), (bb, .inr (4, [w20, .int 0, .int 0]))] t.heap ∧ va_D (va_A [(h0, .inr (15, [.ref bb, w1, w2, w3, w4, .ref pk, w5, w6, w7, w8, w9, w10, w11, w12, w13])), (pk, .inr (8, [w14, w15, w16, w17, w18, w19])), (bb, .inr (4, [w20, .int 0, .int 0]))] sz) [(h0, .inr (15, [.ref bb, w1, w2, w3, w4, .ref pk, w5, w6, w7, w8, w9, w10, w11, w12, w13])), (pk, .inr (8, [w14, w15, .ref bb, .int 0, .int 0, w19])), (bb, .inr (4, [w20, .int 0, .int 0]))]) (va_A [(h0, .inr (15, [.ref bb, w1, w2, w3, w4, .ref pk, w5, w6, w7, w8, w9, w10, w11, w12, w13])), (pk, .inr (8, [w14, w15, w16, w17, w18, w19])), (bb, .inr (4, [w20, .int 0, .int 0]))] sz)) 0 0 (va_A [(h0, .inr (15, [.ref bb, w1, w2, w3, w4, .ref pk, w5, w6, w7, w8, w9, w10, w11, w12, w13])), (pk, .inr (8, [w14, w15, w16, w17, w18, w19])), (bb, .inr (4, [w20, .int 0, .int 0]))] sz) := by
  refine Met.ofW (cc := cX11_openKeys) (maxL := 1) (ret := (some .int)) (by decide) rfl ?_
  intro p e s m args below meth c s₁ B hml hv
  obtain ⟨rfl, hsz, hP, hK, hD0, hN, hE, hO, hT, hG⟩ := hv
  have hx := B.exec
  have hb := B.bytes
  have hr := B.returns
  have hts := atoms_spec (ws := wz_c_X11_openKeys) B.pre
  have hown : s.vm.findClass RX11 = some m.cls := findClass_of_methodNamed B.named
  have hlocks := B.notSynchronized
  subst hsz
  have hD := hD0.self (sz := s.heap.size)
  generalize hAe : va_A [(h0, .inr (15, [.ref bb, w1, w2, w3, w4, .ref pk, w5, w6, w7, w8, w9, w10, w11, w12, w13])), (pk, .inr (8, [w14, w15, w16, w17, w18, w19])), (bb, .inr (4, [w20, .int 0, .int 0]))] s.heap.size = A at hD hE hT hG ⊢
  have hA : ∀ q : Nat, s.heap.size ≤ q → A q := fun q h => by rw [← hAe]; exact Or.inr h
  have hS : va_S A s.heap s.heap [] := va_S.rf
  have hl := lv_entry ([.ref h0]) (n := 1) (Nat.le_of_ble_eq_true rfl)
  rw [lg_entry_eq]
  generalize (lg_sl ([.ref h0]) ++ List.replicate (1 - (lg_sl ([.ref h0])).length) Slot.unset).toArray = ls at hl ⊢
  have hl : lv_has ls 1 [(0, .ref h0)] := hl
  refine lv_aload_n hx hb dX11_openKeys_0 rfl (lv_at hl 0 rfl) ?_
  refine va_get (D := D) (ci := 15) (v := .ref pk) (C := RX11) (T := TX11) (N := 15) hx hb hts (by decide +kernel) hown hK hP 0 rfl rfl 5 (by decide) (hts (.fieldLink RX11 39 "SignetRing" "packets" "LSignetRing$Packets;") (by decide +kernel)) (fun _ h9 => h9) rfl dX11_openKeys_1 ?_
  refine lv_aload_n hx hb dX11_openKeys_4 rfl (lv_at hl 0 rfl) ?_
  refine va_get (D := D) (ci := 15) (v := .ref bb) (C := RX11) (T := TX11) (N := 15) hx hb hts (by decide +kernel) hown hK hP 0 rfl rfl 0 (by decide) (hts (.fieldLink RX11 14 "SignetRing" "bytes" "LSignetRing$Bytes;") (by decide +kernel)) (fun _ h9 => h9) rfl dX11_openKeys_5 ?_
  have hPc := hP.sub (ws' := [(pk, .inr (8, [w14, w15, w16, w17, w18, w19]))]) [1] rfl
  have hDc := hD.sub (ws' := [(pk, .inr (8, [w14, w15, w16, w17, w18, w19]))]) [1] (by decide) rfl
  have hFc := va_free (wc := [(pk, .inr (8, [w14, w15, w16, w17, w18, w19]))]) hD hS hA [1] rfl
  refine va_callv (va_runV (As := [.ref bb]) (rest := []) ⟨hx, hb, hml, hown, hts⟩ (c_X4_open l D y s.heap.size pk bb w14 w15 w16 w17 w18 w19) (cwV 1 hts gv_c_X11_openKeys_c_X4_open_234 rfl rfl rfl (by decide +kernel) ⟨(Nat.le_of_ble_eq_true rfl), (Nat.le_of_ble_eq_true rfl)⟩) (zB.preV hPc hDc hK hN hE hO hT hG hS hFc (fun _ h => nomatch h) (fun _ h => nomatch h) (fun _ h => nomatch h) (fun _ h => nomatch h) (va_recv hK hPc (ci := 8) (q0 := 0) rfl rfl)) rfl rfl hl.1 rfl (lv_room (Nat.le_of_ble_eq_true rfl)) dX11_openKeys_8 ⟨(Nat.le_of_ble_eq_true rfl), (Nat.le_of_ble_eq_true rfl)⟩) hS (fun q _ h => hFc q h) hFc (fun u t H1 locs ht hvm hw hB hz1 hk1 hS => ?_)
  obtain ⟨hP1, hD1⟩ := hB
  rw [ht] at hP1
  obtain ⟨hP, hD⟩ := va_join (wr := [(h0, .inr (15, [.ref bb, w1, w2, w3, w4, .ref pk, w5, w6, w7, w8, w9, w10, w11, w12, w13])), (bb, .inr (4, [w20, .int 0, .int 0]))]) (w1 := [(pk, .inr (8, [w14, w15, .ref bb, .int 0, .int 0, w19]))]) hP hD [1] [0, 2] rfl rfl (by decide) (by decide) hk1 hFc hP1 hD1
  generalize H1 = H at hP hS ⊢
  have hP : va_P D vwCl [(h0, .inr (15, [.ref bb, w1, w2, w3, w4, .ref pk, w5, w6, w7, w8, w9, w10, w11, w12, w13])), (bb, .inr (4, [w20, .int 0, .int 0])), (pk, .inr (8, [w14, w15, .ref bb, .int 0, .int 0, w19]))] H := hP
  have hD : va_D A [(h0, .inr (15, [.ref bb, w1, w2, w3, w4, .ref pk, w5, w6, w7, w8, w9, w10, w11, w12, w13])), (bb, .inr (4, [w20, .int 0, .int 0])), (pk, .inr (8, [w14, w15, .ref bb, .int 0, .int 0, w19]))] := hD
  refine lv_aload_n hx hb dX11_openKeys_11 rfl (lv_at hl 0 rfl) ?_
  have hPc := hP.sub (ws' := [(h0, .inr (15, [.ref bb, w1, w2, w3, w4, .ref pk, w5, w6, w7, w8, w9, w10, w11, w12, w13])), (bb, .inr (4, [w20, .int 0, .int 0]))]) [0, 1] rfl
  have hDc := hD.sub (ws' := [(h0, .inr (15, [.ref bb, w1, w2, w3, w4, .ref pk, w5, w6, w7, w8, w9, w10, w11, w12, w13])), (bb, .inr (4, [w20, .int 0, .int 0]))]) [0, 1] (by decide) rfl
  have hFc := va_free (wc := [(h0, .inr (15, [.ref bb, w1, w2, w3, w4, .ref pk, w5, w6, w7, w8, w9, w10, w11, w12, w13])), (bb, .inr (4, [w20, .int 0, .int 0]))]) hD hS hA [0, 1] rfl
  refine va_calli (va_runV (As := []) (rest := []) ⟨hx, hb, hml, hown, hts⟩ (c_X11_isInSigns l D y H.size h0 bb w1 w2 w3 w4 ((.ref pk)) w5 w6 w7 w8 w9 w10 w11 w12 w13 w20) (cwV 0 hts gv_c_X11_openKeys_c_X11_isInSigns_238 rfl rfl rfl (by decide +kernel) ⟨(Nat.le_of_ble_eq_true rfl), (Nat.le_of_ble_eq_true rfl)⟩) (zB.preV hPc hDc hK hN hE hO hT hG hS hFc (fun _ h => nomatch h) (fun _ h => nomatch h) (fun _ h => nomatch h) (fun _ h => nomatch h) (va_recv hK hPc (ci := 15) (q0 := 0) rfl rfl)) rfl rfl hl.1 rfl (lv_room (Nat.le_of_ble_eq_true rfl)) dX11_openKeys_12 ⟨(Nat.le_of_ble_eq_true rfl), (Nat.le_of_ble_eq_true rfl)⟩) hS (fun q _ h => hFc q h) hFc (fun r1 u t H1 locs ht hvm hw hB hz1 hk1 hS => ?_)
  obtain ⟨hP1, hD1⟩ := hB
  rw [ht] at hP1
  obtain ⟨hP, hD⟩ := va_join (wr := [(pk, .inr (8, [w14, w15, .ref bb, .int 0, .int 0, w19]))]) (w1 := [(h0, .inr (15, [.ref bb, w1, w2, w3, w4, .ref pk, w5, w6, w7, w8, w9, w10, w11, w12, w13])), (bb, .inr (4, [w20, .int 0, .int 0]))]) hP hD [0, 1] [2] rfl rfl (by decide) (by decide) hk1 hFc hP1 hD1
  generalize H1 = H at hP hS ⊢
  have hP : va_P D vwCl [(pk, .inr (8, [w14, w15, .ref bb, .int 0, .int 0, w19])), (h0, .inr (15, [.ref bb, w1, w2, w3, w4, .ref pk, w5, w6, w7, w8, w9, w10, w11, w12, w13])), (bb, .inr (4, [w20, .int 0, .int 0]))] H := hP
  have hD : va_D A [(pk, .inr (8, [w14, w15, .ref bb, .int 0, .int 0, w19])), (h0, .inr (15, [.ref bb, w1, w2, w3, w4, .ref pk, w5, w6, w7, w8, w9, w10, w11, w12, w13])), (bb, .inr (4, [w20, .int 0, .int 0]))] := hD
  have hw : r1 = 0 := hw
  subst hw
  refine lv_if_eq (tgt := 25) hx hb dX11_openKeys_15 (by decide) (fun _ => ?_) (fun c9 => absurd (by decide) c9)
  refine lv_iconst (v := 0) hx hb dX11_openKeys_25 (by decide) ?_
  have hP9 := hP.sub (ws' := [(h0, .inr (15, [.ref bb, w1, w2, w3, w4, .ref pk, w5, w6, w7, w8, w9, w10, w11, w12, w13])), (pk, .inr (8, [w14, w15, .ref bb, .int 0, .int 0, w19])), (bb, .inr (4, [w20, .int 0, .int 0]))]) [1, 0, 2] rfl
  have hD9 := hD.sub (ws' := [(h0, .inr (15, [.ref bb, w1, w2, w3, w4, .ref pk, w5, w6, w7, w8, w9, w10, w11, w12, w13])), (pk, .inr (8, [w14, w15, .ref bb, .int 0, .int 0, w19])), (bb, .inr (4, [w20, .int 0, .int 0]))]) [1, 0, 2] (by decide) rfl
  refine W.widen (k := 0) (n := 0) (Nat.le_of_ble_eq_true rfl) (Nat.le_of_ble_eq_true rfl) ?_
  exact W.iret (v := 0) hx hb hr (fun t ht hW => ⟨⟨0, (), rfl, rfl, by rw [ht]; exact hP9, hD9⟩, hS.F ht⟩) hS.2.2 dX11_openKeys_26
def wz_c_X11_join : List Cond := .code yX11_join cX11_join 2 (some .int) :: ([.methodLink RX11 93 yX11_openKeys, .instanceMethod yX11_openKeys, .selects RX11 yX11_openKeys yX11_openKeys, .initialized RX11, .fieldLink RX11 60 "SignetRing" "ring" "LSignetRing$Ring;", .fieldLink RX11 39 "SignetRing" "packets" "LSignetRing$Packets;", .methodLink RX11 97 yX7_joinAll, .instanceMethod yX7_joinAll, .selects RX7 yX7_joinAll yX7_joinAll, .initialized RX7, .fieldLink RX11 14 "SignetRing" "bytes" "LSignetRing$Bytes;", .fieldLink RX11 86 "SignetRing$Bytes" "size" "I", .sameField "SignetRing$Bytes" "SignetRing$Span" "size" "I"] ++ (wsX110 ++ (wsX00 ++ (wz_c_X11_openKeys ++ (wz_c_X7_joinAll ++ ([]))))))
set_option maxRecDepth 100000 in
theorem gz_c_X11_join_c_X11_openKeys : GoodIn wz_c_X11_join wz_c_X11_openKeys := goodIn_sub (fun w h => List.mem_cons_of_mem _ (List.mem_append_right _ (List.mem_append_right _ (List.mem_append_right _ (List.mem_append_left _ h))))) (by decide +kernel)
set_option maxRecDepth 100000 in
theorem gz_c_X11_join_c_X7_joinAll : GoodIn wz_c_X11_join wz_c_X7_joinAll := goodIn_sub (fun w h => List.mem_cons_of_mem _ (List.mem_append_right _ (List.mem_append_right _ (List.mem_append_right _ (List.mem_append_right _ (List.mem_append_left _ h)))))) (by decide +kernel)
set_option maxRecDepth 100000 in
theorem gv_c_X11_join_c_X11_openKeys_93 : GoodIn wz_c_X11_join (wsV RX11 93 RX11 yX11_openKeys wz_c_X11_openKeys) := goodIn_app (goodIn_of _ (by decide +kernel)) gz_c_X11_join_c_X11_openKeys
set_option maxRecDepth 100000 in
theorem gv_c_X11_join_c_X7_joinAll_97 : GoodIn wz_c_X11_join (wsV RX11 97 RX7 yX7_joinAll wz_c_X7_joinAll) := goodIn_app (goodIn_of _ (by decide +kernel)) gz_c_X11_join_c_X7_joinAll
set_option maxHeartbeats 4000000 in
set_option maxRecDepth 100000 in
theorem c_X11_join (l : Launch) (D : va_G) (y : Nat → ClassId) (sz : Nat) (h0 : Nat) (g : Nat) (pk : Nat) (ks : Nat) (bb : Nat) (w1 : Value) (w2 : Value) (w3 : Value) (w4 : Value) (w5 : Value) (w6 : Value) (w7 : Value) (w8 : Value) (w9 : Value) (w10 : Value) (w11 : Value) (w12 : Value) (w13 : Value) (w14 : Value) (w15 : Value) (w16 : Value) (w17 : Value) (w18 : Value) (w19 : Value) (w20 : Value) (w21 : Value) (w22 : Value) (w23 : Value) (w24 : Value) (w25 : Value) (w26 : Value) (w27 : Value) : Met l yX11_join wz_c_X11_join ({ frames := 2, cells := 0, slots := 0, locals := 44 }) (va_Pc [.ref h0] (zB D y [(h0, .inr (15, [.ref bb, w1, w2, w3, w4, .ref pk, w5, w6, .ref g, w7, w8, w9, w10, w11, w12])), (g, .inr (11, [.ref ks, w13, w14, w15, w16, w17, w18])), (pk, .inr (8, [w19, w20, w21, w22, w23, w24])), (ks, .inr (3, [w25, w26, .int 0])), (bb, .inr (4, [w27, .int 0, .int 0]))] sz [] [] [] [])) (va_Qi (fun (r : Int32) (_ : Unit) => r = -1) (fun _ t => va_P D vwCl [(h0, .inr (15, [.ref bb, w1, w2, w3, w4, .ref pk, w5, w6, .ref g, w7, w8, w9, w10, w11, w12])), (g, .inr (11, [.ref ks, w13, w14, w15, w16, .null, .null])), (pk, .inr (8, [w19, w20, .ref bb, .int 0, .int 0, w24])), (ks, .inr (3, [w25, w26, .int 0])), (bb, .inr (4, [w27, .int 0, .int 0]))] t.heap ∧ va_D (va_A [(h0, .inr (15, [.ref bb, w1, w2, w3, w4, .ref pk, w5, w6, .ref g, w7, w8, w9, w10, w11, w12])), (g, .inr (11, [.ref ks, w13, w14, w15, w16, w17, w18])), (pk, .inr (8, [w19, w20, w21, w22, w23, w24])), (ks, .inr (3, [w25, w26, .int 0])), (bb, .inr (4, [w27, .int 0, .int 0]))] sz) [(h0, .inr (15, [.ref bb, w1, w2, w3, w4, .ref pk, w5, w6, .ref g, w7, w8, w9, w10, w11, w12])), (g, .inr (11, [.ref ks, w13, w14, w15, w16, .null, .null])), (pk, .inr (8, [w19, w20, .ref bb, .int 0, .int 0, w24])), (ks, .inr (3, [w25, w26, .int 0])), (bb, .inr (4, [w27, .int 0, .int 0]))]) (va_A [(h0, .inr (15, [.ref bb, w1, w2, w3, w4, .ref pk, w5, w6, .ref g, w7, w8, w9, w10, w11, w12])), (g, .inr (11, [.ref ks, w13, w14, w15, w16, w17, w18])), (pk, .inr (8, [w19, w20, w21, w22, w23, w24])), (ks, .inr (3, [w25, w26, .int 0])), (bb, .inr (4, [w27, .int 0, .int 0]))] sz)) 0 0 (va_A [(h0, .inr (15, [.ref bb, w1, w2, w3, w4, .ref pk, w5, w6, .ref g, w7, w8, w9, w10, w11, w12])), (g, .inr (11, [.ref ks, w13, w14, w15, w16, w17, w18])), (pk, .inr (8, [w19, w20, w21, w22, w23, w24])), (ks, .inr (3, [w25, w26, .int 0])), (bb, .inr (4, [w27, .int 0, .int 0]))] sz) := by
  refine Met.ofW (cc := cX11_join) (maxL := 2) (ret := (some .int)) (by decide) rfl ?_
  intro p e s m args below meth c s₁ B hml hv
  obtain ⟨rfl, hsz, hP, hK, hD0, hN, hE, hO, hT, hG⟩ := hv
  have hx := B.exec
  have hb := B.bytes
  have hr := B.returns
  have hts := atoms_spec (ws := wz_c_X11_join) B.pre
  have hown : s.vm.findClass RX11 = some m.cls := findClass_of_methodNamed B.named
  have hlocks := B.notSynchronized
  subst hsz
  have hD := hD0.self (sz := s.heap.size)
  generalize hAe : va_A [(h0, .inr (15, [.ref bb, w1, w2, w3, w4, .ref pk, w5, w6, .ref g, w7, w8, w9, w10, w11, w12])), (g, .inr (11, [.ref ks, w13, w14, w15, w16, w17, w18])), (pk, .inr (8, [w19, w20, w21, w22, w23, w24])), (ks, .inr (3, [w25, w26, .int 0])), (bb, .inr (4, [w27, .int 0, .int 0]))] s.heap.size = A at hD hE hT hG ⊢
  have hA : ∀ q : Nat, s.heap.size ≤ q → A q := fun q h => by rw [← hAe]; exact Or.inr h
  have hS : va_S A s.heap s.heap [] := va_S.rf
  have hl := lv_entry ([.ref h0]) (n := 2) (Nat.le_of_ble_eq_true rfl)
  rw [lg_entry_eq]
  generalize (lg_sl ([.ref h0]) ++ List.replicate (2 - (lg_sl ([.ref h0])).length) Slot.unset).toArray = ls at hl ⊢
  have hl : lv_has ls 2 [(0, .ref h0)] := hl
  refine lv_aload_n hx hb dX11_join_0 rfl (lv_at hl 0 rfl) ?_
  have hPc := hP.sub (ws' := [(h0, .inr (15, [.ref bb, w1, w2, w3, w4, .ref pk, w5, w6, .ref g, w7, w8, w9, w10, w11, w12])), (pk, .inr (8, [w19, w20, w21, w22, w23, w24])), (bb, .inr (4, [w27, .int 0, .int 0]))]) [0, 2, 4] rfl
  have hDc := hD.sub (ws' := [(h0, .inr (15, [.ref bb, w1, w2, w3, w4, .ref pk, w5, w6, .ref g, w7, w8, w9, w10, w11, w12])), (pk, .inr (8, [w19, w20, w21, w22, w23, w24])), (bb, .inr (4, [w27, .int 0, .int 0]))]) [0, 2, 4] (by decide) rfl
  have hFc := va_free (wc := [(h0, .inr (15, [.ref bb, w1, w2, w3, w4, .ref pk, w5, w6, .ref g, w7, w8, w9, w10, w11, w12])), (pk, .inr (8, [w19, w20, w21, w22, w23, w24])), (bb, .inr (4, [w27, .int 0, .int 0]))]) hD hS hA [0, 2, 4] rfl
  refine va_calli (va_runV (As := []) (rest := []) ⟨hx, hb, hml, hown, hts⟩ (c_X11_openKeys l D y s.heap.size h0 pk bb w1 w2 w3 w4 w5 w6 ((.ref g)) w7 w8 w9 w10 w11 w12 w19 w20 w21 w22 w23 w24 w27) (cwV 0 hts gv_c_X11_join_c_X11_openKeys_93 rfl rfl rfl (by decide +kernel) ⟨(Nat.le_of_ble_eq_true rfl), (Nat.le_of_ble_eq_true rfl)⟩) (zB.preV hPc hDc hK hN hE hO hT hG hS hFc (fun _ h => nomatch h) (fun _ h => nomatch h) (fun _ h => nomatch h) (fun _ h => nomatch h) (va_recv hK hPc (ci := 15) (q0 := 0) rfl rfl)) rfl rfl hl.1 rfl (lv_room (Nat.le_of_ble_eq_true rfl)) dX11_join_1 ⟨(Nat.le_of_ble_eq_true rfl), (Nat.le_of_ble_eq_true rfl)⟩) hS (fun q _ h => hFc q h) hFc (fun r1 u t H1 locs ht hvm hw hB hz1 hk1 hS => ?_)
  obtain ⟨hP1, hD1⟩ := hB
  rw [ht] at hP1
  obtain ⟨hP, hD⟩ := va_join (wr := [(g, .inr (11, [.ref ks, w13, w14, w15, w16, w17, w18])), (ks, .inr (3, [w25, w26, .int 0]))]) (w1 := [(h0, .inr (15, [.ref bb, w1, w2, w3, w4, .ref pk, w5, w6, .ref g, w7, w8, w9, w10, w11, w12])), (pk, .inr (8, [w19, w20, .ref bb, .int 0, .int 0, w24])), (bb, .inr (4, [w27, .int 0, .int 0]))]) hP hD [0, 2, 4] [1, 3] rfl rfl (by decide) (by decide) hk1 hFc hP1 hD1
  generalize H1 = H at hP hS ⊢
  have hP : va_P D vwCl [(g, .inr (11, [.ref ks, w13, w14, w15, w16, w17, w18])), (ks, .inr (3, [w25, w26, .int 0])), (h0, .inr (15, [.ref bb, w1, w2, w3, w4, .ref pk, w5, w6, .ref g, w7, w8, w9, w10, w11, w12])), (pk, .inr (8, [w19, w20, .ref bb, .int 0, .int 0, w24])), (bb, .inr (4, [w27, .int 0, .int 0]))] H := hP
  have hD : va_D A [(g, .inr (11, [.ref ks, w13, w14, w15, w16, w17, w18])), (ks, .inr (3, [w25, w26, .int 0])), (h0, .inr (15, [.ref bb, w1, w2, w3, w4, .ref pk, w5, w6, .ref g, w7, w8, w9, w10, w11, w12])), (pk, .inr (8, [w19, w20, .ref bb, .int 0, .int 0, w24])), (bb, .inr (4, [w27, .int 0, .int 0]))] := hD
  have hw : r1 = 0 := hw
  subst hw
  refine lv_istore_n (lv' := [(1, .int 0), (0, .ref h0)]) hx hb dX11_join_4 rfl hl (by decide) rfl (fun ls hl => ?_)
  refine lv_iload_n hx hb dX11_join_5 rfl (lv_at hl 0 rfl) ?_
  refine lv_if_ne (tgt := 21) hx hb dX11_join_6 (by decide) (fun c9 => absurd (by decide) c9) (fun _ => ?_)
  refine lv_aload_n hx hb dX11_join_9 rfl (lv_at hl 1 rfl) ?_
  refine va_get (D := D) (ci := 15) (v := .ref g) (C := RX11) (T := TX11) (N := 15) hx hb hts (by decide +kernel) hown hK hP 2 rfl rfl 8 (by decide) (hts (.fieldLink RX11 60 "SignetRing" "ring" "LSignetRing$Ring;") (by decide +kernel)) (fun _ h9 => h9) rfl dX11_join_10 ?_
  refine lv_aload_n hx hb dX11_join_13 rfl (lv_at hl 1 rfl) ?_
  refine va_get (D := D) (ci := 15) (v := .ref pk) (C := RX11) (T := TX11) (N := 15) hx hb hts (by decide +kernel) hown hK hP 2 rfl rfl 5 (by decide) (hts (.fieldLink RX11 39 "SignetRing" "packets" "LSignetRing$Packets;") (by decide +kernel)) (fun _ h9 => h9) rfl dX11_join_14 ?_
  have hPc := hP.sub (ws' := [(g, .inr (11, [.ref ks, w13, w14, w15, w16, w17, w18])), (pk, .inr (8, [w19, w20, .ref bb, .int 0, .int 0, w24])), (ks, .inr (3, [w25, w26, .int 0])), (bb, .inr (4, [w27, .int 0, .int 0]))]) [0, 3, 1, 4] rfl
  have hDc := hD.sub (ws' := [(g, .inr (11, [.ref ks, w13, w14, w15, w16, w17, w18])), (pk, .inr (8, [w19, w20, .ref bb, .int 0, .int 0, w24])), (ks, .inr (3, [w25, w26, .int 0])), (bb, .inr (4, [w27, .int 0, .int 0]))]) [0, 3, 1, 4] (by decide) rfl
  have hFc := va_free (wc := [(g, .inr (11, [.ref ks, w13, w14, w15, w16, w17, w18])), (pk, .inr (8, [w19, w20, .ref bb, .int 0, .int 0, w24])), (ks, .inr (3, [w25, w26, .int 0])), (bb, .inr (4, [w27, .int 0, .int 0]))]) hD hS hA [0, 3, 1, 4] rfl
  refine va_calli (va_runV (As := [.ref pk]) (rest := []) ⟨hx, hb, hml, hown, hts⟩ (c_X7_joinAll l D y H.size g pk ks bb w13 w14 w15 w16 w17 w18 w19 w20 ((.int 0)) w24 w25 w26 w27 ((.int 0))) (cwV 1 hts gv_c_X11_join_c_X7_joinAll_97 rfl rfl rfl (by decide +kernel) ⟨(Nat.le_of_ble_eq_true rfl), (Nat.le_of_ble_eq_true rfl)⟩) (zB.preV hPc hDc hK hN hE hO hT hG hS hFc (fun _ h => nomatch h) (fun _ h => nomatch h) (fun _ h => nomatch h) (fun _ h => nomatch h) (va_recv hK hPc (ci := 11) (q0 := 0) rfl rfl)) rfl rfl hl.1 rfl (lv_room (Nat.le_of_ble_eq_true rfl)) dX11_join_17 ⟨(Nat.le_of_ble_eq_true rfl), (Nat.le_of_ble_eq_true rfl)⟩) hS (fun q _ h => hFc q h) hFc (fun r2 u t H1 locs ht hvm hw hB hz1 hk1 hS => ?_)
  obtain ⟨hP1, hD1⟩ := hB
  rw [ht] at hP1
  obtain ⟨hP, hD⟩ := va_join (wr := [(h0, .inr (15, [.ref bb, w1, w2, w3, w4, .ref pk, w5, w6, .ref g, w7, w8, w9, w10, w11, w12]))]) (w1 := [(g, .inr (11, [.ref ks, w13, w14, w15, w16, .null, .null])), (pk, .inr (8, [w19, w20, .ref bb, .int 0, .int 0, w24])), (ks, .inr (3, [w25, w26, .int 0])), (bb, .inr (4, [w27, .int 0, .int 0]))]) hP hD [0, 3, 1, 4] [2] rfl rfl (by decide) (by decide) hk1 hFc hP1 hD1
  generalize H1 = H at hP hS ⊢
  have hP : va_P D vwCl [(h0, .inr (15, [.ref bb, w1, w2, w3, w4, .ref pk, w5, w6, .ref g, w7, w8, w9, w10, w11, w12])), (g, .inr (11, [.ref ks, w13, w14, w15, w16, .null, .null])), (pk, .inr (8, [w19, w20, .ref bb, .int 0, .int 0, w24])), (ks, .inr (3, [w25, w26, .int 0])), (bb, .inr (4, [w27, .int 0, .int 0]))] H := hP
  have hD : va_D A [(h0, .inr (15, [.ref bb, w1, w2, w3, w4, .ref pk, w5, w6, .ref g, w7, w8, w9, w10, w11, w12])), (g, .inr (11, [.ref ks, w13, w14, w15, w16, .null, .null])), (pk, .inr (8, [w19, w20, .ref bb, .int 0, .int 0, w24])), (ks, .inr (3, [w25, w26, .int 0])), (bb, .inr (4, [w27, .int 0, .int 0]))] := hD
  have hw : r2 = -1 := hw
  subst hw
  refine lv_istore_n (lv' := [(1, .int (-1)), (0, .ref h0)]) hx hb dX11_join_20 rfl hl (by decide) rfl (fun ls hl => ?_)
  refine lv_aload_n hx hb dX11_join_21 rfl (lv_at hl 1 rfl) ?_
  refine va_get (D := D) (ci := 15) (v := .ref bb) (C := RX11) (T := TX11) (N := 15) hx hb hts (by decide +kernel) hown hK hP 0 rfl rfl 0 (by decide) (hts (.fieldLink RX11 14 "SignetRing" "bytes" "LSignetRing$Bytes;") (by decide +kernel)) (fun _ h9 => h9) rfl dX11_join_22 ?_
  refine lv_iconst (v := 0) hx hb dX11_join_25 (by decide) ?_
  refine va_put (D := D) (ci := 4) (v := .int 0) (ty := .int) (C := RX0) (T := TX0) (N := 3) hx hb hts (by decide +kernel) tyX0 tyX0_ok nmX0 hown hK hP hD hS 4 rfl rfl 2 (by decide) (hts (.fieldLink RX11 86 "SignetRing$Bytes" "size" "I") (by decide +kernel)) (u_same (hts (.sameField "SignetRing$Bytes" "SignetRing$Span" "size" "I") (by decide +kernel))) rfl (by decide +kernel) rfl rfl (Nat.le_of_ble_eq_true rfl) dX11_join_26 (fun H locs hP hD hS => ?_)
  have hP : va_P D vwCl [(h0, .inr (15, [.ref bb, w1, w2, w3, w4, .ref pk, w5, w6, .ref g, w7, w8, w9, w10, w11, w12])), (g, .inr (11, [.ref ks, w13, w14, w15, w16, .null, .null])), (pk, .inr (8, [w19, w20, .ref bb, .int 0, .int 0, w24])), (ks, .inr (3, [w25, w26, .int 0])), (bb, .inr (4, [w27, .int 0, .int 0]))] H := hP
  have hD : va_D A [(h0, .inr (15, [.ref bb, w1, w2, w3, w4, .ref pk, w5, w6, .ref g, w7, w8, w9, w10, w11, w12])), (g, .inr (11, [.ref ks, w13, w14, w15, w16, .null, .null])), (pk, .inr (8, [w19, w20, .ref bb, .int 0, .int 0, w24])), (ks, .inr (3, [w25, w26, .int 0])), (bb, .inr (4, [w27, .int 0, .int 0]))] := hD
  refine lv_iload_n hx hb dX11_join_29 rfl (lv_at hl 0 rfl) ?_
  have hP9 := hP.sub (ws' := [(h0, .inr (15, [.ref bb, w1, w2, w3, w4, .ref pk, w5, w6, .ref g, w7, w8, w9, w10, w11, w12])), (g, .inr (11, [.ref ks, w13, w14, w15, w16, .null, .null])), (pk, .inr (8, [w19, w20, .ref bb, .int 0, .int 0, w24])), (ks, .inr (3, [w25, w26, .int 0])), (bb, .inr (4, [w27, .int 0, .int 0]))]) [0, 1, 2, 3, 4] rfl
  have hD9 := hD.sub (ws' := [(h0, .inr (15, [.ref bb, w1, w2, w3, w4, .ref pk, w5, w6, .ref g, w7, w8, w9, w10, w11, w12])), (g, .inr (11, [.ref ks, w13, w14, w15, w16, .null, .null])), (pk, .inr (8, [w19, w20, .ref bb, .int 0, .int 0, w24])), (ks, .inr (3, [w25, w26, .int 0])), (bb, .inr (4, [w27, .int 0, .int 0]))]) [0, 1, 2, 3, 4] (by decide) rfl
  refine W.widen (k := 0) (n := 0) (Nat.le_of_ble_eq_true rfl) (Nat.le_of_ble_eq_true rfl) ?_
  exact W.iret (v := (-1)) hx hb hr (fun t ht hW => ⟨⟨(-1), (), rfl, rfl, by rw [ht]; exact hP9, hD9⟩, hS.F ht⟩) hS.2.2 dX11_join_30
def wz_c_X0_pushSpan : List Cond := .code yX0_pushSpan cX0_pushSpan 6 none :: ([.fieldLink RX0 33 "SignetRing$Span" "from" "I", .fieldLink RX0 13 "SignetRing$Bytes" "size" "I", .sameField "SignetRing$Bytes" "SignetRing$Span" "size" "I"] ++ (wsX00 ++ ([])))
set_option maxHeartbeats 4000000 in
set_option maxRecDepth 100000 in
theorem c_X0_pushSpan (l : Launch) (D : va_G) (y : Nat → ClassId) (sz : Nat) (h0 : Nat) (b : Nat) (w1 : Value) (w2 : Value) (w3 : Value) : Met l yX0_pushSpan wz_c_X0_pushSpan ({ frames := 0, cells := 0, slots := 0, locals := 0 }) (va_Pc [.ref h0, .ref b, .int 0, .int 0] (zB D y [(h0, .inr (4, [w1, w2, .int 0])), (b, .inr (4, [w3, .int 0, .int 0]))] sz [] [] [] [])) (va_Qv (fun _ : Unit => True) (fun _ t => va_P D vwCl [(h0, .inr (4, [w1, w2, .int 0])), (b, .inr (4, [w3, .int 0, .int 0]))] t.heap ∧ va_D (va_A [(h0, .inr (4, [w1, w2, .int 0])), (b, .inr (4, [w3, .int 0, .int 0]))] sz) [(h0, .inr (4, [w1, w2, .int 0])), (b, .inr (4, [w3, .int 0, .int 0]))]) (va_A [(h0, .inr (4, [w1, w2, .int 0])), (b, .inr (4, [w3, .int 0, .int 0]))] sz)) 0 0 (va_A [(h0, .inr (4, [w1, w2, .int 0])), (b, .inr (4, [w3, .int 0, .int 0]))] sz) := by
  refine Met.ofW (cc := cX0_pushSpan) (maxL := 6) (ret := none) (by decide) rfl ?_
  intro p e s m args below meth c s₁ B hml hv
  obtain ⟨rfl, hsz, hP, hK, hD0, hN, hE, hO, hT, hG⟩ := hv
  have hx := B.exec
  have hb := B.bytes
  have hr := B.returns
  have hts := atoms_spec (ws := wz_c_X0_pushSpan) B.pre
  have hown : s.vm.findClass RX0 = some m.cls := findClass_of_methodNamed B.named
  have hlocks := B.notSynchronized
  subst hsz
  have hD := hD0.self (sz := s.heap.size)
  generalize hAe : va_A [(h0, .inr (4, [w1, w2, .int 0])), (b, .inr (4, [w3, .int 0, .int 0]))] s.heap.size = A at hD hE hT hG ⊢
  have hA : ∀ q : Nat, s.heap.size ≤ q → A q := fun q h => by rw [← hAe]; exact Or.inr h
  have hS : va_S A s.heap s.heap [] := va_S.rf
  have hl := lv_entry ([.ref h0, .ref b, .int 0, .int 0]) (n := 6) (Nat.le_of_ble_eq_true rfl)
  rw [lg_entry_eq]
  generalize (lg_sl ([.ref h0, .ref b, .int 0, .int 0]) ++ List.replicate (6 - (lg_sl ([.ref h0, .ref b, .int 0, .int 0])).length) Slot.unset).toArray = ls at hl ⊢
  have hl : lv_has ls 6 [(0, .ref h0), (1, .ref b), (2, .int 0), (3, .int 0)] := hl
  refine lv_iload_n hx hb dX0_pushSpan_0 rfl (lv_at hl 3 rfl) ?_
  refine lv_iload_n hx hb dX0_pushSpan_1 rfl (lv_at hl 2 rfl) ?_
  refine lv_isub hx hb dX0_pushSpan_2 ?_
  refine lv_topi (fun v1 ev1 => ?_)
  have ev1 : v1 = 0 := ev1.trans (by decide +kernel)
  subst ev1
  refine lv_istore (lv' := [(4, .int 0), (0, .ref h0), (1, .ref b), (2, .int 0), (3, .int 0)]) hx hb dX0_pushSpan_3 hl (by decide) rfl (fun ls hl => ?_)
  refine lv_aload_n hx hb dX0_pushSpan_5 rfl (lv_at hl 2 rfl) ?_
  refine va_get (D := D) (ci := 4) (v := .int 0) (C := RX0) (T := TX0) (N := 3) hx hb hts (by decide +kernel) hown hK hP 1 rfl rfl 1 (by decide) (hts (.fieldLink RX0 33 "SignetRing$Span" "from" "I") (by decide +kernel)) (fun _ h9 => h9) rfl dX0_pushSpan_6 ?_
  refine lv_iload_n hx hb dX0_pushSpan_9 rfl (lv_at hl 3 rfl) ?_
  refine lv_iadd hx hb dX0_pushSpan_10 ?_
  refine lv_topi (fun v2 ev2 => ?_)
  have ev2 : v2 = 0 := ev2.trans (by decide +kernel)
  subst ev2
  refine lv_istore (lv' := [(5, .int 0), (4, .int 0), (0, .ref h0), (1, .ref b), (2, .int 0), (3, .int 0)]) hx hb dX0_pushSpan_11 hl (by decide) rfl (fun ls hl => ?_)
  refine lv_aload_n hx hb dX0_pushSpan_13 rfl (lv_at hl 2 rfl) ?_
  refine va_get (D := D) (ci := 4) (v := .int 0) (C := RX0) (T := TX0) (N := 3) hx hb hts (by decide +kernel) hown hK hP 0 rfl rfl 2 (by decide) (hts (.fieldLink RX0 13 "SignetRing$Bytes" "size" "I") (by decide +kernel)) (u_same (hts (.sameField "SignetRing$Bytes" "SignetRing$Span" "size" "I") (by decide +kernel))) rfl dX0_pushSpan_14 ?_
  refine lv_if_lt (tgt := 37) hx hb dX0_pushSpan_17 (by decide) (fun c9 => absurd c9 (by decide)) (fun _ => ?_)
  refine lv_iload_n hx hb dX0_pushSpan_20 rfl (lv_at hl 4 rfl) ?_
  refine lv_if_lt (tgt := 37) hx hb dX0_pushSpan_21 (by decide) (fun c9 => absurd c9 (by decide)) (fun _ => ?_)
  refine lv_iload hx hb dX0_pushSpan_24 (lv_at hl 1 rfl) ?_
  refine lv_if_le (tgt := 37) hx hb dX0_pushSpan_26 (by decide) (fun _ => ?_) (fun c9 => absurd (by decide) c9)
  have hP9 := hP.sub (ws' := [(h0, .inr (4, [w1, w2, .int 0])), (b, .inr (4, [w3, .int 0, .int 0]))]) [0, 1] rfl
  have hD9 := hD.sub (ws' := [(h0, .inr (4, [w1, w2, .int 0])), (b, .inr (4, [w3, .int 0, .int 0]))]) [0, 1] (by decide) rfl
  refine W.widen (k := 0) (n := 0) (Nat.le_of_ble_eq_true rfl) (Nat.le_of_ble_eq_true rfl) ?_
  exact W.vret hx hb hr (fun t ht hW => ⟨⟨(), rfl, trivial, by rw [ht]; exact hP9, hD9⟩, hS.F ht⟩) hS.2.2 dX0_pushSpan_37
def wz_c_X11_document : List Cond := .code yX11_document cX11_document 1 (some .int) :: ([.fieldLink RX11 18 "SignetRing" "told" "LSignetRing$Bytes;", .fieldLink RX11 86 "SignetRing$Bytes" "size" "I", .sameField "SignetRing$Bytes" "SignetRing$Span" "size" "I", .fieldLink RX11 14 "SignetRing" "bytes" "LSignetRing$Bytes;", .methodLink RX11 101 yX0_pushSpan, .instanceMethod yX0_pushSpan, .selects RX0 yX0_pushSpan yX0_pushSpan, .initialized RX0, .fieldLink RX11 105 "SignetRing" "toldHash" "I"] ++ (wsX110 ++ (wsX00 ++ (wz_c_X0_pushSpan ++ ([])))))
set_option maxRecDepth 100000 in
theorem gz_c_X11_document_c_X0_pushSpan : GoodIn wz_c_X11_document wz_c_X0_pushSpan := goodIn_sub (fun w h => List.mem_cons_of_mem _ (List.mem_append_right _ (List.mem_append_right _ (List.mem_append_right _ (List.mem_append_left _ h))))) (by decide +kernel)
set_option maxRecDepth 100000 in
theorem gv_c_X11_document_c_X0_pushSpan_101 : GoodIn wz_c_X11_document (wsV RX11 101 RX0 yX0_pushSpan wz_c_X0_pushSpan) := goodIn_app (goodIn_of _ (by decide +kernel)) gz_c_X11_document_c_X0_pushSpan
set_option maxHeartbeats 4000000 in
set_option maxRecDepth 100000 in
theorem c_X11_document (l : Launch) (D : va_G) (y : Nat → ClassId) (sz : Nat) (h0 : Nat) (to : Nat) (bb : Nat) (w1 : Value) (w2 : Value) (w3 : Value) (w4 : Value) (w5 : Value) (w6 : Value) (w7 : Value) (w8 : Value) (w9 : Value) (w10 : Value) (w11 : Value) (w12 : Value) (w13 : Value) (w14 : Value) (w15 : Value) (w16 : Value) : Met l yX11_document wz_c_X11_document ({ frames := 1, cells := 0, slots := 0, locals := 25 }) (va_Pc [.ref h0] (zB D y [(h0, .inr (15, [.ref bb, .ref to, w1, w2, w3, w4, w5, w6, w7, w8, w9, w10, w11, w12, w13])), (to, .inr (4, [w14, w15, .int 0])), (bb, .inr (4, [w16, .int 0, .int 0]))] sz [] [] [] [])) (va_Qi (fun (r : Int32) (_ : Unit) => r = 0) (fun _ t => va_P D vwCl [(h0, .inr (15, [.ref bb, .ref to, w1, w2, w3, w4, w5, w6, w7, w8, w9, w10, w11, .int 0, w13])), (to, .inr (4, [w14, w15, .int 0])), (bb, .inr (4, [w16, .int 0, .int 0]))] t.heap ∧ va_D (va_A [(h0, .inr (15, [.ref bb, .ref to, w1, w2, w3, w4, w5, w6, w7, w8, w9, w10, w11, w12, w13])), (to, .inr (4, [w14, w15, .int 0])), (bb, .inr (4, [w16, .int 0, .int 0]))] sz) [(h0, .inr (15, [.ref bb, .ref to, w1, w2, w3, w4, w5, w6, w7, w8, w9, w10, w11, .int 0, w13])), (to, .inr (4, [w14, w15, .int 0])), (bb, .inr (4, [w16, .int 0, .int 0]))]) (va_A [(h0, .inr (15, [.ref bb, .ref to, w1, w2, w3, w4, w5, w6, w7, w8, w9, w10, w11, w12, w13])), (to, .inr (4, [w14, w15, .int 0])), (bb, .inr (4, [w16, .int 0, .int 0]))] sz)) 0 0 (va_A [(h0, .inr (15, [.ref bb, .ref to, w1, w2, w3, w4, w5, w6, w7, w8, w9, w10, w11, w12, w13])), (to, .inr (4, [w14, w15, .int 0])), (bb, .inr (4, [w16, .int 0, .int 0]))] sz) := by
  refine Met.ofW (cc := cX11_document) (maxL := 1) (ret := (some .int)) (by decide) rfl ?_
  intro p e s m args below meth c s₁ B hml hv
  obtain ⟨rfl, hsz, hP, hK, hD0, hN, hE, hO, hT, hG⟩ := hv
  have hx := B.exec
  have hb := B.bytes
  have hr := B.returns
  have hts := atoms_spec (ws := wz_c_X11_document) B.pre
  have hown : s.vm.findClass RX11 = some m.cls := findClass_of_methodNamed B.named
  have hlocks := B.notSynchronized
  subst hsz
  have hD := hD0.self (sz := s.heap.size)
  generalize hAe : va_A [(h0, .inr (15, [.ref bb, .ref to, w1, w2, w3, w4, w5, w6, w7, w8, w9, w10, w11, w12, w13])), (to, .inr (4, [w14, w15, .int 0])), (bb, .inr (4, [w16, .int 0, .int 0]))] s.heap.size = A at hD hE hT hG ⊢
  have hA : ∀ q : Nat, s.heap.size ≤ q → A q := fun q h => by rw [← hAe]; exact Or.inr h
  have hS : va_S A s.heap s.heap [] := va_S.rf
  have hl := lv_entry ([.ref h0]) (n := 1) (Nat.le_of_ble_eq_true rfl)
  rw [lg_entry_eq]
  generalize (lg_sl ([.ref h0]) ++ List.replicate (1 - (lg_sl ([.ref h0])).length) Slot.unset).toArray = ls at hl ⊢
  have hl : lv_has ls 1 [(0, .ref h0)] := hl
  refine lv_aload_n hx hb dX11_document_0 rfl (lv_at hl 0 rfl) ?_
  refine va_get (D := D) (ci := 15) (v := .ref to) (C := RX11) (T := TX11) (N := 15) hx hb hts (by decide +kernel) hown hK hP 0 rfl rfl 1 (by decide) (hts (.fieldLink RX11 18 "SignetRing" "told" "LSignetRing$Bytes;") (by decide +kernel)) (fun _ h9 => h9) rfl dX11_document_1 ?_
  refine lv_iconst (v := 0) hx hb dX11_document_4 (by decide) ?_
  refine va_put (D := D) (ci := 4) (v := .int 0) (ty := .int) (C := RX0) (T := TX0) (N := 3) hx hb hts (by decide +kernel) tyX0 tyX0_ok nmX0 hown hK hP hD hS 1 rfl rfl 2 (by decide) (hts (.fieldLink RX11 86 "SignetRing$Bytes" "size" "I") (by decide +kernel)) (u_same (hts (.sameField "SignetRing$Bytes" "SignetRing$Span" "size" "I") (by decide +kernel))) rfl (by decide +kernel) rfl rfl (Nat.le_of_ble_eq_true rfl) dX11_document_5 (fun H locs hP hD hS => ?_)
  have hP : va_P D vwCl [(h0, .inr (15, [.ref bb, .ref to, w1, w2, w3, w4, w5, w6, w7, w8, w9, w10, w11, w12, w13])), (to, .inr (4, [w14, w15, .int 0])), (bb, .inr (4, [w16, .int 0, .int 0]))] H := hP
  have hD : va_D A [(h0, .inr (15, [.ref bb, .ref to, w1, w2, w3, w4, w5, w6, w7, w8, w9, w10, w11, w12, w13])), (to, .inr (4, [w14, w15, .int 0])), (bb, .inr (4, [w16, .int 0, .int 0]))] := hD
  refine lv_aload_n hx hb dX11_document_8 rfl (lv_at hl 0 rfl) ?_
  refine va_get (D := D) (ci := 15) (v := .ref to) (C := RX11) (T := TX11) (N := 15) hx hb hts (by decide +kernel) hown hK hP 0 rfl rfl 1 (by decide) (hts (.fieldLink RX11 18 "SignetRing" "told" "LSignetRing$Bytes;") (by decide +kernel)) (fun _ h9 => h9) rfl dX11_document_9 ?_
  refine lv_aload_n hx hb dX11_document_12 rfl (lv_at hl 0 rfl) ?_
  refine va_get (D := D) (ci := 15) (v := .ref bb) (C := RX11) (T := TX11) (N := 15) hx hb hts (by decide +kernel) hown hK hP 0 rfl rfl 0 (by decide) (hts (.fieldLink RX11 14 "SignetRing" "bytes" "LSignetRing$Bytes;") (by decide +kernel)) (fun _ h9 => h9) rfl dX11_document_13 ?_
  refine lv_iconst (v := 0) hx hb dX11_document_16 (by decide) ?_
  refine lv_aload_n hx hb dX11_document_17 rfl (lv_at hl 0 rfl) ?_
  refine va_get (D := D) (ci := 15) (v := .ref bb) (C := RX11) (T := TX11) (N := 15) hx hb hts (by decide +kernel) hown hK hP 0 rfl rfl 0 (by decide) (hts (.fieldLink RX11 14 "SignetRing" "bytes" "LSignetRing$Bytes;") (by decide +kernel)) (fun _ h9 => h9) rfl dX11_document_18 ?_
  refine va_get (D := D) (ci := 4) (v := .int 0) (C := RX0) (T := TX0) (N := 3) hx hb hts (by decide +kernel) hown hK hP 2 rfl rfl 2 (by decide) (hts (.fieldLink RX11 86 "SignetRing$Bytes" "size" "I") (by decide +kernel)) (u_same (hts (.sameField "SignetRing$Bytes" "SignetRing$Span" "size" "I") (by decide +kernel))) rfl dX11_document_21 ?_
  have hPc := hP.sub (ws' := [(to, .inr (4, [w14, w15, .int 0])), (bb, .inr (4, [w16, .int 0, .int 0]))]) [1, 2] rfl
  have hDc := hD.sub (ws' := [(to, .inr (4, [w14, w15, .int 0])), (bb, .inr (4, [w16, .int 0, .int 0]))]) [1, 2] (by decide) rfl
  have hFc := va_free (wc := [(to, .inr (4, [w14, w15, .int 0])), (bb, .inr (4, [w16, .int 0, .int 0]))]) hD hS hA [1, 2] rfl
  refine va_callv (va_runV (As := [.ref bb, .int 0, .int 0]) (rest := []) ⟨hx, hb, hml, hown, hts⟩ (c_X0_pushSpan l D y H.size to bb w14 w15 w16) (cwV 3 hts gv_c_X11_document_c_X0_pushSpan_101 rfl rfl rfl (by decide +kernel) ⟨(Nat.le_of_ble_eq_true rfl), (Nat.le_of_ble_eq_true rfl)⟩) (zB.preV hPc hDc hK hN hE hO hT hG hS hFc (fun _ h => nomatch h) (fun _ h => nomatch h) (fun _ h => nomatch h) (fun _ h => nomatch h) (va_recv hK hPc (ci := 4) (q0 := 0) rfl rfl)) rfl rfl hl.1 rfl (lv_room (Nat.le_of_ble_eq_true rfl)) dX11_document_24 ⟨(Nat.le_of_ble_eq_true rfl), (Nat.le_of_ble_eq_true rfl)⟩) hS (fun q _ h => hFc q h) hFc (fun u t H1 locs ht hvm hw hB hz1 hk1 hS => ?_)
  obtain ⟨hP1, hD1⟩ := hB
  rw [ht] at hP1
  obtain ⟨hP, hD⟩ := va_join (wr := [(h0, .inr (15, [.ref bb, .ref to, w1, w2, w3, w4, w5, w6, w7, w8, w9, w10, w11, w12, w13]))]) (w1 := [(to, .inr (4, [w14, w15, .int 0])), (bb, .inr (4, [w16, .int 0, .int 0]))]) hP hD [1, 2] [0] rfl rfl (by decide) (by decide) hk1 hFc hP1 hD1
  generalize H1 = H at hP hS ⊢
  have hP : va_P D vwCl [(h0, .inr (15, [.ref bb, .ref to, w1, w2, w3, w4, w5, w6, w7, w8, w9, w10, w11, w12, w13])), (to, .inr (4, [w14, w15, .int 0])), (bb, .inr (4, [w16, .int 0, .int 0]))] H := hP
  have hD : va_D A [(h0, .inr (15, [.ref bb, .ref to, w1, w2, w3, w4, w5, w6, w7, w8, w9, w10, w11, w12, w13])), (to, .inr (4, [w14, w15, .int 0])), (bb, .inr (4, [w16, .int 0, .int 0]))] := hD
  refine lv_aload_n hx hb dX11_document_27 rfl (lv_at hl 0 rfl) ?_
  refine lv_iconst (v := 0) hx hb dX11_document_28 (by decide) ?_
  refine va_put (D := D) (ci := 15) (v := .int 0) (ty := .int) (C := RX11) (T := TX11) (N := 15) hx hb hts (by decide +kernel) tyX11 tyX11_ok nmX11 hown hK hP hD hS 0 rfl rfl 13 (by decide) (hts (.fieldLink RX11 105 "SignetRing" "toldHash" "I") (by decide +kernel)) (fun _ h9 => h9) rfl (by decide +kernel) rfl rfl (Nat.le_of_ble_eq_true rfl) dX11_document_29 (fun H locs hP hD hS => ?_)
  have hP : va_P D vwCl [(h0, .inr (15, [.ref bb, .ref to, w1, w2, w3, w4, w5, w6, w7, w8, w9, w10, w11, .int 0, w13])), (to, .inr (4, [w14, w15, .int 0])), (bb, .inr (4, [w16, .int 0, .int 0]))] H := hP
  have hD : va_D A [(h0, .inr (15, [.ref bb, .ref to, w1, w2, w3, w4, w5, w6, w7, w8, w9, w10, w11, .int 0, w13])), (to, .inr (4, [w14, w15, .int 0])), (bb, .inr (4, [w16, .int 0, .int 0]))] := hD
  refine lv_aload_n hx hb dX11_document_32 rfl (lv_at hl 0 rfl) ?_
  refine va_get (D := D) (ci := 15) (v := .ref bb) (C := RX11) (T := TX11) (N := 15) hx hb hts (by decide +kernel) hown hK hP 0 rfl rfl 0 (by decide) (hts (.fieldLink RX11 14 "SignetRing" "bytes" "LSignetRing$Bytes;") (by decide +kernel)) (fun _ h9 => h9) rfl dX11_document_33 ?_
  refine lv_iconst (v := 0) hx hb dX11_document_36 (by decide) ?_
  refine va_put (D := D) (ci := 4) (v := .int 0) (ty := .int) (C := RX0) (T := TX0) (N := 3) hx hb hts (by decide +kernel) tyX0 tyX0_ok nmX0 hown hK hP hD hS 2 rfl rfl 2 (by decide) (hts (.fieldLink RX11 86 "SignetRing$Bytes" "size" "I") (by decide +kernel)) (u_same (hts (.sameField "SignetRing$Bytes" "SignetRing$Span" "size" "I") (by decide +kernel))) rfl (by decide +kernel) rfl rfl (Nat.le_of_ble_eq_true rfl) dX11_document_37 (fun H locs hP hD hS => ?_)
  have hP : va_P D vwCl [(h0, .inr (15, [.ref bb, .ref to, w1, w2, w3, w4, w5, w6, w7, w8, w9, w10, w11, .int 0, w13])), (to, .inr (4, [w14, w15, .int 0])), (bb, .inr (4, [w16, .int 0, .int 0]))] H := hP
  have hD : va_D A [(h0, .inr (15, [.ref bb, .ref to, w1, w2, w3, w4, w5, w6, w7, w8, w9, w10, w11, .int 0, w13])), (to, .inr (4, [w14, w15, .int 0])), (bb, .inr (4, [w16, .int 0, .int 0]))] := hD
  refine lv_aload_n hx hb dX11_document_40 rfl (lv_at hl 0 rfl) ?_
  refine va_get (D := D) (ci := 15) (v := .ref to) (C := RX11) (T := TX11) (N := 15) hx hb hts (by decide +kernel) hown hK hP 0 rfl rfl 1 (by decide) (hts (.fieldLink RX11 18 "SignetRing" "told" "LSignetRing$Bytes;") (by decide +kernel)) (fun _ h9 => h9) rfl dX11_document_41 ?_
  refine va_get (D := D) (ci := 4) (v := .int 0) (C := RX0) (T := TX0) (N := 3) hx hb hts (by decide +kernel) hown hK hP 1 rfl rfl 2 (by decide) (hts (.fieldLink RX11 86 "SignetRing$Bytes" "size" "I") (by decide +kernel)) (u_same (hts (.sameField "SignetRing$Bytes" "SignetRing$Span" "size" "I") (by decide +kernel))) rfl dX11_document_44 ?_
  have hP9 := hP.sub (ws' := [(h0, .inr (15, [.ref bb, .ref to, w1, w2, w3, w4, w5, w6, w7, w8, w9, w10, w11, .int 0, w13])), (to, .inr (4, [w14, w15, .int 0])), (bb, .inr (4, [w16, .int 0, .int 0]))]) [0, 1, 2] rfl
  have hD9 := hD.sub (ws' := [(h0, .inr (15, [.ref bb, .ref to, w1, w2, w3, w4, w5, w6, w7, w8, w9, w10, w11, .int 0, w13])), (to, .inr (4, [w14, w15, .int 0])), (bb, .inr (4, [w16, .int 0, .int 0]))]) [0, 1, 2] (by decide) rfl
  refine W.widen (k := 0) (n := 0) (Nat.le_of_ble_eq_true rfl) (Nat.le_of_ble_eq_true rfl) ?_
  exact W.iret (v := 0) hx hb hr (fun t ht hW => ⟨⟨0, (), rfl, rfl, by rw [ht]; exact hP9, hD9⟩, hS.F ht⟩) hS.2.2 dX11_document_47
def wz_c_X11_take : List Cond := .code yX11_take cX11_take 1 (some .int) :: ([.fieldLink RX11 14 "SignetRing" "bytes" "LSignetRing$Bytes;", .fieldLink RX11 86 "SignetRing$Bytes" "size" "I", .sameField "SignetRing$Bytes" "SignetRing$Span" "size" "I", .fieldLink RX11 80 "SignetRing" "out" "LSignetRing$Bytes;", .methodLink RX11 219 Lib.Math.min.name, .static Lib.Math.min.name, .initialized "java/lang/Math", .code Lib.Math.min.name Lib.Math.min.code 2 (some .int), .methodLink RX11 101 yX0_pushSpan, .instanceMethod yX0_pushSpan, .selects RX0 yX0_pushSpan yX0_pushSpan, .initialized RX0] ++ (wsX110 ++ (wsX00 ++ (wz_c_X0_pushSpan ++ ([])))))
set_option maxRecDepth 100000 in
theorem gz_c_X11_take_c_X0_pushSpan : GoodIn wz_c_X11_take wz_c_X0_pushSpan := goodIn_sub (fun w h => List.mem_cons_of_mem _ (List.mem_append_right _ (List.mem_append_right _ (List.mem_append_right _ (List.mem_append_left _ h))))) (by decide +kernel)
set_option maxRecDepth 100000 in
theorem gv_c_X11_take_c_X0_pushSpan_101 : GoodIn wz_c_X11_take (wsV RX11 101 RX0 yX0_pushSpan wz_c_X0_pushSpan) := goodIn_app (goodIn_of _ (by decide +kernel)) gz_c_X11_take_c_X0_pushSpan
set_option maxHeartbeats 4000000 in
set_option maxRecDepth 100000 in
theorem c_X11_take (l : Launch) (D : va_G) (y : Nat → ClassId) (sz : Nat) (h0 : Nat) (ou : Nat) (bb : Nat) (w1 : Value) (w2 : Value) (w3 : Value) (w4 : Value) (w5 : Value) (w6 : Value) (w7 : Value) (w8 : Value) (w9 : Value) (w10 : Value) (w11 : Value) (w12 : Value) (w13 : Value) (w14 : Value) (w15 : Value) (w16 : Value) : Met l yX11_take wz_c_X11_take ({ frames := 1, cells := 0, slots := 0, locals := 25 }) (va_Pc [.ref h0] (zB D y [(h0, .inr (15, [.ref bb, w1, w2, w3, w4, w5, w6, w7, w8, w9, w10, .ref ou, w11, w12, w13])), (ou, .inr (4, [w14, .int 0, .int 0])), (bb, .inr (4, [w15, w16, .int 0]))] sz [] [] [] [])) (va_Qi (fun (r : Int32) (_ : Unit) => r = 0) (fun _ t => va_P D vwCl [(h0, .inr (15, [.ref bb, w1, w2, w3, w4, w5, w6, w7, w8, w9, w10, .ref ou, w11, w12, w13])), (ou, .inr (4, [w14, .int 0, .int 0])), (bb, .inr (4, [w15, w16, .int 0]))] t.heap ∧ va_D (va_A [(h0, .inr (15, [.ref bb, w1, w2, w3, w4, w5, w6, w7, w8, w9, w10, .ref ou, w11, w12, w13])), (ou, .inr (4, [w14, .int 0, .int 0])), (bb, .inr (4, [w15, w16, .int 0]))] sz) [(h0, .inr (15, [.ref bb, w1, w2, w3, w4, w5, w6, w7, w8, w9, w10, .ref ou, w11, w12, w13])), (ou, .inr (4, [w14, .int 0, .int 0])), (bb, .inr (4, [w15, w16, .int 0]))]) (va_A [(h0, .inr (15, [.ref bb, w1, w2, w3, w4, w5, w6, w7, w8, w9, w10, .ref ou, w11, w12, w13])), (ou, .inr (4, [w14, .int 0, .int 0])), (bb, .inr (4, [w15, w16, .int 0]))] sz)) 0 0 (va_A [(h0, .inr (15, [.ref bb, w1, w2, w3, w4, w5, w6, w7, w8, w9, w10, .ref ou, w11, w12, w13])), (ou, .inr (4, [w14, .int 0, .int 0])), (bb, .inr (4, [w15, w16, .int 0]))] sz) := by
  refine Met.ofW (cc := cX11_take) (maxL := 1) (ret := (some .int)) (by decide) rfl ?_
  intro p e s m args below meth c s₁ B hml hv
  obtain ⟨rfl, hsz, hP, hK, hD0, hN, hE, hO, hT, hG⟩ := hv
  have hx := B.exec
  have hb := B.bytes
  have hr := B.returns
  have hts := atoms_spec (ws := wz_c_X11_take) B.pre
  have hown : s.vm.findClass RX11 = some m.cls := findClass_of_methodNamed B.named
  have hlocks := B.notSynchronized
  subst hsz
  have hD := hD0.self (sz := s.heap.size)
  generalize hAe : va_A [(h0, .inr (15, [.ref bb, w1, w2, w3, w4, w5, w6, w7, w8, w9, w10, .ref ou, w11, w12, w13])), (ou, .inr (4, [w14, .int 0, .int 0])), (bb, .inr (4, [w15, w16, .int 0]))] s.heap.size = A at hD hE hT hG ⊢
  have hA : ∀ q : Nat, s.heap.size ≤ q → A q := fun q h => by rw [← hAe]; exact Or.inr h
  have hS : va_S A s.heap s.heap [] := va_S.rf
  have hl := lv_entry ([.ref h0]) (n := 1) (Nat.le_of_ble_eq_true rfl)
  rw [lg_entry_eq]
  generalize (lg_sl ([.ref h0]) ++ List.replicate (1 - (lg_sl ([.ref h0])).length) Slot.unset).toArray = ls at hl ⊢
  have hl : lv_has ls 1 [(0, .ref h0)] := hl
  refine lv_aload_n hx hb dX11_take_0 rfl (lv_at hl 0 rfl) ?_
  refine va_get (D := D) (ci := 15) (v := .ref bb) (C := RX11) (T := TX11) (N := 15) hx hb hts (by decide +kernel) hown hK hP 0 rfl rfl 0 (by decide) (hts (.fieldLink RX11 14 "SignetRing" "bytes" "LSignetRing$Bytes;") (by decide +kernel)) (fun _ h9 => h9) rfl dX11_take_1 ?_
  refine lv_iconst (v := 0) hx hb dX11_take_4 (by decide) ?_
  refine va_put (D := D) (ci := 4) (v := .int 0) (ty := .int) (C := RX0) (T := TX0) (N := 3) hx hb hts (by decide +kernel) tyX0 tyX0_ok nmX0 hown hK hP hD hS 2 rfl rfl 2 (by decide) (hts (.fieldLink RX11 86 "SignetRing$Bytes" "size" "I") (by decide +kernel)) (u_same (hts (.sameField "SignetRing$Bytes" "SignetRing$Span" "size" "I") (by decide +kernel))) rfl (by decide +kernel) rfl rfl (Nat.le_of_ble_eq_true rfl) dX11_take_5 (fun H locs hP hD hS => ?_)
  have hP : va_P D vwCl [(h0, .inr (15, [.ref bb, w1, w2, w3, w4, w5, w6, w7, w8, w9, w10, .ref ou, w11, w12, w13])), (ou, .inr (4, [w14, .int 0, .int 0])), (bb, .inr (4, [w15, w16, .int 0]))] H := hP
  have hD : va_D A [(h0, .inr (15, [.ref bb, w1, w2, w3, w4, w5, w6, w7, w8, w9, w10, .ref ou, w11, w12, w13])), (ou, .inr (4, [w14, .int 0, .int 0])), (bb, .inr (4, [w15, w16, .int 0]))] := hD
  refine lv_aload_n hx hb dX11_take_8 rfl (lv_at hl 0 rfl) ?_
  refine va_get (D := D) (ci := 15) (v := .ref bb) (C := RX11) (T := TX11) (N := 15) hx hb hts (by decide +kernel) hown hK hP 0 rfl rfl 0 (by decide) (hts (.fieldLink RX11 14 "SignetRing" "bytes" "LSignetRing$Bytes;") (by decide +kernel)) (fun _ h9 => h9) rfl dX11_take_9 ?_
  refine lv_aload_n hx hb dX11_take_12 rfl (lv_at hl 0 rfl) ?_
  refine va_get (D := D) (ci := 15) (v := .ref ou) (C := RX11) (T := TX11) (N := 15) hx hb hts (by decide +kernel) hown hK hP 0 rfl rfl 11 (by decide) (hts (.fieldLink RX11 80 "SignetRing" "out" "LSignetRing$Bytes;") (by decide +kernel)) (fun _ h9 => h9) rfl dX11_take_13 ?_
  refine lv_iconst (v := 0) hx hb dX11_take_16 (by decide) ?_
  refine lv_aload_n hx hb dX11_take_17 rfl (lv_at hl 0 rfl) ?_
  refine va_get (D := D) (ci := 15) (v := .ref ou) (C := RX11) (T := TX11) (N := 15) hx hb hts (by decide +kernel) hown hK hP 0 rfl rfl 11 (by decide) (hts (.fieldLink RX11 80 "SignetRing" "out" "LSignetRing$Bytes;") (by decide +kernel)) (fun _ h9 => h9) rfl dX11_take_18 ?_
  refine va_get (D := D) (ci := 4) (v := .int 0) (C := RX0) (T := TX0) (N := 3) hx hb hts (by decide +kernel) hown hK hP 1 rfl rfl 2 (by decide) (hts (.fieldLink RX11 86 "SignetRing$Bytes" "size" "I") (by decide +kernel)) (u_same (hts (.sameField "SignetRing$Bytes" "SignetRing$Span" "size" "I") (by decide +kernel))) rfl dX11_take_21 ?_
  refine lv_sipush (v := 4096) hx hb dX11_take_24 (by decide) ?_
  refine va_mmin hx hb (hml.trans hl.1.symm) hown (hts (.methodLink RX11 219 Lib.Math.min.name) (by decide +kernel)) (hts (.static Lib.Math.min.name) (by decide +kernel)) (hts (.initialized "java/lang/Math") (by decide +kernel)) (hts (.code Lib.Math.min.name Lib.Math.min.code 2 (some .int)) (by decide +kernel)) (Nat.le_of_ble_eq_true rfl) (Nat.le_of_ble_eq_true rfl) (Nat.le_of_ble_eq_true rfl) (Nat.le_of_ble_eq_true rfl) dX11_take_27 ?_
  refine lv_topi (fun v1 ev1 => ?_)
  have ev1 : v1 = 0 := ev1.trans (by decide +kernel)
  subst ev1
  have hPc := hP.sub (ws' := [(bb, .inr (4, [w15, w16, .int 0])), (ou, .inr (4, [w14, .int 0, .int 0]))]) [2, 1] rfl
  have hDc := hD.sub (ws' := [(bb, .inr (4, [w15, w16, .int 0])), (ou, .inr (4, [w14, .int 0, .int 0]))]) [2, 1] (by decide) rfl
  have hFc := va_free (wc := [(bb, .inr (4, [w15, w16, .int 0])), (ou, .inr (4, [w14, .int 0, .int 0]))]) hD hS hA [2, 1] rfl
  refine va_callv (va_runV (As := [.ref ou, .int 0, .int 0]) (rest := []) ⟨hx, hb, hml, hown, hts⟩ (c_X0_pushSpan l D y H.size bb ou w15 w16 w14) (cwV 3 hts gv_c_X11_take_c_X0_pushSpan_101 rfl rfl rfl (by decide +kernel) ⟨(Nat.le_of_ble_eq_true rfl), (Nat.le_of_ble_eq_true rfl)⟩) (zB.preV hPc hDc hK hN hE hO hT hG hS hFc (fun _ h => nomatch h) (fun _ h => nomatch h) (fun _ h => nomatch h) (fun _ h => nomatch h) (va_recv hK hPc (ci := 4) (q0 := 0) rfl rfl)) rfl rfl hl.1 rfl (lv_room (Nat.le_of_ble_eq_true rfl)) dX11_take_30 ⟨(Nat.le_of_ble_eq_true rfl), (Nat.le_of_ble_eq_true rfl)⟩) hS (fun q _ h => hFc q h) hFc (fun u t H1 locs ht hvm hw hB hz1 hk1 hS => ?_)
  obtain ⟨hP1, hD1⟩ := hB
  rw [ht] at hP1
  obtain ⟨hP, hD⟩ := va_join (wr := [(h0, .inr (15, [.ref bb, w1, w2, w3, w4, w5, w6, w7, w8, w9, w10, .ref ou, w11, w12, w13]))]) (w1 := [(bb, .inr (4, [w15, w16, .int 0])), (ou, .inr (4, [w14, .int 0, .int 0]))]) hP hD [2, 1] [0] rfl rfl (by decide) (by decide) hk1 hFc hP1 hD1
  generalize H1 = H at hP hS ⊢
  have hP : va_P D vwCl [(h0, .inr (15, [.ref bb, w1, w2, w3, w4, w5, w6, w7, w8, w9, w10, .ref ou, w11, w12, w13])), (bb, .inr (4, [w15, w16, .int 0])), (ou, .inr (4, [w14, .int 0, .int 0]))] H := hP
  have hD : va_D A [(h0, .inr (15, [.ref bb, w1, w2, w3, w4, w5, w6, w7, w8, w9, w10, .ref ou, w11, w12, w13])), (bb, .inr (4, [w15, w16, .int 0])), (ou, .inr (4, [w14, .int 0, .int 0]))] := hD
  refine lv_aload_n hx hb dX11_take_33 rfl (lv_at hl 0 rfl) ?_
  refine va_get (D := D) (ci := 15) (v := .ref bb) (C := RX11) (T := TX11) (N := 15) hx hb hts (by decide +kernel) hown hK hP 0 rfl rfl 0 (by decide) (hts (.fieldLink RX11 14 "SignetRing" "bytes" "LSignetRing$Bytes;") (by decide +kernel)) (fun _ h9 => h9) rfl dX11_take_34 ?_
  refine va_get (D := D) (ci := 4) (v := .int 0) (C := RX0) (T := TX0) (N := 3) hx hb hts (by decide +kernel) hown hK hP 1 rfl rfl 2 (by decide) (hts (.fieldLink RX11 86 "SignetRing$Bytes" "size" "I") (by decide +kernel)) (u_same (hts (.sameField "SignetRing$Bytes" "SignetRing$Span" "size" "I") (by decide +kernel))) rfl dX11_take_37 ?_
  have hP9 := hP.sub (ws' := [(h0, .inr (15, [.ref bb, w1, w2, w3, w4, w5, w6, w7, w8, w9, w10, .ref ou, w11, w12, w13])), (ou, .inr (4, [w14, .int 0, .int 0])), (bb, .inr (4, [w15, w16, .int 0]))]) [0, 2, 1] rfl
  have hD9 := hD.sub (ws' := [(h0, .inr (15, [.ref bb, w1, w2, w3, w4, w5, w6, w7, w8, w9, w10, .ref ou, w11, w12, w13])), (ou, .inr (4, [w14, .int 0, .int 0])), (bb, .inr (4, [w15, w16, .int 0]))]) [0, 2, 1] (by decide) rfl
  refine W.widen (k := 0) (n := 0) (Nat.le_of_ble_eq_true rfl) (Nat.le_of_ble_eq_true rfl) ?_
  exact W.iret (v := 0) hx hb hr (fun t ht hW => ⟨⟨0, (), rfl, rfl, by rw [ht]; exact hP9, hD9⟩, hS.F ht⟩) hS.2.2 dX11_take_40
def wz_c_X9_sumOf : List Cond := .code yX9_sumOf cX9_sumOf 4 (some .int) :: ([.constant RX9 30 11994318, .fieldLink RX9 31 "SignetRing$Span" "size" "I"] ++ (wsX00 ++ ([])))
set_option maxHeartbeats 4000000 in
set_option maxRecDepth 100000 in
theorem c_X9_sumOf (l : Launch) (D : va_G) (y : Nat → ClassId) (sz : Nat) (b : Nat) (w1 : Value) (w2 : Value) : Met l yX9_sumOf wz_c_X9_sumOf ({ frames := 0, cells := 0, slots := 0, locals := 0 }) (va_Pc [.ref b] (zB D y [(b, .inr (4, [w1, w2, .int 0]))] sz [] [] [] [])) (va_Qi (fun (r : Int32) (_ : Unit) => r = 11994318) (fun _ t => va_P D vwCl [(b, .inr (4, [w1, w2, .int 0]))] t.heap ∧ va_D (va_A [(b, .inr (4, [w1, w2, .int 0]))] sz) [(b, .inr (4, [w1, w2, .int 0]))]) (va_A [(b, .inr (4, [w1, w2, .int 0]))] sz)) 0 0 (va_A [(b, .inr (4, [w1, w2, .int 0]))] sz) := by
  refine Met.ofW (cc := cX9_sumOf) (maxL := 4) (ret := (some .int)) (by decide) rfl ?_
  intro p e s m args below meth c s₁ B hml hv
  obtain ⟨rfl, hsz, hP, hK, hD0, hN, hE, hO, hT, hG⟩ := hv
  have hx := B.exec
  have hb := B.bytes
  have hr := B.returns
  have hts := atoms_spec (ws := wz_c_X9_sumOf) B.pre
  have hown : s.vm.findClass RX9 = some m.cls := findClass_of_methodNamed B.named
  have hlocks := B.notSynchronized
  subst hsz
  have hD := hD0.self (sz := s.heap.size)
  generalize hAe : va_A [(b, .inr (4, [w1, w2, .int 0]))] s.heap.size = A at hD hE hT hG ⊢
  have hA : ∀ q : Nat, s.heap.size ≤ q → A q := fun q h => by rw [← hAe]; exact Or.inr h
  have hS : va_S A s.heap s.heap [] := va_S.rf
  have hl := lv_entry ([.ref b]) (n := 4) (Nat.le_of_ble_eq_true rfl)
  rw [lg_entry_eq]
  generalize (lg_sl ([.ref b]) ++ List.replicate (4 - (lg_sl ([.ref b])).length) Slot.unset).toArray = ls at hl ⊢
  have hl : lv_has ls 4 [(0, .ref b)] := hl
  refine lv_ldc (v := 11994318) hx hb hown (hts (.constant RX9 30 11994318) (by decide +kernel)) dX9_sumOf_0 ?_
  refine lv_istore_n (lv' := [(1, .int 11994318), (0, .ref b)]) hx hb dX9_sumOf_2 rfl hl (by decide) rfl (fun ls hl => ?_)
  refine lv_iconst (v := 0) hx hb dX9_sumOf_3 (by decide) ?_
  refine lv_istore_n (lv' := [(2, .int 0), (1, .int 11994318), (0, .ref b)]) hx hb dX9_sumOf_4 rfl hl (by decide) rfl (fun ls hl => ?_)
  refine lv_iload_n hx hb dX9_sumOf_5 rfl (lv_at hl 0 rfl) ?_
  refine lv_aload_n hx hb dX9_sumOf_6 rfl (lv_at hl 2 rfl) ?_
  refine va_get (D := D) (ci := 4) (v := .int 0) (C := RX0) (T := TX0) (N := 3) hx hb hts (by decide +kernel) hown hK hP 0 rfl rfl 2 (by decide) (hts (.fieldLink RX9 31 "SignetRing$Span" "size" "I") (by decide +kernel)) (fun _ h9 => h9) rfl dX9_sumOf_7 ?_
  refine lv_icmp_ge (tgt := 60) hx hb dX9_sumOf_10 (by decide) (fun _ => ?_) (fun c9 => absurd (by decide) c9)
  refine lv_iload_n hx hb dX9_sumOf_60 rfl (lv_at hl 1 rfl) ?_
  have hP9 := hP.sub (ws' := [(b, .inr (4, [w1, w2, .int 0]))]) [0] rfl
  have hD9 := hD.sub (ws' := [(b, .inr (4, [w1, w2, .int 0]))]) [0] (by decide) rfl
  refine W.widen (k := 0) (n := 0) (Nat.le_of_ble_eq_true rfl) (Nat.le_of_ble_eq_true rfl) ?_
  exact W.iret (v := 11994318) hx hb hr (fun t ht hW => ⟨⟨11994318, (), rfl, rfl, by rw [ht]; exact hP9, hD9⟩, hS.F ht⟩) hS.2.2 dX9_sumOf_61
def wz_c_X11_sum : List Cond := .code yX11_sum cX11_sum 1 (some .int) :: ([.fieldLink RX11 80 "SignetRing" "out" "LSignetRing$Bytes;", .methodLink RX11 215 yX9_sumOf, .static yX9_sumOf, .initialized RX9] ++ (wsX110 ++ (wz_c_X9_sumOf ++ ([]))))
set_option maxRecDepth 100000 in
theorem gz_c_X11_sum_c_X9_sumOf : GoodIn wz_c_X11_sum wz_c_X9_sumOf := goodIn_sub (fun w h => List.mem_cons_of_mem _ (List.mem_append_right _ (List.mem_append_right _ (List.mem_append_left _ h)))) (by decide +kernel)
set_option maxRecDepth 100000 in
theorem gv_c_X11_sum_c_X9_sumOf_215 : GoodIn wz_c_X11_sum (va_wsS RX11 215 yX9_sumOf wz_c_X9_sumOf) := goodIn_app (goodIn_of _ (by decide +kernel)) gz_c_X11_sum_c_X9_sumOf
set_option maxHeartbeats 4000000 in
set_option maxRecDepth 100000 in
theorem c_X11_sum (l : Launch) (D : va_G) (y : Nat → ClassId) (sz : Nat) (h0 : Nat) (ou : Nat) (w1 : Value) (w2 : Value) (w3 : Value) (w4 : Value) (w5 : Value) (w6 : Value) (w7 : Value) (w8 : Value) (w9 : Value) (w10 : Value) (w11 : Value) (w12 : Value) (w13 : Value) (w14 : Value) (w15 : Value) (w16 : Value) : Met l yX11_sum wz_c_X11_sum ({ frames := 1, cells := 0, slots := 0, locals := 23 }) (va_Pc [.ref h0] (zB D y [(h0, .inr (15, [w1, w2, w3, w4, w5, w6, w7, w8, w9, w10, w11, .ref ou, w12, w13, w14])), (ou, .inr (4, [w15, w16, .int 0]))] sz [] [] [] [])) (va_Qi (fun (r : Int32) (_ : Unit) => r = 11994318) (fun _ t => va_P D vwCl [(h0, .inr (15, [w1, w2, w3, w4, w5, w6, w7, w8, w9, w10, w11, .ref ou, w12, w13, w14])), (ou, .inr (4, [w15, w16, .int 0]))] t.heap ∧ va_D (va_A [(h0, .inr (15, [w1, w2, w3, w4, w5, w6, w7, w8, w9, w10, w11, .ref ou, w12, w13, w14])), (ou, .inr (4, [w15, w16, .int 0]))] sz) [(h0, .inr (15, [w1, w2, w3, w4, w5, w6, w7, w8, w9, w10, w11, .ref ou, w12, w13, w14])), (ou, .inr (4, [w15, w16, .int 0]))]) (va_A [(h0, .inr (15, [w1, w2, w3, w4, w5, w6, w7, w8, w9, w10, w11, .ref ou, w12, w13, w14])), (ou, .inr (4, [w15, w16, .int 0]))] sz)) 0 0 (va_A [(h0, .inr (15, [w1, w2, w3, w4, w5, w6, w7, w8, w9, w10, w11, .ref ou, w12, w13, w14])), (ou, .inr (4, [w15, w16, .int 0]))] sz) := by
  refine Met.ofW (cc := cX11_sum) (maxL := 1) (ret := (some .int)) (by decide) rfl ?_
  intro p e s m args below meth c s₁ B hml hv
  obtain ⟨rfl, hsz, hP, hK, hD0, hN, hE, hO, hT, hG⟩ := hv
  have hx := B.exec
  have hb := B.bytes
  have hr := B.returns
  have hts := atoms_spec (ws := wz_c_X11_sum) B.pre
  have hown : s.vm.findClass RX11 = some m.cls := findClass_of_methodNamed B.named
  have hlocks := B.notSynchronized
  subst hsz
  have hD := hD0.self (sz := s.heap.size)
  generalize hAe : va_A [(h0, .inr (15, [w1, w2, w3, w4, w5, w6, w7, w8, w9, w10, w11, .ref ou, w12, w13, w14])), (ou, .inr (4, [w15, w16, .int 0]))] s.heap.size = A at hD hE hT hG ⊢
  have hA : ∀ q : Nat, s.heap.size ≤ q → A q := fun q h => by rw [← hAe]; exact Or.inr h
  have hS : va_S A s.heap s.heap [] := va_S.rf
  have hl := lv_entry ([.ref h0]) (n := 1) (Nat.le_of_ble_eq_true rfl)
  rw [lg_entry_eq]
  generalize (lg_sl ([.ref h0]) ++ List.replicate (1 - (lg_sl ([.ref h0])).length) Slot.unset).toArray = ls at hl ⊢
  have hl : lv_has ls 1 [(0, .ref h0)] := hl
  refine lv_aload_n hx hb dX11_sum_0 rfl (lv_at hl 0 rfl) ?_
  refine va_get (D := D) (ci := 15) (v := .ref ou) (C := RX11) (T := TX11) (N := 15) hx hb hts (by decide +kernel) hown hK hP 0 rfl rfl 11 (by decide) (hts (.fieldLink RX11 80 "SignetRing" "out" "LSignetRing$Bytes;") (by decide +kernel)) (fun _ h9 => h9) rfl dX11_sum_1 ?_
  have hPc := hP.sub (ws' := [(ou, .inr (4, [w15, w16, .int 0]))]) [1] rfl
  have hDc := hD.sub (ws' := [(ou, .inr (4, [w15, w16, .int 0]))]) [1] (by decide) rfl
  have hFc := va_free (wc := [(ou, .inr (4, [w15, w16, .int 0]))]) hD hS hA [1] rfl
  refine va_calli (va_runS (As := [.ref ou]) (rest := []) ⟨hx, hb, hml, hown, hts⟩ (c_X9_sumOf l D y s.heap.size ou w15 w16) (va_cwS 1 hts gv_c_X11_sum_c_X9_sumOf_215 rfl rfl rfl (by decide +kernel) ⟨(Nat.le_of_ble_eq_true rfl), (Nat.le_of_ble_eq_true rfl)⟩) (zB.preS hPc hDc hK hN hE hO hT hG hS hFc (fun _ h => nomatch h) (fun _ h => nomatch h) (fun _ h => nomatch h) (fun _ h => nomatch h)) rfl rfl hl.1 rfl (lv_room (Nat.le_of_ble_eq_true rfl)) dX11_sum_4 ⟨(Nat.le_of_ble_eq_true rfl), (Nat.le_of_ble_eq_true rfl)⟩) hS (fun q _ h => hFc q h) hFc (fun r1 u t H1 locs ht hvm hw hB hz1 hk1 hS => ?_)
  obtain ⟨hP1, hD1⟩ := hB
  rw [ht] at hP1
  obtain ⟨hP, hD⟩ := va_join (wr := [(h0, .inr (15, [w1, w2, w3, w4, w5, w6, w7, w8, w9, w10, w11, .ref ou, w12, w13, w14]))]) (w1 := [(ou, .inr (4, [w15, w16, .int 0]))]) hP hD [1] [0] rfl rfl (by decide) (by decide) hk1 hFc hP1 hD1
  generalize H1 = H at hP hS ⊢
  have hP : va_P D vwCl [(h0, .inr (15, [w1, w2, w3, w4, w5, w6, w7, w8, w9, w10, w11, .ref ou, w12, w13, w14])), (ou, .inr (4, [w15, w16, .int 0]))] H := hP
  have hD : va_D A [(h0, .inr (15, [w1, w2, w3, w4, w5, w6, w7, w8, w9, w10, w11, .ref ou, w12, w13, w14])), (ou, .inr (4, [w15, w16, .int 0]))] := hD
  have hw : r1 = 11994318 := hw
  subst hw
  have hP9 := hP.sub (ws' := [(h0, .inr (15, [w1, w2, w3, w4, w5, w6, w7, w8, w9, w10, w11, .ref ou, w12, w13, w14])), (ou, .inr (4, [w15, w16, .int 0]))]) [0, 1] rfl
  have hD9 := hD.sub (ws' := [(h0, .inr (15, [w1, w2, w3, w4, w5, w6, w7, w8, w9, w10, w11, .ref ou, w12, w13, w14])), (ou, .inr (4, [w15, w16, .int 0]))]) [0, 1] (by decide) rfl
  refine W.widen (k := 0) (n := 0) (Nat.le_of_ble_eq_true rfl) (Nat.le_of_ble_eq_true rfl) ?_
  exact W.iret (v := 11994318) hx hb hr (fun t ht hW => ⟨⟨11994318, (), rfl, rfl, by rw [ht]; exact hP9, hD9⟩, hS.F ht⟩) hS.2.2 dX11_sum_7

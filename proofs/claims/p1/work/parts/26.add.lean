def wz_c_X0_push : List Cond := .code yX0_push cX0_push 2 none :: ([.fieldLink RX0 13 "SignetRing$Bytes" "size" "I", .sameField "SignetRing$Bytes" "SignetRing$Span" "size" "I", .fieldLink RX0 19 "SignetRing$Bytes" "row" "[B", .sameField "SignetRing$Bytes" "SignetRing$Span" "row" "[B"] ++ (wsX00 ++ ([])))
set_option maxHeartbeats 4000000 in
set_option maxRecDepth 100000 in
theorem c_X0_push (l : Launch) (D : va_G) (y : Nat → ClassId) (sz : Nat) (h0 : Nat) (rr : Nat) (N : Nat) (j : Nat) (w1 : Value) (f : Nat → Int32) (b : Int32) (hj : j < N) (hN : N ≤ 4096) : Met l yX0_push wz_c_X0_push ({ frames := 0, cells := 0, slots := 0, locals := 0 }) (va_Pc [.ref h0, .int b] (zB D y [(h0, .inr (4, [.ref rr, w1, .int (nI j)])), (rr, .inl (y 0, N, .inl f))] sz [] [] [] [])) (va_Qv (fun _ : Unit => True) (fun _ t => ∃ fz0 : Nat → Int32, va_P D vwCl [(h0, .inr (4, [.ref rr, w1, .int (nI (j + 1))])), (rr, .inl (y 0, N, .inl fz0))] t.heap ∧ va_D (va_A [(h0, .inr (4, [.ref rr, w1, .int (nI j)])), (rr, .inl (y 0, N, .inl f))] sz) [(h0, .inr (4, [.ref rr, w1, .int (nI (j + 1))])), (rr, .inl (y 0, N, .inl fz0))]) (va_A [(h0, .inr (4, [.ref rr, w1, .int (nI j)])), (rr, .inl (y 0, N, .inl f))] sz)) 0 0 (va_A [(h0, .inr (4, [.ref rr, w1, .int (nI j)])), (rr, .inl (y 0, N, .inl f))] sz) := by
  refine Met.ofW (cc := cX0_push) (maxL := 2) (ret := none) (by decide) rfl ?_
  intro p e s m args below meth c s₁ B hml hv
  obtain ⟨rfl, hsz, hP, hK, hD0, hN, hE, hO, hT, hG⟩ := hv
  have hx := B.exec
  have hb := B.bytes
  have hr := B.returns
  have hts := atoms_spec (ws := wz_c_X0_push) B.pre
  have hown : s.vm.findClass RX0 = some m.cls := findClass_of_methodNamed B.named
  have hlocks := B.notSynchronized
  subst hsz
  have hD := hD0.self (sz := s.heap.size)
  generalize hAe : va_A [(h0, .inr (4, [.ref rr, w1, .int (nI j)])), (rr, .inl (y 0, N, .inl f))] s.heap.size = A at hD hE hT hG ⊢
  have hA : ∀ q : Nat, s.heap.size ≤ q → A q := fun q h => by rw [← hAe]; exact Or.inr h
  have hS : va_S A s.heap s.heap [] := va_S.rf
  have hl := lv_entry ([.ref h0, .int b]) (n := 2) (Nat.le_of_ble_eq_true rfl)
  rw [lg_entry_eq]
  generalize (lg_sl ([.ref h0, .int b]) ++ List.replicate (2 - (lg_sl ([.ref h0, .int b])).length) Slot.unset).toArray = ls at hl ⊢
  have hl : lv_has ls 2 [(0, .ref h0), (1, .int b)] := hl
  refine lv_aload_n hx hb dX0_push_0 rfl (lv_at hl 0 rfl) ?_
  refine va_get (D := D) (ci := 4) (v := .int (nI j)) (C := RX0) (T := TX0) (N := 3) hx hb hts (by decide +kernel) hown hK hP 0 rfl rfl 2 (by decide) (hts (.fieldLink RX0 13 "SignetRing$Bytes" "size" "I") (by decide +kernel)) (u_same (hts (.sameField "SignetRing$Bytes" "SignetRing$Span" "size" "I") (by decide +kernel))) rfl dX0_push_1 ?_
  refine lv_if_ge (tgt := 8) hx hb dX0_push_4 (by decide) (fun _ => ?_) (fun c9 => absurd (nI_pos' (by omega)) c9)
  refine lv_aload_n hx hb dX0_push_8 rfl (lv_at hl 0 rfl) ?_
  refine va_get (D := D) (ci := 4) (v := .int (nI j)) (C := RX0) (T := TX0) (N := 3) hx hb hts (by decide +kernel) hown hK hP 0 rfl rfl 2 (by decide) (hts (.fieldLink RX0 13 "SignetRing$Bytes" "size" "I") (by decide +kernel)) (u_same (hts (.sameField "SignetRing$Bytes" "SignetRing$Span" "size" "I") (by decide +kernel))) rfl dX0_push_9 ?_
  refine lv_aload_n hx hb dX0_push_12 rfl (lv_at hl 0 rfl) ?_
  refine va_get (D := D) (ci := 4) (v := .ref rr) (C := RX0) (T := TX0) (N := 3) hx hb hts (by decide +kernel) hown hK hP 0 rfl rfl 0 (by decide) (hts (.fieldLink RX0 19 "SignetRing$Bytes" "row" "[B") (by decide +kernel)) (u_same (hts (.sameField "SignetRing$Bytes" "SignetRing$Span" "row" "[B") (by decide +kernel))) rfl dX0_push_13 ?_
  refine va_alen (v := nI N) hx hb hK hP 1 0 rfl rfl rfl dX0_push_16 ?_
  refine lv_icmp_lt (tgt := 39) hx hb dX0_push_17 (by decide) (fun _ => ?_) (fun c9 => absurd (nI_lt hj (by omega)) c9)
  refine lv_aload_n hx hb dX0_push_39 rfl (lv_at hl 0 rfl) ?_
  refine va_get (D := D) (ci := 4) (v := .ref rr) (C := RX0) (T := TX0) (N := 3) hx hb hts (by decide +kernel) hown hK hP 0 rfl rfl 0 (by decide) (hts (.fieldLink RX0 19 "SignetRing$Bytes" "row" "[B") (by decide +kernel)) (u_same (hts (.sameField "SignetRing$Bytes" "SignetRing$Span" "row" "[B") (by decide +kernel))) rfl dX0_push_40 ?_
  refine lv_aload_n hx hb dX0_push_43 rfl (lv_at hl 0 rfl) ?_
  refine va_get (D := D) (ci := 4) (v := .int (nI j)) (C := RX0) (T := TX0) (N := 3) hx hb hts (by decide +kernel) hown hK hP 0 rfl rfl 2 (by decide) (hts (.fieldLink RX0 13 "SignetRing$Bytes" "size" "I") (by decide +kernel)) (u_same (hts (.sameField "SignetRing$Bytes" "SignetRing$Span" "size" "I") (by decide +kernel))) rfl dX0_push_44 ?_
  refine lv_iload_n hx hb dX0_push_47 rfl (lv_at hl 1 rfl) ?_
  refine lv_i2b hx hb dX0_push_48 rfl ?_
  refine lv_topi (fun v1 _ => ?_)
  refine va_bast hx hb hK hP hD hS 1 0 rfl rfl (vp_in_nI hj (by omega)) dX0_push_49 (fun H locs hP hD hS => ?_)
  have hP : va_P D vwCl [(h0, .inr (4, [.ref rr, w1, .int (nI j)])), (rr, .inl (y 0, N, .inl (upd f (nI j : Int32).toNatClampNeg (vp_nar .byte v1))))] H := hP
  have hD : va_D A [(h0, .inr (4, [.ref rr, w1, .int (nI j)])), (rr, .inl (y 0, N, .inl (upd f (nI j : Int32).toNatClampNeg (vp_nar .byte v1))))] := hD
  refine lv_aload_n hx hb dX0_push_50 rfl (lv_at hl 0 rfl) ?_
  refine lv_dup hx hb dX0_push_51 rfl ?_
  refine va_get (D := D) (ci := 4) (v := .int (nI j)) (C := RX0) (T := TX0) (N := 3) hx hb hts (by decide +kernel) hown hK hP 0 rfl rfl 2 (by decide) (hts (.fieldLink RX0 13 "SignetRing$Bytes" "size" "I") (by decide +kernel)) (u_same (hts (.sameField "SignetRing$Bytes" "SignetRing$Span" "size" "I") (by decide +kernel))) rfl dX0_push_52 ?_
  refine lv_iconst (v := 1) hx hb dX0_push_55 (by decide) ?_
  refine lv_iadd hx hb dX0_push_56 ?_
  refine lv_topi (fun v2 ev2 => ?_)
  have ev2 : v2 = nI (j + 1) := ev2.trans (nI_1 j)
  subst ev2
  refine va_put (D := D) (ci := 4) (v := .int (nI (j + 1))) (ty := .int) (C := RX0) (T := TX0) (N := 3) hx hb hts (by decide +kernel) tyX0 tyX0_ok nmX0 hown hK hP hD hS 0 rfl rfl 2 (by decide) (hts (.fieldLink RX0 13 "SignetRing$Bytes" "size" "I") (by decide +kernel)) (u_same (hts (.sameField "SignetRing$Bytes" "SignetRing$Span" "size" "I") (by decide +kernel))) rfl (by decide +kernel) rfl rfl (Nat.le_of_ble_eq_true rfl) dX0_push_57 (fun H locs hP hD hS => ?_)
  have hP : va_P D vwCl [(h0, .inr (4, [.ref rr, w1, .int (nI (j + 1))])), (rr, .inl (y 0, N, .inl (upd f (nI j : Int32).toNatClampNeg (vp_nar .byte v1))))] H := hP
  have hD : va_D A [(h0, .inr (4, [.ref rr, w1, .int (nI (j + 1))])), (rr, .inl (y 0, N, .inl (upd f (nI j : Int32).toNatClampNeg (vp_nar .byte v1))))] := hD
  have hP9 := hP.sub (ws' := [(h0, .inr (4, [.ref rr, w1, .int (nI (j + 1))])), (rr, .inl (y 0, N, .inl (upd f (nI j : Int32).toNatClampNeg (vp_nar .byte v1))))]) [0, 1] rfl
  have hD9 := hD.sub (ws' := [(h0, .inr (4, [.ref rr, w1, .int (nI (j + 1))])), (rr, .inl (y 0, N, .inl (upd f (nI j : Int32).toNatClampNeg (vp_nar .byte v1))))]) [0, 1] (by decide) rfl
  refine W.widen (k := 0) (n := 0) (Nat.le_of_ble_eq_true rfl) (Nat.le_of_ble_eq_true rfl) ?_
  exact W.vret hx hb hr (fun t ht hW => ⟨⟨(), rfl, trivial, (upd f (nI j : Int32).toNatClampNeg (vp_nar .byte v1)), by rw [ht]; exact hP9, hD9⟩, hS.F ht⟩) hS.2.2 dX0_push_60
def wz_c_X11_add_1 : List Cond := .code yX11_add cX11_add 5 (some .boolean) :: ([.fieldLink RX11 14 "SignetRing" "bytes" "LSignetRing$Bytes;", .fieldLink RX11 86 "SignetRing$Bytes" "size" "I", .sameField "SignetRing$Bytes" "SignetRing$Span" "size" "I", .methodLink RX11 90 yX0_push, .instanceMethod yX0_push, .selects RX0 yX0_push yX0_push, .initialized RX0] ++ (wsX110 ++ (wsX00 ++ (wz_c_X0_push ++ ([])))))
set_option maxRecDepth 100000 in
theorem gz_c_X11_add_1_c_X0_push : GoodIn wz_c_X11_add_1 wz_c_X0_push := goodIn_sub (fun w h => List.mem_cons_of_mem _ (List.mem_append_right _ (List.mem_append_right _ (List.mem_append_right _ (List.mem_append_left _ h))))) (by decide +kernel)
set_option maxRecDepth 100000 in
theorem gv_c_X11_add_1_c_X0_push_90 : GoodIn wz_c_X11_add_1 (wsV RX11 90 RX0 yX0_push wz_c_X0_push) := goodIn_app (goodIn_of _ (by decide +kernel)) gz_c_X11_add_1_c_X0_push
set_option maxHeartbeats 4000000 in
set_option maxRecDepth 100000 in
theorem c_X11_add_1 (l : Launch) (D : va_G) (y : Nat → ClassId) (sz : Nat) (h0 : Nat) (bb : Nat) (rr : Nat) (w1 : Value) (w2 : Value) (w3 : Value) (w4 : Value) (w5 : Value) (w6 : Value) (w7 : Value) (w8 : Value) (w9 : Value) (w10 : Value) (w11 : Value) (w12 : Value) (w13 : Value) (w14 : Value) (w15 : Value) (f : Nat → Int32) (wd : Int64) : Met l yX11_add wz_c_X11_add_1 ({ frames := 1, cells := 0, slots := 0, locals := 21 }) (va_Pc [.ref h0, .long wd, .int 1] (zB D y [(h0, .inr (15, [.ref bb, w1, w2, w3, w4, w5, w6, w7, w8, w9, w10, w11, w12, w13, w14])), (bb, .inr (4, [.ref rr, w15, .int (nI 0)])), (rr, .inl (y 0, 4096, .inl f))] sz [] [] [] [])) (va_Qi (fun (r : Int32) (_ : Unit) => r = 1) (fun _ t => ∃ fz0 : Nat → Int32, va_P D vwCl [(h0, .inr (15, [.ref bb, w1, w2, w3, w4, w5, w6, w7, w8, w9, w10, w11, w12, w13, w14])), (bb, .inr (4, [.ref rr, w15, .int (nI 1)])), (rr, .inl (y 0, 4096, .inl fz0))] t.heap ∧ va_D (va_A [(h0, .inr (15, [.ref bb, w1, w2, w3, w4, w5, w6, w7, w8, w9, w10, w11, w12, w13, w14])), (bb, .inr (4, [.ref rr, w15, .int (nI 0)])), (rr, .inl (y 0, 4096, .inl f))] sz) [(h0, .inr (15, [.ref bb, w1, w2, w3, w4, w5, w6, w7, w8, w9, w10, w11, w12, w13, w14])), (bb, .inr (4, [.ref rr, w15, .int (nI 1)])), (rr, .inl (y 0, 4096, .inl fz0))]) (va_A [(h0, .inr (15, [.ref bb, w1, w2, w3, w4, w5, w6, w7, w8, w9, w10, w11, w12, w13, w14])), (bb, .inr (4, [.ref rr, w15, .int (nI 0)])), (rr, .inl (y 0, 4096, .inl f))] sz)) 0 0 (va_A [(h0, .inr (15, [.ref bb, w1, w2, w3, w4, w5, w6, w7, w8, w9, w10, w11, w12, w13, w14])), (bb, .inr (4, [.ref rr, w15, .int (nI 0)])), (rr, .inl (y 0, 4096, .inl f))] sz) := by
  refine Met.ofW (cc := cX11_add) (maxL := 5) (ret := (some .boolean)) (by decide) rfl ?_
  intro p e s m args below meth c s₁ B hml hv
  obtain ⟨rfl, hsz, hP, hK, hD0, hN, hE, hO, hT, hG⟩ := hv
  have hx := B.exec
  have hb := B.bytes
  have hr := B.returns
  have hts := atoms_spec (ws := wz_c_X11_add_1) B.pre
  have hown : s.vm.findClass RX11 = some m.cls := findClass_of_methodNamed B.named
  have hlocks := B.notSynchronized
  subst hsz
  have hD := hD0.self (sz := s.heap.size)
  generalize hAe : va_A [(h0, .inr (15, [.ref bb, w1, w2, w3, w4, w5, w6, w7, w8, w9, w10, w11, w12, w13, w14])), (bb, .inr (4, [.ref rr, w15, .int (nI 0)])), (rr, .inl (y 0, 4096, .inl f))] s.heap.size = A at hD hE hT hG ⊢
  have hA : ∀ q : Nat, s.heap.size ≤ q → A q := fun q h => by rw [← hAe]; exact Or.inr h
  have hS : va_S A s.heap s.heap [] := va_S.rf
  have hl := lv_entry ([.ref h0, .long wd, .int 1]) (n := 5) (Nat.le_of_ble_eq_true rfl)
  rw [lg_entry_eq]
  generalize (lg_sl ([.ref h0, .long wd, .int 1]) ++ List.replicate (5 - (lg_sl ([.ref h0, .long wd, .int 1])).length) Slot.unset).toArray = ls at hl ⊢
  have hl : lv_has ls 5 [(0, .ref h0), (1, .long wd), (3, .int 1)] := hl
  refine lv_iload_n hx hb dX11_add_0 rfl (lv_at hl 2 rfl) ?_
  refine lv_iconst (v := 1) hx hb dX11_add_1 (by decide) ?_
  refine lv_icmp_lt (tgt := 26) hx hb dX11_add_2 (by decide) (fun c9 => absurd c9 (by decide)) (fun _ => ?_)
  refine lv_iload_n hx hb dX11_add_5 rfl (lv_at hl 2 rfl) ?_
  refine lv_bipush (v := 8) hx hb dX11_add_6 (by decide) ?_
  refine lv_icmp_gt (tgt := 26) hx hb dX11_add_8 (by decide) (fun c9 => absurd c9 (by decide)) (fun _ => ?_)
  refine lv_aload_n hx hb dX11_add_11 rfl (lv_at hl 0 rfl) ?_
  refine va_get (D := D) (ci := 15) (v := .ref bb) (C := RX11) (T := TX11) (N := 15) hx hb hts (by decide +kernel) hown hK hP 0 rfl rfl 0 (by decide) (hts (.fieldLink RX11 14 "SignetRing" "bytes" "LSignetRing$Bytes;") (by decide +kernel)) (fun _ h9 => h9) rfl dX11_add_12 ?_
  refine va_get (D := D) (ci := 4) (v := .int (nI 0)) (C := RX0) (T := TX0) (N := 3) hx hb hts (by decide +kernel) hown hK hP 1 rfl rfl 2 (by decide) (hts (.fieldLink RX11 86 "SignetRing$Bytes" "size" "I") (by decide +kernel)) (u_same (hts (.sameField "SignetRing$Bytes" "SignetRing$Span" "size" "I") (by decide +kernel))) rfl dX11_add_15 ?_
  refine lv_iload_n hx hb dX11_add_18 rfl (lv_at hl 2 rfl) ?_
  refine lv_iadd hx hb dX11_add_19 ?_
  refine lv_topi (fun v1 ev1 => ?_)
  have ev1 : v1 = 1 := ev1.trans (by decide +kernel)
  subst ev1
  refine lv_sipush (v := 4096) hx hb dX11_add_20 (by decide) ?_
  refine lv_icmp_le (tgt := 28) hx hb dX11_add_23 (by decide) (fun _ => ?_) (fun c9 => absurd (by decide) c9)
  refine lv_iconst (v := 0) hx hb dX11_add_28 (by decide) ?_
  refine lv_istore (lv' := [(4, .int 0), (0, .ref h0), (1, .long wd), (3, .int 1)]) hx hb dX11_add_29 hl (by decide) rfl (fun ls hl => ?_)
  refine lv_iload hx hb dX11_add_31 (lv_at hl 0 rfl) ?_
  refine lv_iload_n hx hb dX11_add_33 rfl (lv_at hl 3 rfl) ?_
  refine lv_icmp_ge (tgt := 58) hx hb dX11_add_34 (by decide) (fun c9 => absurd c9 (by decide)) (fun _ => ?_)
  refine lv_aload_n hx hb dX11_add_37 rfl (lv_at hl 1 rfl) ?_
  refine va_get (D := D) (ci := 15) (v := .ref bb) (C := RX11) (T := TX11) (N := 15) hx hb hts (by decide +kernel) hown hK hP 0 rfl rfl 0 (by decide) (hts (.fieldLink RX11 14 "SignetRing" "bytes" "LSignetRing$Bytes;") (by decide +kernel)) (fun _ h9 => h9) rfl dX11_add_38 ?_
  refine lv_lload_n hx hb dX11_add_41 rfl (lv_at hl 2 rfl) ?_
  refine lv_bipush (v := 8) hx hb dX11_add_42 (by decide) ?_
  refine lv_iload hx hb dX11_add_44 (lv_at hl 0 rfl) ?_
  refine lv_imul hx hb dX11_add_46 ?_
  refine lv_topi (fun v2 ev2 => ?_)
  have ev2 : v2 = 0 := ev2.trans (by decide +kernel)
  subst ev2
  refine lv_lushr hx hb dX11_add_47 rfl ?_
  refine lv_topl (fun v3 _ => ?_)
  refine lv_l2i hx hb dX11_add_48 rfl ?_
  refine lv_topi (fun v4 _ => ?_)
  have hPc := hP.sub (ws' := [(bb, .inr (4, [.ref rr, w15, .int (nI 0)])), (rr, .inl (y 0, 4096, .inl f))]) [1, 2] rfl
  have hDc := hD.sub (ws' := [(bb, .inr (4, [.ref rr, w15, .int (nI 0)])), (rr, .inl (y 0, 4096, .inl f))]) [1, 2] (by decide) rfl
  have hFc := va_free (wc := [(bb, .inr (4, [.ref rr, w15, .int (nI 0)])), (rr, .inl (y 0, 4096, .inl f))]) hD hS hA [1, 2] rfl
  refine va_callv (va_runV (As := [.int v4]) (rest := []) ⟨hx, hb, hml, hown, hts⟩ (c_X0_push l D y s.heap.size bb rr 4096 0 w15 f v4 (by decide) (by decide)) (cwV 1 hts gv_c_X11_add_1_c_X0_push_90 rfl rfl rfl (by decide +kernel) ⟨(Nat.le_of_ble_eq_true rfl), (Nat.le_of_ble_eq_true rfl)⟩) (zB.preV hPc hDc hK hN hE hO hT hG hS hFc (fun _ h => nomatch h) (fun _ h => nomatch h) (fun _ h => nomatch h) (fun _ h => nomatch h) (va_recv hK hPc (ci := 4) (q0 := 0) rfl rfl)) rfl rfl hl.1 rfl (lv_room (Nat.le_of_ble_eq_true rfl)) dX11_add_49 ⟨(Nat.le_of_ble_eq_true rfl), (Nat.le_of_ble_eq_true rfl)⟩) hS (fun q _ h => hFc q h) hFc (fun u t H1 locs ht hvm hw hB hz1 hk1 hS => ?_)
  obtain ⟨f5, hP1, hD1⟩ := hB
  rw [ht] at hP1
  obtain ⟨hP, hD⟩ := va_join (wr := [(h0, .inr (15, [.ref bb, w1, w2, w3, w4, w5, w6, w7, w8, w9, w10, w11, w12, w13, w14]))]) (w1 := [(bb, .inr (4, [.ref rr, w15, .int (nI 1)])), (rr, .inl (y 0, 4096, .inl f5))]) hP hD [1, 2] [0] rfl rfl (by decide) (by decide) hk1 hFc hP1 hD1
  generalize H1 = H at hP hS ⊢
  have hP : va_P D vwCl [(h0, .inr (15, [.ref bb, w1, w2, w3, w4, w5, w6, w7, w8, w9, w10, w11, w12, w13, w14])), (bb, .inr (4, [.ref rr, w15, .int (nI 1)])), (rr, .inl (y 0, 4096, .inl f5))] H := hP
  have hD : va_D A [(h0, .inr (15, [.ref bb, w1, w2, w3, w4, w5, w6, w7, w8, w9, w10, w11, w12, w13, w14])), (bb, .inr (4, [.ref rr, w15, .int (nI 1)])), (rr, .inl (y 0, 4096, .inl f5))] := hD
  refine lv_iinc (v := 1) (lv' := [(4, .int 1), (0, .ref h0), (1, .long wd), (3, .int 1)]) hx hb dX11_add_52 hl (k := 0) rfl (by decide) (by decide) rfl (fun ls hl => ?_)
  refine lv_goto (tgt := 31) hx hb dX11_add_55 (by decide) ?_
  refine lv_iload hx hb dX11_add_31 (lv_at hl 0 rfl) ?_
  refine lv_iload_n hx hb dX11_add_33 rfl (lv_at hl 3 rfl) ?_
  refine lv_icmp_ge (tgt := 58) hx hb dX11_add_34 (by decide) (fun _ => ?_) (fun c9 => absurd (by decide) c9)
  refine lv_iconst (v := 1) hx hb dX11_add_58 (by decide) ?_
  have hP9 := hP.sub (ws' := [(h0, .inr (15, [.ref bb, w1, w2, w3, w4, w5, w6, w7, w8, w9, w10, w11, w12, w13, w14])), (bb, .inr (4, [.ref rr, w15, .int (nI 1)])), (rr, .inl (y 0, 4096, .inl f5))]) [0, 1, 2] rfl
  have hD9 := hD.sub (ws' := [(h0, .inr (15, [.ref bb, w1, w2, w3, w4, w5, w6, w7, w8, w9, w10, w11, w12, w13, w14])), (bb, .inr (4, [.ref rr, w15, .int (nI 1)])), (rr, .inl (y 0, 4096, .inl f5))]) [0, 1, 2] (by decide) rfl
  refine W.widen (k := 0) (n := 0) (Nat.le_of_ble_eq_true rfl) (Nat.le_of_ble_eq_true rfl) ?_
  exact W.zret (v := 1) hx hb hr (by decide) (fun t ht hW => ⟨⟨1, (), rfl, rfl, f5, by rw [ht]; exact hP9, hD9⟩, hS.F ht⟩) hS.2.2 dX11_add_59
def wz_c_X11_add_2 : List Cond := .code yX11_add cX11_add 5 (some .boolean) :: ([.fieldLink RX11 14 "SignetRing" "bytes" "LSignetRing$Bytes;", .fieldLink RX11 86 "SignetRing$Bytes" "size" "I", .sameField "SignetRing$Bytes" "SignetRing$Span" "size" "I", .methodLink RX11 90 yX0_push, .instanceMethod yX0_push, .selects RX0 yX0_push yX0_push, .initialized RX0] ++ (wsX110 ++ (wsX00 ++ (wz_c_X0_push ++ ([])))))
set_option maxRecDepth 100000 in
theorem gz_c_X11_add_2_c_X0_push : GoodIn wz_c_X11_add_2 wz_c_X0_push := goodIn_sub (fun w h => List.mem_cons_of_mem _ (List.mem_append_right _ (List.mem_append_right _ (List.mem_append_right _ (List.mem_append_left _ h))))) (by decide +kernel)
set_option maxRecDepth 100000 in
theorem gv_c_X11_add_2_c_X0_push_90 : GoodIn wz_c_X11_add_2 (wsV RX11 90 RX0 yX0_push wz_c_X0_push) := goodIn_app (goodIn_of _ (by decide +kernel)) gz_c_X11_add_2_c_X0_push
set_option maxHeartbeats 4000000 in
set_option maxRecDepth 100000 in
theorem c_X11_add_2 (l : Launch) (D : va_G) (y : Nat → ClassId) (sz : Nat) (h0 : Nat) (bb : Nat) (rr : Nat) (w1 : Value) (w2 : Value) (w3 : Value) (w4 : Value) (w5 : Value) (w6 : Value) (w7 : Value) (w8 : Value) (w9 : Value) (w10 : Value) (w11 : Value) (w12 : Value) (w13 : Value) (w14 : Value) (w15 : Value) (f : Nat → Int32) (wd : Int64) : Met l yX11_add wz_c_X11_add_2 ({ frames := 1, cells := 0, slots := 0, locals := 21 }) (va_Pc [.ref h0, .long wd, .int 2] (zB D y [(h0, .inr (15, [.ref bb, w1, w2, w3, w4, w5, w6, w7, w8, w9, w10, w11, w12, w13, w14])), (bb, .inr (4, [.ref rr, w15, .int (nI 0)])), (rr, .inl (y 0, 4096, .inl f))] sz [] [] [] [])) (va_Qi (fun (r : Int32) (_ : Unit) => r = 1) (fun _ t => ∃ fz0 : Nat → Int32, va_P D vwCl [(h0, .inr (15, [.ref bb, w1, w2, w3, w4, w5, w6, w7, w8, w9, w10, w11, w12, w13, w14])), (bb, .inr (4, [.ref rr, w15, .int (nI 2)])), (rr, .inl (y 0, 4096, .inl fz0))] t.heap ∧ va_D (va_A [(h0, .inr (15, [.ref bb, w1, w2, w3, w4, w5, w6, w7, w8, w9, w10, w11, w12, w13, w14])), (bb, .inr (4, [.ref rr, w15, .int (nI 0)])), (rr, .inl (y 0, 4096, .inl f))] sz) [(h0, .inr (15, [.ref bb, w1, w2, w3, w4, w5, w6, w7, w8, w9, w10, w11, w12, w13, w14])), (bb, .inr (4, [.ref rr, w15, .int (nI 2)])), (rr, .inl (y 0, 4096, .inl fz0))]) (va_A [(h0, .inr (15, [.ref bb, w1, w2, w3, w4, w5, w6, w7, w8, w9, w10, w11, w12, w13, w14])), (bb, .inr (4, [.ref rr, w15, .int (nI 0)])), (rr, .inl (y 0, 4096, .inl f))] sz)) 0 0 (va_A [(h0, .inr (15, [.ref bb, w1, w2, w3, w4, w5, w6, w7, w8, w9, w10, w11, w12, w13, w14])), (bb, .inr (4, [.ref rr, w15, .int (nI 0)])), (rr, .inl (y 0, 4096, .inl f))] sz) := by
  refine Met.ofW (cc := cX11_add) (maxL := 5) (ret := (some .boolean)) (by decide) rfl ?_
  intro p e s m args below meth c s₁ B hml hv
  obtain ⟨rfl, hsz, hP, hK, hD0, hN, hE, hO, hT, hG⟩ := hv
  have hx := B.exec
  have hb := B.bytes
  have hr := B.returns
  have hts := atoms_spec (ws := wz_c_X11_add_2) B.pre
  have hown : s.vm.findClass RX11 = some m.cls := findClass_of_methodNamed B.named
  have hlocks := B.notSynchronized
  subst hsz
  have hD := hD0.self (sz := s.heap.size)
  generalize hAe : va_A [(h0, .inr (15, [.ref bb, w1, w2, w3, w4, w5, w6, w7, w8, w9, w10, w11, w12, w13, w14])), (bb, .inr (4, [.ref rr, w15, .int (nI 0)])), (rr, .inl (y 0, 4096, .inl f))] s.heap.size = A at hD hE hT hG ⊢
  have hA : ∀ q : Nat, s.heap.size ≤ q → A q := fun q h => by rw [← hAe]; exact Or.inr h
  have hS : va_S A s.heap s.heap [] := va_S.rf
  have hl := lv_entry ([.ref h0, .long wd, .int 2]) (n := 5) (Nat.le_of_ble_eq_true rfl)
  rw [lg_entry_eq]
  generalize (lg_sl ([.ref h0, .long wd, .int 2]) ++ List.replicate (5 - (lg_sl ([.ref h0, .long wd, .int 2])).length) Slot.unset).toArray = ls at hl ⊢
  have hl : lv_has ls 5 [(0, .ref h0), (1, .long wd), (3, .int 2)] := hl
  refine lv_iload_n hx hb dX11_add_0 rfl (lv_at hl 2 rfl) ?_
  refine lv_iconst (v := 1) hx hb dX11_add_1 (by decide) ?_
  refine lv_icmp_lt (tgt := 26) hx hb dX11_add_2 (by decide) (fun c9 => absurd c9 (by decide)) (fun _ => ?_)
  refine lv_iload_n hx hb dX11_add_5 rfl (lv_at hl 2 rfl) ?_
  refine lv_bipush (v := 8) hx hb dX11_add_6 (by decide) ?_
  refine lv_icmp_gt (tgt := 26) hx hb dX11_add_8 (by decide) (fun c9 => absurd c9 (by decide)) (fun _ => ?_)
  refine lv_aload_n hx hb dX11_add_11 rfl (lv_at hl 0 rfl) ?_
  refine va_get (D := D) (ci := 15) (v := .ref bb) (C := RX11) (T := TX11) (N := 15) hx hb hts (by decide +kernel) hown hK hP 0 rfl rfl 0 (by decide) (hts (.fieldLink RX11 14 "SignetRing" "bytes" "LSignetRing$Bytes;") (by decide +kernel)) (fun _ h9 => h9) rfl dX11_add_12 ?_
  refine va_get (D := D) (ci := 4) (v := .int (nI 0)) (C := RX0) (T := TX0) (N := 3) hx hb hts (by decide +kernel) hown hK hP 1 rfl rfl 2 (by decide) (hts (.fieldLink RX11 86 "SignetRing$Bytes" "size" "I") (by decide +kernel)) (u_same (hts (.sameField "SignetRing$Bytes" "SignetRing$Span" "size" "I") (by decide +kernel))) rfl dX11_add_15 ?_
  refine lv_iload_n hx hb dX11_add_18 rfl (lv_at hl 2 rfl) ?_
  refine lv_iadd hx hb dX11_add_19 ?_
  refine lv_topi (fun v1 ev1 => ?_)
  have ev1 : v1 = 2 := ev1.trans (by decide +kernel)
  subst ev1
  refine lv_sipush (v := 4096) hx hb dX11_add_20 (by decide) ?_
  refine lv_icmp_le (tgt := 28) hx hb dX11_add_23 (by decide) (fun _ => ?_) (fun c9 => absurd (by decide) c9)
  refine lv_iconst (v := 0) hx hb dX11_add_28 (by decide) ?_
  refine lv_istore (lv' := [(4, .int 0), (0, .ref h0), (1, .long wd), (3, .int 2)]) hx hb dX11_add_29 hl (by decide) rfl (fun ls hl => ?_)
  refine lv_iload hx hb dX11_add_31 (lv_at hl 0 rfl) ?_
  refine lv_iload_n hx hb dX11_add_33 rfl (lv_at hl 3 rfl) ?_
  refine lv_icmp_ge (tgt := 58) hx hb dX11_add_34 (by decide) (fun c9 => absurd c9 (by decide)) (fun _ => ?_)
  refine lv_aload_n hx hb dX11_add_37 rfl (lv_at hl 1 rfl) ?_
  refine va_get (D := D) (ci := 15) (v := .ref bb) (C := RX11) (T := TX11) (N := 15) hx hb hts (by decide +kernel) hown hK hP 0 rfl rfl 0 (by decide) (hts (.fieldLink RX11 14 "SignetRing" "bytes" "LSignetRing$Bytes;") (by decide +kernel)) (fun _ h9 => h9) rfl dX11_add_38 ?_
  refine lv_lload_n hx hb dX11_add_41 rfl (lv_at hl 2 rfl) ?_
  refine lv_bipush (v := 8) hx hb dX11_add_42 (by decide) ?_
  refine lv_iload hx hb dX11_add_44 (lv_at hl 0 rfl) ?_
  refine lv_imul hx hb dX11_add_46 ?_
  refine lv_topi (fun v2 ev2 => ?_)
  have ev2 : v2 = 0 := ev2.trans (by decide +kernel)
  subst ev2
  refine lv_lushr hx hb dX11_add_47 rfl ?_
  refine lv_topl (fun v3 _ => ?_)
  refine lv_l2i hx hb dX11_add_48 rfl ?_
  refine lv_topi (fun v4 _ => ?_)
  have hPc := hP.sub (ws' := [(bb, .inr (4, [.ref rr, w15, .int (nI 0)])), (rr, .inl (y 0, 4096, .inl f))]) [1, 2] rfl
  have hDc := hD.sub (ws' := [(bb, .inr (4, [.ref rr, w15, .int (nI 0)])), (rr, .inl (y 0, 4096, .inl f))]) [1, 2] (by decide) rfl
  have hFc := va_free (wc := [(bb, .inr (4, [.ref rr, w15, .int (nI 0)])), (rr, .inl (y 0, 4096, .inl f))]) hD hS hA [1, 2] rfl
  refine va_callv (va_runV (As := [.int v4]) (rest := []) ⟨hx, hb, hml, hown, hts⟩ (c_X0_push l D y s.heap.size bb rr 4096 0 w15 f v4 (by decide) (by decide)) (cwV 1 hts gv_c_X11_add_2_c_X0_push_90 rfl rfl rfl (by decide +kernel) ⟨(Nat.le_of_ble_eq_true rfl), (Nat.le_of_ble_eq_true rfl)⟩) (zB.preV hPc hDc hK hN hE hO hT hG hS hFc (fun _ h => nomatch h) (fun _ h => nomatch h) (fun _ h => nomatch h) (fun _ h => nomatch h) (va_recv hK hPc (ci := 4) (q0 := 0) rfl rfl)) rfl rfl hl.1 rfl (lv_room (Nat.le_of_ble_eq_true rfl)) dX11_add_49 ⟨(Nat.le_of_ble_eq_true rfl), (Nat.le_of_ble_eq_true rfl)⟩) hS (fun q _ h => hFc q h) hFc (fun u t H1 locs ht hvm hw hB hz1 hk1 hS => ?_)
  obtain ⟨f5, hP1, hD1⟩ := hB
  rw [ht] at hP1
  obtain ⟨hP, hD⟩ := va_join (wr := [(h0, .inr (15, [.ref bb, w1, w2, w3, w4, w5, w6, w7, w8, w9, w10, w11, w12, w13, w14]))]) (w1 := [(bb, .inr (4, [.ref rr, w15, .int (nI 1)])), (rr, .inl (y 0, 4096, .inl f5))]) hP hD [1, 2] [0] rfl rfl (by decide) (by decide) hk1 hFc hP1 hD1
  generalize H1 = H at hP hS ⊢
  have hP : va_P D vwCl [(h0, .inr (15, [.ref bb, w1, w2, w3, w4, w5, w6, w7, w8, w9, w10, w11, w12, w13, w14])), (bb, .inr (4, [.ref rr, w15, .int (nI 1)])), (rr, .inl (y 0, 4096, .inl f5))] H := hP
  have hD : va_D A [(h0, .inr (15, [.ref bb, w1, w2, w3, w4, w5, w6, w7, w8, w9, w10, w11, w12, w13, w14])), (bb, .inr (4, [.ref rr, w15, .int (nI 1)])), (rr, .inl (y 0, 4096, .inl f5))] := hD
  refine lv_iinc (v := 1) (lv' := [(4, .int 1), (0, .ref h0), (1, .long wd), (3, .int 2)]) hx hb dX11_add_52 hl (k := 0) rfl (by decide) (by decide) rfl (fun ls hl => ?_)
  refine lv_goto (tgt := 31) hx hb dX11_add_55 (by decide) ?_
  refine lv_iload hx hb dX11_add_31 (lv_at hl 0 rfl) ?_
  refine lv_iload_n hx hb dX11_add_33 rfl (lv_at hl 3 rfl) ?_
  refine lv_icmp_ge (tgt := 58) hx hb dX11_add_34 (by decide) (fun c9 => absurd c9 (by decide)) (fun _ => ?_)
  refine lv_aload_n hx hb dX11_add_37 rfl (lv_at hl 1 rfl) ?_
  refine va_get (D := D) (ci := 15) (v := .ref bb) (C := RX11) (T := TX11) (N := 15) hx hb hts (by decide +kernel) hown hK hP 0 rfl rfl 0 (by decide) (hts (.fieldLink RX11 14 "SignetRing" "bytes" "LSignetRing$Bytes;") (by decide +kernel)) (fun _ h9 => h9) rfl dX11_add_38 ?_
  refine lv_lload_n hx hb dX11_add_41 rfl (lv_at hl 2 rfl) ?_
  refine lv_bipush (v := 8) hx hb dX11_add_42 (by decide) ?_
  refine lv_iload hx hb dX11_add_44 (lv_at hl 0 rfl) ?_
  refine lv_imul hx hb dX11_add_46 ?_
  refine lv_topi (fun v6 ev6 => ?_)
  have ev6 : v6 = 8 := ev6.trans (by decide +kernel)
  subst ev6
  refine lv_lushr hx hb dX11_add_47 rfl ?_
  refine lv_topl (fun v7 _ => ?_)
  refine lv_l2i hx hb dX11_add_48 rfl ?_
  refine lv_topi (fun v8 _ => ?_)
  have hPc := hP.sub (ws' := [(bb, .inr (4, [.ref rr, w15, .int (nI 1)])), (rr, .inl (y 0, 4096, .inl f5))]) [1, 2] rfl
  have hDc := hD.sub (ws' := [(bb, .inr (4, [.ref rr, w15, .int (nI 1)])), (rr, .inl (y 0, 4096, .inl f5))]) [1, 2] (by decide) rfl
  have hFc := va_free (wc := [(bb, .inr (4, [.ref rr, w15, .int (nI 1)])), (rr, .inl (y 0, 4096, .inl f5))]) hD hS hA [1, 2] rfl
  refine va_callv (va_runV (As := [.int v8]) (rest := []) ⟨hx, hb, hml, hown, hts⟩ (c_X0_push l D y H.size bb rr 4096 1 w15 f5 v8 (by decide) (by decide)) (cwV 1 hts gv_c_X11_add_2_c_X0_push_90 rfl rfl rfl (by decide +kernel) ⟨(Nat.le_of_ble_eq_true rfl), (Nat.le_of_ble_eq_true rfl)⟩) (zB.preV hPc hDc hK hN hE hO hT hG hS hFc (fun _ h => nomatch h) (fun _ h => nomatch h) (fun _ h => nomatch h) (fun _ h => nomatch h) (va_recv hK hPc (ci := 4) (q0 := 0) rfl rfl)) rfl rfl hl.1 rfl (lv_room (Nat.le_of_ble_eq_true rfl)) dX11_add_49 ⟨(Nat.le_of_ble_eq_true rfl), (Nat.le_of_ble_eq_true rfl)⟩) hS (fun q _ h => hFc q h) hFc (fun u t H1 locs ht hvm hw hB hz1 hk1 hS => ?_)
  obtain ⟨f9, hP1, hD1⟩ := hB
  rw [ht] at hP1
  obtain ⟨hP, hD⟩ := va_join (wr := [(h0, .inr (15, [.ref bb, w1, w2, w3, w4, w5, w6, w7, w8, w9, w10, w11, w12, w13, w14]))]) (w1 := [(bb, .inr (4, [.ref rr, w15, .int (nI 2)])), (rr, .inl (y 0, 4096, .inl f9))]) hP hD [1, 2] [0] rfl rfl (by decide) (by decide) hk1 hFc hP1 hD1
  generalize H1 = H at hP hS ⊢
  have hP : va_P D vwCl [(h0, .inr (15, [.ref bb, w1, w2, w3, w4, w5, w6, w7, w8, w9, w10, w11, w12, w13, w14])), (bb, .inr (4, [.ref rr, w15, .int (nI 2)])), (rr, .inl (y 0, 4096, .inl f9))] H := hP
  have hD : va_D A [(h0, .inr (15, [.ref bb, w1, w2, w3, w4, w5, w6, w7, w8, w9, w10, w11, w12, w13, w14])), (bb, .inr (4, [.ref rr, w15, .int (nI 2)])), (rr, .inl (y 0, 4096, .inl f9))] := hD
  refine lv_iinc (v := 2) (lv' := [(4, .int 2), (0, .ref h0), (1, .long wd), (3, .int 2)]) hx hb dX11_add_52 hl (k := 0) rfl (by decide) (by decide) rfl (fun ls hl => ?_)
  refine lv_goto (tgt := 31) hx hb dX11_add_55 (by decide) ?_
  refine lv_iload hx hb dX11_add_31 (lv_at hl 0 rfl) ?_
  refine lv_iload_n hx hb dX11_add_33 rfl (lv_at hl 3 rfl) ?_
  refine lv_icmp_ge (tgt := 58) hx hb dX11_add_34 (by decide) (fun _ => ?_) (fun c9 => absurd (by decide) c9)
  refine lv_iconst (v := 1) hx hb dX11_add_58 (by decide) ?_
  have hP9 := hP.sub (ws' := [(h0, .inr (15, [.ref bb, w1, w2, w3, w4, w5, w6, w7, w8, w9, w10, w11, w12, w13, w14])), (bb, .inr (4, [.ref rr, w15, .int (nI 2)])), (rr, .inl (y 0, 4096, .inl f9))]) [0, 1, 2] rfl
  have hD9 := hD.sub (ws' := [(h0, .inr (15, [.ref bb, w1, w2, w3, w4, w5, w6, w7, w8, w9, w10, w11, w12, w13, w14])), (bb, .inr (4, [.ref rr, w15, .int (nI 2)])), (rr, .inl (y 0, 4096, .inl f9))]) [0, 1, 2] (by decide) rfl
  refine W.widen (k := 0) (n := 0) (Nat.le_of_ble_eq_true rfl) (Nat.le_of_ble_eq_true rfl) ?_
  exact W.zret (v := 1) hx hb hr (by decide) (fun t ht hW => ⟨⟨1, (), rfl, rfl, f9, by rw [ht]; exact hP9, hD9⟩, hS.F ht⟩) hS.2.2 dX11_add_59
def wz_c_X11_add_3 : List Cond := .code yX11_add cX11_add 5 (some .boolean) :: ([.fieldLink RX11 14 "SignetRing" "bytes" "LSignetRing$Bytes;", .fieldLink RX11 86 "SignetRing$Bytes" "size" "I", .sameField "SignetRing$Bytes" "SignetRing$Span" "size" "I", .methodLink RX11 90 yX0_push, .instanceMethod yX0_push, .selects RX0 yX0_push yX0_push, .initialized RX0] ++ (wsX110 ++ (wsX00 ++ (wz_c_X0_push ++ ([])))))
set_option maxRecDepth 100000 in
theorem gz_c_X11_add_3_c_X0_push : GoodIn wz_c_X11_add_3 wz_c_X0_push := goodIn_sub (fun w h => List.mem_cons_of_mem _ (List.mem_append_right _ (List.mem_append_right _ (List.mem_append_right _ (List.mem_append_left _ h))))) (by decide +kernel)
set_option maxRecDepth 100000 in
theorem gv_c_X11_add_3_c_X0_push_90 : GoodIn wz_c_X11_add_3 (wsV RX11 90 RX0 yX0_push wz_c_X0_push) := goodIn_app (goodIn_of _ (by decide +kernel)) gz_c_X11_add_3_c_X0_push
set_option maxHeartbeats 4000000 in
set_option maxRecDepth 100000 in
theorem c_X11_add_3 (l : Launch) (D : va_G) (y : Nat → ClassId) (sz : Nat) (h0 : Nat) (bb : Nat) (rr : Nat) (w1 : Value) (w2 : Value) (w3 : Value) (w4 : Value) (w5 : Value) (w6 : Value) (w7 : Value) (w8 : Value) (w9 : Value) (w10 : Value) (w11 : Value) (w12 : Value) (w13 : Value) (w14 : Value) (w15 : Value) (f : Nat → Int32) (wd : Int64) : Met l yX11_add wz_c_X11_add_3 ({ frames := 1, cells := 0, slots := 0, locals := 21 }) (va_Pc [.ref h0, .long wd, .int 3] (zB D y [(h0, .inr (15, [.ref bb, w1, w2, w3, w4, w5, w6, w7, w8, w9, w10, w11, w12, w13, w14])), (bb, .inr (4, [.ref rr, w15, .int (nI 0)])), (rr, .inl (y 0, 4096, .inl f))] sz [] [] [] [])) (va_Qi (fun (r : Int32) (_ : Unit) => r = 1) (fun _ t => ∃ fz0 : Nat → Int32, va_P D vwCl [(h0, .inr (15, [.ref bb, w1, w2, w3, w4, w5, w6, w7, w8, w9, w10, w11, w12, w13, w14])), (bb, .inr (4, [.ref rr, w15, .int (nI 3)])), (rr, .inl (y 0, 4096, .inl fz0))] t.heap ∧ va_D (va_A [(h0, .inr (15, [.ref bb, w1, w2, w3, w4, w5, w6, w7, w8, w9, w10, w11, w12, w13, w14])), (bb, .inr (4, [.ref rr, w15, .int (nI 0)])), (rr, .inl (y 0, 4096, .inl f))] sz) [(h0, .inr (15, [.ref bb, w1, w2, w3, w4, w5, w6, w7, w8, w9, w10, w11, w12, w13, w14])), (bb, .inr (4, [.ref rr, w15, .int (nI 3)])), (rr, .inl (y 0, 4096, .inl fz0))]) (va_A [(h0, .inr (15, [.ref bb, w1, w2, w3, w4, w5, w6, w7, w8, w9, w10, w11, w12, w13, w14])), (bb, .inr (4, [.ref rr, w15, .int (nI 0)])), (rr, .inl (y 0, 4096, .inl f))] sz)) 0 0 (va_A [(h0, .inr (15, [.ref bb, w1, w2, w3, w4, w5, w6, w7, w8, w9, w10, w11, w12, w13, w14])), (bb, .inr (4, [.ref rr, w15, .int (nI 0)])), (rr, .inl (y 0, 4096, .inl f))] sz) := by
  refine Met.ofW (cc := cX11_add) (maxL := 5) (ret := (some .boolean)) (by decide) rfl ?_
  intro p e s m args below meth c s₁ B hml hv
  obtain ⟨rfl, hsz, hP, hK, hD0, hN, hE, hO, hT, hG⟩ := hv
  have hx := B.exec
  have hb := B.bytes
  have hr := B.returns
  have hts := atoms_spec (ws := wz_c_X11_add_3) B.pre
  have hown : s.vm.findClass RX11 = some m.cls := findClass_of_methodNamed B.named
  have hlocks := B.notSynchronized
  subst hsz
  have hD := hD0.self (sz := s.heap.size)
  generalize hAe : va_A [(h0, .inr (15, [.ref bb, w1, w2, w3, w4, w5, w6, w7, w8, w9, w10, w11, w12, w13, w14])), (bb, .inr (4, [.ref rr, w15, .int (nI 0)])), (rr, .inl (y 0, 4096, .inl f))] s.heap.size = A at hD hE hT hG ⊢
  have hA : ∀ q : Nat, s.heap.size ≤ q → A q := fun q h => by rw [← hAe]; exact Or.inr h
  have hS : va_S A s.heap s.heap [] := va_S.rf
  have hl := lv_entry ([.ref h0, .long wd, .int 3]) (n := 5) (Nat.le_of_ble_eq_true rfl)
  rw [lg_entry_eq]
  generalize (lg_sl ([.ref h0, .long wd, .int 3]) ++ List.replicate (5 - (lg_sl ([.ref h0, .long wd, .int 3])).length) Slot.unset).toArray = ls at hl ⊢
  have hl : lv_has ls 5 [(0, .ref h0), (1, .long wd), (3, .int 3)] := hl
  refine lv_iload_n hx hb dX11_add_0 rfl (lv_at hl 2 rfl) ?_
  refine lv_iconst (v := 1) hx hb dX11_add_1 (by decide) ?_
  refine lv_icmp_lt (tgt := 26) hx hb dX11_add_2 (by decide) (fun c9 => absurd c9 (by decide)) (fun _ => ?_)
  refine lv_iload_n hx hb dX11_add_5 rfl (lv_at hl 2 rfl) ?_
  refine lv_bipush (v := 8) hx hb dX11_add_6 (by decide) ?_
  refine lv_icmp_gt (tgt := 26) hx hb dX11_add_8 (by decide) (fun c9 => absurd c9 (by decide)) (fun _ => ?_)
  refine lv_aload_n hx hb dX11_add_11 rfl (lv_at hl 0 rfl) ?_
  refine va_get (D := D) (ci := 15) (v := .ref bb) (C := RX11) (T := TX11) (N := 15) hx hb hts (by decide +kernel) hown hK hP 0 rfl rfl 0 (by decide) (hts (.fieldLink RX11 14 "SignetRing" "bytes" "LSignetRing$Bytes;") (by decide +kernel)) (fun _ h9 => h9) rfl dX11_add_12 ?_
  refine va_get (D := D) (ci := 4) (v := .int (nI 0)) (C := RX0) (T := TX0) (N := 3) hx hb hts (by decide +kernel) hown hK hP 1 rfl rfl 2 (by decide) (hts (.fieldLink RX11 86 "SignetRing$Bytes" "size" "I") (by decide +kernel)) (u_same (hts (.sameField "SignetRing$Bytes" "SignetRing$Span" "size" "I") (by decide +kernel))) rfl dX11_add_15 ?_
  refine lv_iload_n hx hb dX11_add_18 rfl (lv_at hl 2 rfl) ?_
  refine lv_iadd hx hb dX11_add_19 ?_
  refine lv_topi (fun v1 ev1 => ?_)
  have ev1 : v1 = 3 := ev1.trans (by decide +kernel)
  subst ev1
  refine lv_sipush (v := 4096) hx hb dX11_add_20 (by decide) ?_
  refine lv_icmp_le (tgt := 28) hx hb dX11_add_23 (by decide) (fun _ => ?_) (fun c9 => absurd (by decide) c9)
  refine lv_iconst (v := 0) hx hb dX11_add_28 (by decide) ?_
  refine lv_istore (lv' := [(4, .int 0), (0, .ref h0), (1, .long wd), (3, .int 3)]) hx hb dX11_add_29 hl (by decide) rfl (fun ls hl => ?_)
  refine lv_iload hx hb dX11_add_31 (lv_at hl 0 rfl) ?_
  refine lv_iload_n hx hb dX11_add_33 rfl (lv_at hl 3 rfl) ?_
  refine lv_icmp_ge (tgt := 58) hx hb dX11_add_34 (by decide) (fun c9 => absurd c9 (by decide)) (fun _ => ?_)
  refine lv_aload_n hx hb dX11_add_37 rfl (lv_at hl 1 rfl) ?_
  refine va_get (D := D) (ci := 15) (v := .ref bb) (C := RX11) (T := TX11) (N := 15) hx hb hts (by decide +kernel) hown hK hP 0 rfl rfl 0 (by decide) (hts (.fieldLink RX11 14 "SignetRing" "bytes" "LSignetRing$Bytes;") (by decide +kernel)) (fun _ h9 => h9) rfl dX11_add_38 ?_
  refine lv_lload_n hx hb dX11_add_41 rfl (lv_at hl 2 rfl) ?_
  refine lv_bipush (v := 8) hx hb dX11_add_42 (by decide) ?_
  refine lv_iload hx hb dX11_add_44 (lv_at hl 0 rfl) ?_
  refine lv_imul hx hb dX11_add_46 ?_
  refine lv_topi (fun v2 ev2 => ?_)
  have ev2 : v2 = 0 := ev2.trans (by decide +kernel)
  subst ev2
  refine lv_lushr hx hb dX11_add_47 rfl ?_
  refine lv_topl (fun v3 _ => ?_)
  refine lv_l2i hx hb dX11_add_48 rfl ?_
  refine lv_topi (fun v4 _ => ?_)
  have hPc := hP.sub (ws' := [(bb, .inr (4, [.ref rr, w15, .int (nI 0)])), (rr, .inl (y 0, 4096, .inl f))]) [1, 2] rfl
  have hDc := hD.sub (ws' := [(bb, .inr (4, [.ref rr, w15, .int (nI 0)])), (rr, .inl (y 0, 4096, .inl f))]) [1, 2] (by decide) rfl
  have hFc := va_free (wc := [(bb, .inr (4, [.ref rr, w15, .int (nI 0)])), (rr, .inl (y 0, 4096, .inl f))]) hD hS hA [1, 2] rfl
  refine va_callv (va_runV (As := [.int v4]) (rest := []) ⟨hx, hb, hml, hown, hts⟩ (c_X0_push l D y s.heap.size bb rr 4096 0 w15 f v4 (by decide) (by decide)) (cwV 1 hts gv_c_X11_add_3_c_X0_push_90 rfl rfl rfl (by decide +kernel) ⟨(Nat.le_of_ble_eq_true rfl), (Nat.le_of_ble_eq_true rfl)⟩) (zB.preV hPc hDc hK hN hE hO hT hG hS hFc (fun _ h => nomatch h) (fun _ h => nomatch h) (fun _ h => nomatch h) (fun _ h => nomatch h) (va_recv hK hPc (ci := 4) (q0 := 0) rfl rfl)) rfl rfl hl.1 rfl (lv_room (Nat.le_of_ble_eq_true rfl)) dX11_add_49 ⟨(Nat.le_of_ble_eq_true rfl), (Nat.le_of_ble_eq_true rfl)⟩) hS (fun q _ h => hFc q h) hFc (fun u t H1 locs ht hvm hw hB hz1 hk1 hS => ?_)
  obtain ⟨f5, hP1, hD1⟩ := hB
  rw [ht] at hP1
  obtain ⟨hP, hD⟩ := va_join (wr := [(h0, .inr (15, [.ref bb, w1, w2, w3, w4, w5, w6, w7, w8, w9, w10, w11, w12, w13, w14]))]) (w1 := [(bb, .inr (4, [.ref rr, w15, .int (nI 1)])), (rr, .inl (y 0, 4096, .inl f5))]) hP hD [1, 2] [0] rfl rfl (by decide) (by decide) hk1 hFc hP1 hD1
  generalize H1 = H at hP hS ⊢
  have hP : va_P D vwCl [(h0, .inr (15, [.ref bb, w1, w2, w3, w4, w5, w6, w7, w8, w9, w10, w11, w12, w13, w14])), (bb, .inr (4, [.ref rr, w15, .int (nI 1)])), (rr, .inl (y 0, 4096, .inl f5))] H := hP
  have hD : va_D A [(h0, .inr (15, [.ref bb, w1, w2, w3, w4, w5, w6, w7, w8, w9, w10, w11, w12, w13, w14])), (bb, .inr (4, [.ref rr, w15, .int (nI 1)])), (rr, .inl (y 0, 4096, .inl f5))] := hD
  refine lv_iinc (v := 1) (lv' := [(4, .int 1), (0, .ref h0), (1, .long wd), (3, .int 3)]) hx hb dX11_add_52 hl (k := 0) rfl (by decide) (by decide) rfl (fun ls hl => ?_)
  refine lv_goto (tgt := 31) hx hb dX11_add_55 (by decide) ?_
  refine lv_iload hx hb dX11_add_31 (lv_at hl 0 rfl) ?_
  refine lv_iload_n hx hb dX11_add_33 rfl (lv_at hl 3 rfl) ?_
  refine lv_icmp_ge (tgt := 58) hx hb dX11_add_34 (by decide) (fun c9 => absurd c9 (by decide)) (fun _ => ?_)
  refine lv_aload_n hx hb dX11_add_37 rfl (lv_at hl 1 rfl) ?_
  refine va_get (D := D) (ci := 15) (v := .ref bb) (C := RX11) (T := TX11) (N := 15) hx hb hts (by decide +kernel) hown hK hP 0 rfl rfl 0 (by decide) (hts (.fieldLink RX11 14 "SignetRing" "bytes" "LSignetRing$Bytes;") (by decide +kernel)) (fun _ h9 => h9) rfl dX11_add_38 ?_
  refine lv_lload_n hx hb dX11_add_41 rfl (lv_at hl 2 rfl) ?_
  refine lv_bipush (v := 8) hx hb dX11_add_42 (by decide) ?_
  refine lv_iload hx hb dX11_add_44 (lv_at hl 0 rfl) ?_
  refine lv_imul hx hb dX11_add_46 ?_
  refine lv_topi (fun v6 ev6 => ?_)
  have ev6 : v6 = 8 := ev6.trans (by decide +kernel)
  subst ev6
  refine lv_lushr hx hb dX11_add_47 rfl ?_
  refine lv_topl (fun v7 _ => ?_)
  refine lv_l2i hx hb dX11_add_48 rfl ?_
  refine lv_topi (fun v8 _ => ?_)
  have hPc := hP.sub (ws' := [(bb, .inr (4, [.ref rr, w15, .int (nI 1)])), (rr, .inl (y 0, 4096, .inl f5))]) [1, 2] rfl
  have hDc := hD.sub (ws' := [(bb, .inr (4, [.ref rr, w15, .int (nI 1)])), (rr, .inl (y 0, 4096, .inl f5))]) [1, 2] (by decide) rfl
  have hFc := va_free (wc := [(bb, .inr (4, [.ref rr, w15, .int (nI 1)])), (rr, .inl (y 0, 4096, .inl f5))]) hD hS hA [1, 2] rfl
  refine va_callv (va_runV (As := [.int v8]) (rest := []) ⟨hx, hb, hml, hown, hts⟩ (c_X0_push l D y H.size bb rr 4096 1 w15 f5 v8 (by decide) (by decide)) (cwV 1 hts gv_c_X11_add_3_c_X0_push_90 rfl rfl rfl (by decide +kernel) ⟨(Nat.le_of_ble_eq_true rfl), (Nat.le_of_ble_eq_true rfl)⟩) (zB.preV hPc hDc hK hN hE hO hT hG hS hFc (fun _ h => nomatch h) (fun _ h => nomatch h) (fun _ h => nomatch h) (fun _ h => nomatch h) (va_recv hK hPc (ci := 4) (q0 := 0) rfl rfl)) rfl rfl hl.1 rfl (lv_room (Nat.le_of_ble_eq_true rfl)) dX11_add_49 ⟨(Nat.le_of_ble_eq_true rfl), (Nat.le_of_ble_eq_true rfl)⟩) hS (fun q _ h => hFc q h) hFc (fun u t H1 locs ht hvm hw hB hz1 hk1 hS => ?_)
  obtain ⟨f9, hP1, hD1⟩ := hB
  rw [ht] at hP1
  obtain ⟨hP, hD⟩ := va_join (wr := [(h0, .inr (15, [.ref bb, w1, w2, w3, w4, w5, w6, w7, w8, w9, w10, w11, w12, w13, w14]))]) (w1 := [(bb, .inr (4, [.ref rr, w15, .int (nI 2)])), (rr, .inl (y 0, 4096, .inl f9))]) hP hD [1, 2] [0] rfl rfl (by decide) (by decide) hk1 hFc hP1 hD1
  generalize H1 = H at hP hS ⊢
  have hP : va_P D vwCl [(h0, .inr (15, [.ref bb, w1, w2, w3, w4, w5, w6, w7, w8, w9, w10, w11, w12, w13, w14])), (bb, .inr (4, [.ref rr, w15, .int (nI 2)])), (rr, .inl (y 0, 4096, .inl f9))] H := hP
  have hD : va_D A [(h0, .inr (15, [.ref bb, w1, w2, w3, w4, w5, w6, w7, w8, w9, w10, w11, w12, w13, w14])), (bb, .inr (4, [.ref rr, w15, .int (nI 2)])), (rr, .inl (y 0, 4096, .inl f9))] := hD
  refine lv_iinc (v := 2) (lv' := [(4, .int 2), (0, .ref h0), (1, .long wd), (3, .int 3)]) hx hb dX11_add_52 hl (k := 0) rfl (by decide) (by decide) rfl (fun ls hl => ?_)
  refine lv_goto (tgt := 31) hx hb dX11_add_55 (by decide) ?_
  refine lv_iload hx hb dX11_add_31 (lv_at hl 0 rfl) ?_
  refine lv_iload_n hx hb dX11_add_33 rfl (lv_at hl 3 rfl) ?_
  refine lv_icmp_ge (tgt := 58) hx hb dX11_add_34 (by decide) (fun c9 => absurd c9 (by decide)) (fun _ => ?_)
  refine lv_aload_n hx hb dX11_add_37 rfl (lv_at hl 1 rfl) ?_
  refine va_get (D := D) (ci := 15) (v := .ref bb) (C := RX11) (T := TX11) (N := 15) hx hb hts (by decide +kernel) hown hK hP 0 rfl rfl 0 (by decide) (hts (.fieldLink RX11 14 "SignetRing" "bytes" "LSignetRing$Bytes;") (by decide +kernel)) (fun _ h9 => h9) rfl dX11_add_38 ?_
  refine lv_lload_n hx hb dX11_add_41 rfl (lv_at hl 2 rfl) ?_
  refine lv_bipush (v := 8) hx hb dX11_add_42 (by decide) ?_
  refine lv_iload hx hb dX11_add_44 (lv_at hl 0 rfl) ?_
  refine lv_imul hx hb dX11_add_46 ?_
  refine lv_topi (fun v10 ev10 => ?_)
  have ev10 : v10 = 16 := ev10.trans (by decide +kernel)
  subst ev10
  refine lv_lushr hx hb dX11_add_47 rfl ?_
  refine lv_topl (fun v11 _ => ?_)
  refine lv_l2i hx hb dX11_add_48 rfl ?_
  refine lv_topi (fun v12 _ => ?_)
  have hPc := hP.sub (ws' := [(bb, .inr (4, [.ref rr, w15, .int (nI 2)])), (rr, .inl (y 0, 4096, .inl f9))]) [1, 2] rfl
  have hDc := hD.sub (ws' := [(bb, .inr (4, [.ref rr, w15, .int (nI 2)])), (rr, .inl (y 0, 4096, .inl f9))]) [1, 2] (by decide) rfl
  have hFc := va_free (wc := [(bb, .inr (4, [.ref rr, w15, .int (nI 2)])), (rr, .inl (y 0, 4096, .inl f9))]) hD hS hA [1, 2] rfl
  refine va_callv (va_runV (As := [.int v12]) (rest := []) ⟨hx, hb, hml, hown, hts⟩ (c_X0_push l D y H.size bb rr 4096 2 w15 f9 v12 (by decide) (by decide)) (cwV 1 hts gv_c_X11_add_3_c_X0_push_90 rfl rfl rfl (by decide +kernel) ⟨(Nat.le_of_ble_eq_true rfl), (Nat.le_of_ble_eq_true rfl)⟩) (zB.preV hPc hDc hK hN hE hO hT hG hS hFc (fun _ h => nomatch h) (fun _ h => nomatch h) (fun _ h => nomatch h) (fun _ h => nomatch h) (va_recv hK hPc (ci := 4) (q0 := 0) rfl rfl)) rfl rfl hl.1 rfl (lv_room (Nat.le_of_ble_eq_true rfl)) dX11_add_49 ⟨(Nat.le_of_ble_eq_true rfl), (Nat.le_of_ble_eq_true rfl)⟩) hS (fun q _ h => hFc q h) hFc (fun u t H1 locs ht hvm hw hB hz1 hk1 hS => ?_)
  obtain ⟨f13, hP1, hD1⟩ := hB
  rw [ht] at hP1
  obtain ⟨hP, hD⟩ := va_join (wr := [(h0, .inr (15, [.ref bb, w1, w2, w3, w4, w5, w6, w7, w8, w9, w10, w11, w12, w13, w14]))]) (w1 := [(bb, .inr (4, [.ref rr, w15, .int (nI 3)])), (rr, .inl (y 0, 4096, .inl f13))]) hP hD [1, 2] [0] rfl rfl (by decide) (by decide) hk1 hFc hP1 hD1
  generalize H1 = H at hP hS ⊢
  have hP : va_P D vwCl [(h0, .inr (15, [.ref bb, w1, w2, w3, w4, w5, w6, w7, w8, w9, w10, w11, w12, w13, w14])), (bb, .inr (4, [.ref rr, w15, .int (nI 3)])), (rr, .inl (y 0, 4096, .inl f13))] H := hP
  have hD : va_D A [(h0, .inr (15, [.ref bb, w1, w2, w3, w4, w5, w6, w7, w8, w9, w10, w11, w12, w13, w14])), (bb, .inr (4, [.ref rr, w15, .int (nI 3)])), (rr, .inl (y 0, 4096, .inl f13))] := hD
  refine lv_iinc (v := 3) (lv' := [(4, .int 3), (0, .ref h0), (1, .long wd), (3, .int 3)]) hx hb dX11_add_52 hl (k := 0) rfl (by decide) (by decide) rfl (fun ls hl => ?_)
  refine lv_goto (tgt := 31) hx hb dX11_add_55 (by decide) ?_
  refine lv_iload hx hb dX11_add_31 (lv_at hl 0 rfl) ?_
  refine lv_iload_n hx hb dX11_add_33 rfl (lv_at hl 3 rfl) ?_
  refine lv_icmp_ge (tgt := 58) hx hb dX11_add_34 (by decide) (fun _ => ?_) (fun c9 => absurd (by decide) c9)
  refine lv_iconst (v := 1) hx hb dX11_add_58 (by decide) ?_
  have hP9 := hP.sub (ws' := [(h0, .inr (15, [.ref bb, w1, w2, w3, w4, w5, w6, w7, w8, w9, w10, w11, w12, w13, w14])), (bb, .inr (4, [.ref rr, w15, .int (nI 3)])), (rr, .inl (y 0, 4096, .inl f13))]) [0, 1, 2] rfl
  have hD9 := hD.sub (ws' := [(h0, .inr (15, [.ref bb, w1, w2, w3, w4, w5, w6, w7, w8, w9, w10, w11, w12, w13, w14])), (bb, .inr (4, [.ref rr, w15, .int (nI 3)])), (rr, .inl (y 0, 4096, .inl f13))]) [0, 1, 2] (by decide) rfl
  refine W.widen (k := 0) (n := 0) (Nat.le_of_ble_eq_true rfl) (Nat.le_of_ble_eq_true rfl) ?_
  exact W.zret (v := 1) hx hb hr (by decide) (fun t ht hW => ⟨⟨1, (), rfl, rfl, f13, by rw [ht]; exact hP9, hD9⟩, hS.F ht⟩) hS.2.2 dX11_add_59
def wz_c_X11_add_4 : List Cond := .code yX11_add cX11_add 5 (some .boolean) :: ([.fieldLink RX11 14 "SignetRing" "bytes" "LSignetRing$Bytes;", .fieldLink RX11 86 "SignetRing$Bytes" "size" "I", .sameField "SignetRing$Bytes" "SignetRing$Span" "size" "I", .methodLink RX11 90 yX0_push, .instanceMethod yX0_push, .selects RX0 yX0_push yX0_push, .initialized RX0] ++ (wsX110 ++ (wsX00 ++ (wz_c_X0_push ++ ([])))))
set_option maxRecDepth 100000 in
theorem gz_c_X11_add_4_c_X0_push : GoodIn wz_c_X11_add_4 wz_c_X0_push := goodIn_sub (fun w h => List.mem_cons_of_mem _ (List.mem_append_right _ (List.mem_append_right _ (List.mem_append_right _ (List.mem_append_left _ h))))) (by decide +kernel)
set_option maxRecDepth 100000 in
theorem gv_c_X11_add_4_c_X0_push_90 : GoodIn wz_c_X11_add_4 (wsV RX11 90 RX0 yX0_push wz_c_X0_push) := goodIn_app (goodIn_of _ (by decide +kernel)) gz_c_X11_add_4_c_X0_push
set_option maxHeartbeats 4000000 in
set_option maxRecDepth 100000 in
theorem c_X11_add_4 (l : Launch) (D : va_G) (y : Nat → ClassId) (sz : Nat) (h0 : Nat) (bb : Nat) (rr : Nat) (w1 : Value) (w2 : Value) (w3 : Value) (w4 : Value) (w5 : Value) (w6 : Value) (w7 : Value) (w8 : Value) (w9 : Value) (w10 : Value) (w11 : Value) (w12 : Value) (w13 : Value) (w14 : Value) (w15 : Value) (f : Nat → Int32) (wd : Int64) : Met l yX11_add wz_c_X11_add_4 ({ frames := 1, cells := 0, slots := 0, locals := 21 }) (va_Pc [.ref h0, .long wd, .int 4] (zB D y [(h0, .inr (15, [.ref bb, w1, w2, w3, w4, w5, w6, w7, w8, w9, w10, w11, w12, w13, w14])), (bb, .inr (4, [.ref rr, w15, .int (nI 0)])), (rr, .inl (y 0, 4096, .inl f))] sz [] [] [] [])) (va_Qi (fun (r : Int32) (_ : Unit) => r = 1) (fun _ t => ∃ fz0 : Nat → Int32, va_P D vwCl [(h0, .inr (15, [.ref bb, w1, w2, w3, w4, w5, w6, w7, w8, w9, w10, w11, w12, w13, w14])), (bb, .inr (4, [.ref rr, w15, .int (nI 4)])), (rr, .inl (y 0, 4096, .inl fz0))] t.heap ∧ va_D (va_A [(h0, .inr (15, [.ref bb, w1, w2, w3, w4, w5, w6, w7, w8, w9, w10, w11, w12, w13, w14])), (bb, .inr (4, [.ref rr, w15, .int (nI 0)])), (rr, .inl (y 0, 4096, .inl f))] sz) [(h0, .inr (15, [.ref bb, w1, w2, w3, w4, w5, w6, w7, w8, w9, w10, w11, w12, w13, w14])), (bb, .inr (4, [.ref rr, w15, .int (nI 4)])), (rr, .inl (y 0, 4096, .inl fz0))]) (va_A [(h0, .inr (15, [.ref bb, w1, w2, w3, w4, w5, w6, w7, w8, w9, w10, w11, w12, w13, w14])), (bb, .inr (4, [.ref rr, w15, .int (nI 0)])), (rr, .inl (y 0, 4096, .inl f))] sz)) 0 0 (va_A [(h0, .inr (15, [.ref bb, w1, w2, w3, w4, w5, w6, w7, w8, w9, w10, w11, w12, w13, w14])), (bb, .inr (4, [.ref rr, w15, .int (nI 0)])), (rr, .inl (y 0, 4096, .inl f))] sz) := by
  refine Met.ofW (cc := cX11_add) (maxL := 5) (ret := (some .boolean)) (by decide) rfl ?_
  intro p e s m args below meth c s₁ B hml hv
  obtain ⟨rfl, hsz, hP, hK, hD0, hN, hE, hO, hT, hG⟩ := hv
  have hx := B.exec
  have hb := B.bytes
  have hr := B.returns
  have hts := atoms_spec (ws := wz_c_X11_add_4) B.pre
  have hown : s.vm.findClass RX11 = some m.cls := findClass_of_methodNamed B.named
  have hlocks := B.notSynchronized
  subst hsz
  have hD := hD0.self (sz := s.heap.size)
  generalize hAe : va_A [(h0, .inr (15, [.ref bb, w1, w2, w3, w4, w5, w6, w7, w8, w9, w10, w11, w12, w13, w14])), (bb, .inr (4, [.ref rr, w15, .int (nI 0)])), (rr, .inl (y 0, 4096, .inl f))] s.heap.size = A at hD hE hT hG ⊢
  have hA : ∀ q : Nat, s.heap.size ≤ q → A q := fun q h => by rw [← hAe]; exact Or.inr h
  have hS : va_S A s.heap s.heap [] := va_S.rf
  have hl := lv_entry ([.ref h0, .long wd, .int 4]) (n := 5) (Nat.le_of_ble_eq_true rfl)
  rw [lg_entry_eq]
  generalize (lg_sl ([.ref h0, .long wd, .int 4]) ++ List.replicate (5 - (lg_sl ([.ref h0, .long wd, .int 4])).length) Slot.unset).toArray = ls at hl ⊢
  have hl : lv_has ls 5 [(0, .ref h0), (1, .long wd), (3, .int 4)] := hl
  refine lv_iload_n hx hb dX11_add_0 rfl (lv_at hl 2 rfl) ?_
  refine lv_iconst (v := 1) hx hb dX11_add_1 (by decide) ?_
  refine lv_icmp_lt (tgt := 26) hx hb dX11_add_2 (by decide) (fun c9 => absurd c9 (by decide)) (fun _ => ?_)
  refine lv_iload_n hx hb dX11_add_5 rfl (lv_at hl 2 rfl) ?_
  refine lv_bipush (v := 8) hx hb dX11_add_6 (by decide) ?_
  refine lv_icmp_gt (tgt := 26) hx hb dX11_add_8 (by decide) (fun c9 => absurd c9 (by decide)) (fun _ => ?_)
  refine lv_aload_n hx hb dX11_add_11 rfl (lv_at hl 0 rfl) ?_
  refine va_get (D := D) (ci := 15) (v := .ref bb) (C := RX11) (T := TX11) (N := 15) hx hb hts (by decide +kernel) hown hK hP 0 rfl rfl 0 (by decide) (hts (.fieldLink RX11 14 "SignetRing" "bytes" "LSignetRing$Bytes;") (by decide +kernel)) (fun _ h9 => h9) rfl dX11_add_12 ?_
  refine va_get (D := D) (ci := 4) (v := .int (nI 0)) (C := RX0) (T := TX0) (N := 3) hx hb hts (by decide +kernel) hown hK hP 1 rfl rfl 2 (by decide) (hts (.fieldLink RX11 86 "SignetRing$Bytes" "size" "I") (by decide +kernel)) (u_same (hts (.sameField "SignetRing$Bytes" "SignetRing$Span" "size" "I") (by decide +kernel))) rfl dX11_add_15 ?_
  refine lv_iload_n hx hb dX11_add_18 rfl (lv_at hl 2 rfl) ?_
  refine lv_iadd hx hb dX11_add_19 ?_
  refine lv_topi (fun v1 ev1 => ?_)
  have ev1 : v1 = 4 := ev1.trans (by decide +kernel)
  subst ev1
  refine lv_sipush (v := 4096) hx hb dX11_add_20 (by decide) ?_
  refine lv_icmp_le (tgt := 28) hx hb dX11_add_23 (by decide) (fun _ => ?_) (fun c9 => absurd (by decide) c9)
  refine lv_iconst (v := 0) hx hb dX11_add_28 (by decide) ?_
  refine lv_istore (lv' := [(4, .int 0), (0, .ref h0), (1, .long wd), (3, .int 4)]) hx hb dX11_add_29 hl (by decide) rfl (fun ls hl => ?_)
  refine lv_iload hx hb dX11_add_31 (lv_at hl 0 rfl) ?_
  refine lv_iload_n hx hb dX11_add_33 rfl (lv_at hl 3 rfl) ?_
  refine lv_icmp_ge (tgt := 58) hx hb dX11_add_34 (by decide) (fun c9 => absurd c9 (by decide)) (fun _ => ?_)
  refine lv_aload_n hx hb dX11_add_37 rfl (lv_at hl 1 rfl) ?_
  refine va_get (D := D) (ci := 15) (v := .ref bb) (C := RX11) (T := TX11) (N := 15) hx hb hts (by decide +kernel) hown hK hP 0 rfl rfl 0 (by decide) (hts (.fieldLink RX11 14 "SignetRing" "bytes" "LSignetRing$Bytes;") (by decide +kernel)) (fun _ h9 => h9) rfl dX11_add_38 ?_
  refine lv_lload_n hx hb dX11_add_41 rfl (lv_at hl 2 rfl) ?_
  refine lv_bipush (v := 8) hx hb dX11_add_42 (by decide) ?_
  refine lv_iload hx hb dX11_add_44 (lv_at hl 0 rfl) ?_
  refine lv_imul hx hb dX11_add_46 ?_
  refine lv_topi (fun v2 ev2 => ?_)
  have ev2 : v2 = 0 := ev2.trans (by decide +kernel)
  subst ev2
  refine lv_lushr hx hb dX11_add_47 rfl ?_
  refine lv_topl (fun v3 _ => ?_)
  refine lv_l2i hx hb dX11_add_48 rfl ?_
  refine lv_topi (fun v4 _ => ?_)
  have hPc := hP.sub (ws' := [(bb, .inr (4, [.ref rr, w15, .int (nI 0)])), (rr, .inl (y 0, 4096, .inl f))]) [1, 2] rfl
  have hDc := hD.sub (ws' := [(bb, .inr (4, [.ref rr, w15, .int (nI 0)])), (rr, .inl (y 0, 4096, .inl f))]) [1, 2] (by decide) rfl
  have hFc := va_free (wc := [(bb, .inr (4, [.ref rr, w15, .int (nI 0)])), (rr, .inl (y 0, 4096, .inl f))]) hD hS hA [1, 2] rfl
  refine va_callv (va_runV (As := [.int v4]) (rest := []) ⟨hx, hb, hml, hown, hts⟩ (c_X0_push l D y s.heap.size bb rr 4096 0 w15 f v4 (by decide) (by decide)) (cwV 1 hts gv_c_X11_add_4_c_X0_push_90 rfl rfl rfl (by decide +kernel) ⟨(Nat.le_of_ble_eq_true rfl), (Nat.le_of_ble_eq_true rfl)⟩) (zB.preV hPc hDc hK hN hE hO hT hG hS hFc (fun _ h => nomatch h) (fun _ h => nomatch h) (fun _ h => nomatch h) (fun _ h => nomatch h) (va_recv hK hPc (ci := 4) (q0 := 0) rfl rfl)) rfl rfl hl.1 rfl (lv_room (Nat.le_of_ble_eq_true rfl)) dX11_add_49 ⟨(Nat.le_of_ble_eq_true rfl), (Nat.le_of_ble_eq_true rfl)⟩) hS (fun q _ h => hFc q h) hFc (fun u t H1 locs ht hvm hw hB hz1 hk1 hS => ?_)
  obtain ⟨f5, hP1, hD1⟩ := hB
  rw [ht] at hP1
  obtain ⟨hP, hD⟩ := va_join (wr := [(h0, .inr (15, [.ref bb, w1, w2, w3, w4, w5, w6, w7, w8, w9, w10, w11, w12, w13, w14]))]) (w1 := [(bb, .inr (4, [.ref rr, w15, .int (nI 1)])), (rr, .inl (y 0, 4096, .inl f5))]) hP hD [1, 2] [0] rfl rfl (by decide) (by decide) hk1 hFc hP1 hD1
  generalize H1 = H at hP hS ⊢
  have hP : va_P D vwCl [(h0, .inr (15, [.ref bb, w1, w2, w3, w4, w5, w6, w7, w8, w9, w10, w11, w12, w13, w14])), (bb, .inr (4, [.ref rr, w15, .int (nI 1)])), (rr, .inl (y 0, 4096, .inl f5))] H := hP
  have hD : va_D A [(h0, .inr (15, [.ref bb, w1, w2, w3, w4, w5, w6, w7, w8, w9, w10, w11, w12, w13, w14])), (bb, .inr (4, [.ref rr, w15, .int (nI 1)])), (rr, .inl (y 0, 4096, .inl f5))] := hD
  refine lv_iinc (v := 1) (lv' := [(4, .int 1), (0, .ref h0), (1, .long wd), (3, .int 4)]) hx hb dX11_add_52 hl (k := 0) rfl (by decide) (by decide) rfl (fun ls hl => ?_)
  refine lv_goto (tgt := 31) hx hb dX11_add_55 (by decide) ?_
  refine lv_iload hx hb dX11_add_31 (lv_at hl 0 rfl) ?_
  refine lv_iload_n hx hb dX11_add_33 rfl (lv_at hl 3 rfl) ?_
  refine lv_icmp_ge (tgt := 58) hx hb dX11_add_34 (by decide) (fun c9 => absurd c9 (by decide)) (fun _ => ?_)
  refine lv_aload_n hx hb dX11_add_37 rfl (lv_at hl 1 rfl) ?_
  refine va_get (D := D) (ci := 15) (v := .ref bb) (C := RX11) (T := TX11) (N := 15) hx hb hts (by decide +kernel) hown hK hP 0 rfl rfl 0 (by decide) (hts (.fieldLink RX11 14 "SignetRing" "bytes" "LSignetRing$Bytes;") (by decide +kernel)) (fun _ h9 => h9) rfl dX11_add_38 ?_
  refine lv_lload_n hx hb dX11_add_41 rfl (lv_at hl 2 rfl) ?_
  refine lv_bipush (v := 8) hx hb dX11_add_42 (by decide) ?_
  refine lv_iload hx hb dX11_add_44 (lv_at hl 0 rfl) ?_
  refine lv_imul hx hb dX11_add_46 ?_
  refine lv_topi (fun v6 ev6 => ?_)
  have ev6 : v6 = 8 := ev6.trans (by decide +kernel)
  subst ev6
  refine lv_lushr hx hb dX11_add_47 rfl ?_
  refine lv_topl (fun v7 _ => ?_)
  refine lv_l2i hx hb dX11_add_48 rfl ?_
  refine lv_topi (fun v8 _ => ?_)
  have hPc := hP.sub (ws' := [(bb, .inr (4, [.ref rr, w15, .int (nI 1)])), (rr, .inl (y 0, 4096, .inl f5))]) [1, 2] rfl
  have hDc := hD.sub (ws' := [(bb, .inr (4, [.ref rr, w15, .int (nI 1)])), (rr, .inl (y 0, 4096, .inl f5))]) [1, 2] (by decide) rfl
  have hFc := va_free (wc := [(bb, .inr (4, [.ref rr, w15, .int (nI 1)])), (rr, .inl (y 0, 4096, .inl f5))]) hD hS hA [1, 2] rfl
  refine va_callv (va_runV (As := [.int v8]) (rest := []) ⟨hx, hb, hml, hown, hts⟩ (c_X0_push l D y H.size bb rr 4096 1 w15 f5 v8 (by decide) (by decide)) (cwV 1 hts gv_c_X11_add_4_c_X0_push_90 rfl rfl rfl (by decide +kernel) ⟨(Nat.le_of_ble_eq_true rfl), (Nat.le_of_ble_eq_true rfl)⟩) (zB.preV hPc hDc hK hN hE hO hT hG hS hFc (fun _ h => nomatch h) (fun _ h => nomatch h) (fun _ h => nomatch h) (fun _ h => nomatch h) (va_recv hK hPc (ci := 4) (q0 := 0) rfl rfl)) rfl rfl hl.1 rfl (lv_room (Nat.le_of_ble_eq_true rfl)) dX11_add_49 ⟨(Nat.le_of_ble_eq_true rfl), (Nat.le_of_ble_eq_true rfl)⟩) hS (fun q _ h => hFc q h) hFc (fun u t H1 locs ht hvm hw hB hz1 hk1 hS => ?_)
  obtain ⟨f9, hP1, hD1⟩ := hB
  rw [ht] at hP1
  obtain ⟨hP, hD⟩ := va_join (wr := [(h0, .inr (15, [.ref bb, w1, w2, w3, w4, w5, w6, w7, w8, w9, w10, w11, w12, w13, w14]))]) (w1 := [(bb, .inr (4, [.ref rr, w15, .int (nI 2)])), (rr, .inl (y 0, 4096, .inl f9))]) hP hD [1, 2] [0] rfl rfl (by decide) (by decide) hk1 hFc hP1 hD1
  generalize H1 = H at hP hS ⊢
  have hP : va_P D vwCl [(h0, .inr (15, [.ref bb, w1, w2, w3, w4, w5, w6, w7, w8, w9, w10, w11, w12, w13, w14])), (bb, .inr (4, [.ref rr, w15, .int (nI 2)])), (rr, .inl (y 0, 4096, .inl f9))] H := hP
  have hD : va_D A [(h0, .inr (15, [.ref bb, w1, w2, w3, w4, w5, w6, w7, w8, w9, w10, w11, w12, w13, w14])), (bb, .inr (4, [.ref rr, w15, .int (nI 2)])), (rr, .inl (y 0, 4096, .inl f9))] := hD
  refine lv_iinc (v := 2) (lv' := [(4, .int 2), (0, .ref h0), (1, .long wd), (3, .int 4)]) hx hb dX11_add_52 hl (k := 0) rfl (by decide) (by decide) rfl (fun ls hl => ?_)
  refine lv_goto (tgt := 31) hx hb dX11_add_55 (by decide) ?_
  refine lv_iload hx hb dX11_add_31 (lv_at hl 0 rfl) ?_
  refine lv_iload_n hx hb dX11_add_33 rfl (lv_at hl 3 rfl) ?_
  refine lv_icmp_ge (tgt := 58) hx hb dX11_add_34 (by decide) (fun c9 => absurd c9 (by decide)) (fun _ => ?_)
  refine lv_aload_n hx hb dX11_add_37 rfl (lv_at hl 1 rfl) ?_
  refine va_get (D := D) (ci := 15) (v := .ref bb) (C := RX11) (T := TX11) (N := 15) hx hb hts (by decide +kernel) hown hK hP 0 rfl rfl 0 (by decide) (hts (.fieldLink RX11 14 "SignetRing" "bytes" "LSignetRing$Bytes;") (by decide +kernel)) (fun _ h9 => h9) rfl dX11_add_38 ?_
  refine lv_lload_n hx hb dX11_add_41 rfl (lv_at hl 2 rfl) ?_
  refine lv_bipush (v := 8) hx hb dX11_add_42 (by decide) ?_
  refine lv_iload hx hb dX11_add_44 (lv_at hl 0 rfl) ?_
  refine lv_imul hx hb dX11_add_46 ?_
  refine lv_topi (fun v10 ev10 => ?_)
  have ev10 : v10 = 16 := ev10.trans (by decide +kernel)
  subst ev10
  refine lv_lushr hx hb dX11_add_47 rfl ?_
  refine lv_topl (fun v11 _ => ?_)
  refine lv_l2i hx hb dX11_add_48 rfl ?_
  refine lv_topi (fun v12 _ => ?_)
  have hPc := hP.sub (ws' := [(bb, .inr (4, [.ref rr, w15, .int (nI 2)])), (rr, .inl (y 0, 4096, .inl f9))]) [1, 2] rfl
  have hDc := hD.sub (ws' := [(bb, .inr (4, [.ref rr, w15, .int (nI 2)])), (rr, .inl (y 0, 4096, .inl f9))]) [1, 2] (by decide) rfl
  have hFc := va_free (wc := [(bb, .inr (4, [.ref rr, w15, .int (nI 2)])), (rr, .inl (y 0, 4096, .inl f9))]) hD hS hA [1, 2] rfl
  refine va_callv (va_runV (As := [.int v12]) (rest := []) ⟨hx, hb, hml, hown, hts⟩ (c_X0_push l D y H.size bb rr 4096 2 w15 f9 v12 (by decide) (by decide)) (cwV 1 hts gv_c_X11_add_4_c_X0_push_90 rfl rfl rfl (by decide +kernel) ⟨(Nat.le_of_ble_eq_true rfl), (Nat.le_of_ble_eq_true rfl)⟩) (zB.preV hPc hDc hK hN hE hO hT hG hS hFc (fun _ h => nomatch h) (fun _ h => nomatch h) (fun _ h => nomatch h) (fun _ h => nomatch h) (va_recv hK hPc (ci := 4) (q0 := 0) rfl rfl)) rfl rfl hl.1 rfl (lv_room (Nat.le_of_ble_eq_true rfl)) dX11_add_49 ⟨(Nat.le_of_ble_eq_true rfl), (Nat.le_of_ble_eq_true rfl)⟩) hS (fun q _ h => hFc q h) hFc (fun u t H1 locs ht hvm hw hB hz1 hk1 hS => ?_)
  obtain ⟨f13, hP1, hD1⟩ := hB
  rw [ht] at hP1
  obtain ⟨hP, hD⟩ := va_join (wr := [(h0, .inr (15, [.ref bb, w1, w2, w3, w4, w5, w6, w7, w8, w9, w10, w11, w12, w13, w14]))]) (w1 := [(bb, .inr (4, [.ref rr, w15, .int (nI 3)])), (rr, .inl (y 0, 4096, .inl f13))]) hP hD [1, 2] [0] rfl rfl (by decide) (by decide) hk1 hFc hP1 hD1
  generalize H1 = H at hP hS ⊢
  have hP : va_P D vwCl [(h0, .inr (15, [.ref bb, w1, w2, w3, w4, w5, w6, w7, w8, w9, w10, w11, w12, w13, w14])), (bb, .inr (4, [.ref rr, w15, .int (nI 3)])), (rr, .inl (y 0, 4096, .inl f13))] H := hP
  have hD : va_D A [(h0, .inr (15, [.ref bb, w1, w2, w3, w4, w5, w6, w7, w8, w9, w10, w11, w12, w13, w14])), (bb, .inr (4, [.ref rr, w15, .int (nI 3)])), (rr, .inl (y 0, 4096, .inl f13))] := hD
  refine lv_iinc (v := 3) (lv' := [(4, .int 3), (0, .ref h0), (1, .long wd), (3, .int 4)]) hx hb dX11_add_52 hl (k := 0) rfl (by decide) (by decide) rfl (fun ls hl => ?_)
  refine lv_goto (tgt := 31) hx hb dX11_add_55 (by decide) ?_
  refine lv_iload hx hb dX11_add_31 (lv_at hl 0 rfl) ?_
  refine lv_iload_n hx hb dX11_add_33 rfl (lv_at hl 3 rfl) ?_
  refine lv_icmp_ge (tgt := 58) hx hb dX11_add_34 (by decide) (fun c9 => absurd c9 (by decide)) (fun _ => ?_)
  refine lv_aload_n hx hb dX11_add_37 rfl (lv_at hl 1 rfl) ?_
  refine va_get (D := D) (ci := 15) (v := .ref bb) (C := RX11) (T := TX11) (N := 15) hx hb hts (by decide +kernel) hown hK hP 0 rfl rfl 0 (by decide) (hts (.fieldLink RX11 14 "SignetRing" "bytes" "LSignetRing$Bytes;") (by decide +kernel)) (fun _ h9 => h9) rfl dX11_add_38 ?_
  refine lv_lload_n hx hb dX11_add_41 rfl (lv_at hl 2 rfl) ?_
  refine lv_bipush (v := 8) hx hb dX11_add_42 (by decide) ?_
  refine lv_iload hx hb dX11_add_44 (lv_at hl 0 rfl) ?_
  refine lv_imul hx hb dX11_add_46 ?_
  refine lv_topi (fun v14 ev14 => ?_)
  have ev14 : v14 = 24 := ev14.trans (by decide +kernel)
  subst ev14
  refine lv_lushr hx hb dX11_add_47 rfl ?_
  refine lv_topl (fun v15 _ => ?_)
  refine lv_l2i hx hb dX11_add_48 rfl ?_
  refine lv_topi (fun v16 _ => ?_)
  have hPc := hP.sub (ws' := [(bb, .inr (4, [.ref rr, w15, .int (nI 3)])), (rr, .inl (y 0, 4096, .inl f13))]) [1, 2] rfl
  have hDc := hD.sub (ws' := [(bb, .inr (4, [.ref rr, w15, .int (nI 3)])), (rr, .inl (y 0, 4096, .inl f13))]) [1, 2] (by decide) rfl
  have hFc := va_free (wc := [(bb, .inr (4, [.ref rr, w15, .int (nI 3)])), (rr, .inl (y 0, 4096, .inl f13))]) hD hS hA [1, 2] rfl
  refine va_callv (va_runV (As := [.int v16]) (rest := []) ⟨hx, hb, hml, hown, hts⟩ (c_X0_push l D y H.size bb rr 4096 3 w15 f13 v16 (by decide) (by decide)) (cwV 1 hts gv_c_X11_add_4_c_X0_push_90 rfl rfl rfl (by decide +kernel) ⟨(Nat.le_of_ble_eq_true rfl), (Nat.le_of_ble_eq_true rfl)⟩) (zB.preV hPc hDc hK hN hE hO hT hG hS hFc (fun _ h => nomatch h) (fun _ h => nomatch h) (fun _ h => nomatch h) (fun _ h => nomatch h) (va_recv hK hPc (ci := 4) (q0 := 0) rfl rfl)) rfl rfl hl.1 rfl (lv_room (Nat.le_of_ble_eq_true rfl)) dX11_add_49 ⟨(Nat.le_of_ble_eq_true rfl), (Nat.le_of_ble_eq_true rfl)⟩) hS (fun q _ h => hFc q h) hFc (fun u t H1 locs ht hvm hw hB hz1 hk1 hS => ?_)
  obtain ⟨f17, hP1, hD1⟩ := hB
  rw [ht] at hP1
  obtain ⟨hP, hD⟩ := va_join (wr := [(h0, .inr (15, [.ref bb, w1, w2, w3, w4, w5, w6, w7, w8, w9, w10, w11, w12, w13, w14]))]) (w1 := [(bb, .inr (4, [.ref rr, w15, .int (nI 4)])), (rr, .inl (y 0, 4096, .inl f17))]) hP hD [1, 2] [0] rfl rfl (by decide) (by decide) hk1 hFc hP1 hD1
  generalize H1 = H at hP hS ⊢
  have hP : va_P D vwCl [(h0, .inr (15, [.ref bb, w1, w2, w3, w4, w5, w6, w7, w8, w9, w10, w11, w12, w13, w14])), (bb, .inr (4, [.ref rr, w15, .int (nI 4)])), (rr, .inl (y 0, 4096, .inl f17))] H := hP
  have hD : va_D A [(h0, .inr (15, [.ref bb, w1, w2, w3, w4, w5, w6, w7, w8, w9, w10, w11, w12, w13, w14])), (bb, .inr (4, [.ref rr, w15, .int (nI 4)])), (rr, .inl (y 0, 4096, .inl f17))] := hD
  refine lv_iinc (v := 4) (lv' := [(4, .int 4), (0, .ref h0), (1, .long wd), (3, .int 4)]) hx hb dX11_add_52 hl (k := 0) rfl (by decide) (by decide) rfl (fun ls hl => ?_)
  refine lv_goto (tgt := 31) hx hb dX11_add_55 (by decide) ?_
  refine lv_iload hx hb dX11_add_31 (lv_at hl 0 rfl) ?_
  refine lv_iload_n hx hb dX11_add_33 rfl (lv_at hl 3 rfl) ?_
  refine lv_icmp_ge (tgt := 58) hx hb dX11_add_34 (by decide) (fun _ => ?_) (fun c9 => absurd (by decide) c9)
  refine lv_iconst (v := 1) hx hb dX11_add_58 (by decide) ?_
  have hP9 := hP.sub (ws' := [(h0, .inr (15, [.ref bb, w1, w2, w3, w4, w5, w6, w7, w8, w9, w10, w11, w12, w13, w14])), (bb, .inr (4, [.ref rr, w15, .int (nI 4)])), (rr, .inl (y 0, 4096, .inl f17))]) [0, 1, 2] rfl
  have hD9 := hD.sub (ws' := [(h0, .inr (15, [.ref bb, w1, w2, w3, w4, w5, w6, w7, w8, w9, w10, w11, w12, w13, w14])), (bb, .inr (4, [.ref rr, w15, .int (nI 4)])), (rr, .inl (y 0, 4096, .inl f17))]) [0, 1, 2] (by decide) rfl
  refine W.widen (k := 0) (n := 0) (Nat.le_of_ble_eq_true rfl) (Nat.le_of_ble_eq_true rfl) ?_
  exact W.zret (v := 1) hx hb hr (by decide) (fun t ht hW => ⟨⟨1, (), rfl, rfl, f17, by rw [ht]; exact hP9, hD9⟩, hS.F ht⟩) hS.2.2 dX11_add_59
def wz_c_X11_add_5 : List Cond := .code yX11_add cX11_add 5 (some .boolean) :: ([.fieldLink RX11 14 "SignetRing" "bytes" "LSignetRing$Bytes;", .fieldLink RX11 86 "SignetRing$Bytes" "size" "I", .sameField "SignetRing$Bytes" "SignetRing$Span" "size" "I", .methodLink RX11 90 yX0_push, .instanceMethod yX0_push, .selects RX0 yX0_push yX0_push, .initialized RX0] ++ (wsX110 ++ (wsX00 ++ (wz_c_X0_push ++ ([])))))
set_option maxRecDepth 100000 in
theorem gz_c_X11_add_5_c_X0_push : GoodIn wz_c_X11_add_5 wz_c_X0_push := goodIn_sub (fun w h => List.mem_cons_of_mem _ (List.mem_append_right _ (List.mem_append_right _ (List.mem_append_right _ (List.mem_append_left _ h))))) (by decide +kernel)
set_option maxRecDepth 100000 in
theorem gv_c_X11_add_5_c_X0_push_90 : GoodIn wz_c_X11_add_5 (wsV RX11 90 RX0 yX0_push wz_c_X0_push) := goodIn_app (goodIn_of _ (by decide +kernel)) gz_c_X11_add_5_c_X0_push
set_option maxHeartbeats 4000000 in
set_option maxRecDepth 100000 in
theorem c_X11_add_5 (l : Launch) (D : va_G) (y : Nat → ClassId) (sz : Nat) (h0 : Nat) (bb : Nat) (rr : Nat) (w1 : Value) (w2 : Value) (w3 : Value) (w4 : Value) (w5 : Value) (w6 : Value) (w7 : Value) (w8 : Value) (w9 : Value) (w10 : Value) (w11 : Value) (w12 : Value) (w13 : Value) (w14 : Value) (w15 : Value) (f : Nat → Int32) (wd : Int64) : Met l yX11_add wz_c_X11_add_5 ({ frames := 1, cells := 0, slots := 0, locals := 21 }) (va_Pc [.ref h0, .long wd, .int 5] (zB D y [(h0, .inr (15, [.ref bb, w1, w2, w3, w4, w5, w6, w7, w8, w9, w10, w11, w12, w13, w14])), (bb, .inr (4, [.ref rr, w15, .int (nI 0)])), (rr, .inl (y 0, 4096, .inl f))] sz [] [] [] [])) (va_Qi (fun (r : Int32) (_ : Unit) => r = 1) (fun _ t => ∃ fz0 : Nat → Int32, va_P D vwCl [(h0, .inr (15, [.ref bb, w1, w2, w3, w4, w5, w6, w7, w8, w9, w10, w11, w12, w13, w14])), (bb, .inr (4, [.ref rr, w15, .int (nI 5)])), (rr, .inl (y 0, 4096, .inl fz0))] t.heap ∧ va_D (va_A [(h0, .inr (15, [.ref bb, w1, w2, w3, w4, w5, w6, w7, w8, w9, w10, w11, w12, w13, w14])), (bb, .inr (4, [.ref rr, w15, .int (nI 0)])), (rr, .inl (y 0, 4096, .inl f))] sz) [(h0, .inr (15, [.ref bb, w1, w2, w3, w4, w5, w6, w7, w8, w9, w10, w11, w12, w13, w14])), (bb, .inr (4, [.ref rr, w15, .int (nI 5)])), (rr, .inl (y 0, 4096, .inl fz0))]) (va_A [(h0, .inr (15, [.ref bb, w1, w2, w3, w4, w5, w6, w7, w8, w9, w10, w11, w12, w13, w14])), (bb, .inr (4, [.ref rr, w15, .int (nI 0)])), (rr, .inl (y 0, 4096, .inl f))] sz)) 0 0 (va_A [(h0, .inr (15, [.ref bb, w1, w2, w3, w4, w5, w6, w7, w8, w9, w10, w11, w12, w13, w14])), (bb, .inr (4, [.ref rr, w15, .int (nI 0)])), (rr, .inl (y 0, 4096, .inl f))] sz) := by
  refine Met.ofW (cc := cX11_add) (maxL := 5) (ret := (some .boolean)) (by decide) rfl ?_
  intro p e s m args below meth c s₁ B hml hv
  obtain ⟨rfl, hsz, hP, hK, hD0, hN, hE, hO, hT, hG⟩ := hv
  have hx := B.exec
  have hb := B.bytes
  have hr := B.returns
  have hts := atoms_spec (ws := wz_c_X11_add_5) B.pre
  have hown : s.vm.findClass RX11 = some m.cls := findClass_of_methodNamed B.named
  have hlocks := B.notSynchronized
  subst hsz
  have hD := hD0.self (sz := s.heap.size)
  generalize hAe : va_A [(h0, .inr (15, [.ref bb, w1, w2, w3, w4, w5, w6, w7, w8, w9, w10, w11, w12, w13, w14])), (bb, .inr (4, [.ref rr, w15, .int (nI 0)])), (rr, .inl (y 0, 4096, .inl f))] s.heap.size = A at hD hE hT hG ⊢
  have hA : ∀ q : Nat, s.heap.size ≤ q → A q := fun q h => by rw [← hAe]; exact Or.inr h
  have hS : va_S A s.heap s.heap [] := va_S.rf
  have hl := lv_entry ([.ref h0, .long wd, .int 5]) (n := 5) (Nat.le_of_ble_eq_true rfl)
  rw [lg_entry_eq]
  generalize (lg_sl ([.ref h0, .long wd, .int 5]) ++ List.replicate (5 - (lg_sl ([.ref h0, .long wd, .int 5])).length) Slot.unset).toArray = ls at hl ⊢
  have hl : lv_has ls 5 [(0, .ref h0), (1, .long wd), (3, .int 5)] := hl
  refine lv_iload_n hx hb dX11_add_0 rfl (lv_at hl 2 rfl) ?_
  refine lv_iconst (v := 1) hx hb dX11_add_1 (by decide) ?_
  refine lv_icmp_lt (tgt := 26) hx hb dX11_add_2 (by decide) (fun c9 => absurd c9 (by decide)) (fun _ => ?_)
  refine lv_iload_n hx hb dX11_add_5 rfl (lv_at hl 2 rfl) ?_
  refine lv_bipush (v := 8) hx hb dX11_add_6 (by decide) ?_
  refine lv_icmp_gt (tgt := 26) hx hb dX11_add_8 (by decide) (fun c9 => absurd c9 (by decide)) (fun _ => ?_)
  refine lv_aload_n hx hb dX11_add_11 rfl (lv_at hl 0 rfl) ?_
  refine va_get (D := D) (ci := 15) (v := .ref bb) (C := RX11) (T := TX11) (N := 15) hx hb hts (by decide +kernel) hown hK hP 0 rfl rfl 0 (by decide) (hts (.fieldLink RX11 14 "SignetRing" "bytes" "LSignetRing$Bytes;") (by decide +kernel)) (fun _ h9 => h9) rfl dX11_add_12 ?_
  refine va_get (D := D) (ci := 4) (v := .int (nI 0)) (C := RX0) (T := TX0) (N := 3) hx hb hts (by decide +kernel) hown hK hP 1 rfl rfl 2 (by decide) (hts (.fieldLink RX11 86 "SignetRing$Bytes" "size" "I") (by decide +kernel)) (u_same (hts (.sameField "SignetRing$Bytes" "SignetRing$Span" "size" "I") (by decide +kernel))) rfl dX11_add_15 ?_
  refine lv_iload_n hx hb dX11_add_18 rfl (lv_at hl 2 rfl) ?_
  refine lv_iadd hx hb dX11_add_19 ?_
  refine lv_topi (fun v1 ev1 => ?_)
  have ev1 : v1 = 5 := ev1.trans (by decide +kernel)
  subst ev1
  refine lv_sipush (v := 4096) hx hb dX11_add_20 (by decide) ?_
  refine lv_icmp_le (tgt := 28) hx hb dX11_add_23 (by decide) (fun _ => ?_) (fun c9 => absurd (by decide) c9)
  refine lv_iconst (v := 0) hx hb dX11_add_28 (by decide) ?_
  refine lv_istore (lv' := [(4, .int 0), (0, .ref h0), (1, .long wd), (3, .int 5)]) hx hb dX11_add_29 hl (by decide) rfl (fun ls hl => ?_)
  refine lv_iload hx hb dX11_add_31 (lv_at hl 0 rfl) ?_
  refine lv_iload_n hx hb dX11_add_33 rfl (lv_at hl 3 rfl) ?_
  refine lv_icmp_ge (tgt := 58) hx hb dX11_add_34 (by decide) (fun c9 => absurd c9 (by decide)) (fun _ => ?_)
  refine lv_aload_n hx hb dX11_add_37 rfl (lv_at hl 1 rfl) ?_
  refine va_get (D := D) (ci := 15) (v := .ref bb) (C := RX11) (T := TX11) (N := 15) hx hb hts (by decide +kernel) hown hK hP 0 rfl rfl 0 (by decide) (hts (.fieldLink RX11 14 "SignetRing" "bytes" "LSignetRing$Bytes;") (by decide +kernel)) (fun _ h9 => h9) rfl dX11_add_38 ?_
  refine lv_lload_n hx hb dX11_add_41 rfl (lv_at hl 2 rfl) ?_
  refine lv_bipush (v := 8) hx hb dX11_add_42 (by decide) ?_
  refine lv_iload hx hb dX11_add_44 (lv_at hl 0 rfl) ?_
  refine lv_imul hx hb dX11_add_46 ?_
  refine lv_topi (fun v2 ev2 => ?_)
  have ev2 : v2 = 0 := ev2.trans (by decide +kernel)
  subst ev2
  refine lv_lushr hx hb dX11_add_47 rfl ?_
  refine lv_topl (fun v3 _ => ?_)
  refine lv_l2i hx hb dX11_add_48 rfl ?_
  refine lv_topi (fun v4 _ => ?_)
  have hPc := hP.sub (ws' := [(bb, .inr (4, [.ref rr, w15, .int (nI 0)])), (rr, .inl (y 0, 4096, .inl f))]) [1, 2] rfl
  have hDc := hD.sub (ws' := [(bb, .inr (4, [.ref rr, w15, .int (nI 0)])), (rr, .inl (y 0, 4096, .inl f))]) [1, 2] (by decide) rfl
  have hFc := va_free (wc := [(bb, .inr (4, [.ref rr, w15, .int (nI 0)])), (rr, .inl (y 0, 4096, .inl f))]) hD hS hA [1, 2] rfl
  refine va_callv (va_runV (As := [.int v4]) (rest := []) ⟨hx, hb, hml, hown, hts⟩ (c_X0_push l D y s.heap.size bb rr 4096 0 w15 f v4 (by decide) (by decide)) (cwV 1 hts gv_c_X11_add_5_c_X0_push_90 rfl rfl rfl (by decide +kernel) ⟨(Nat.le_of_ble_eq_true rfl), (Nat.le_of_ble_eq_true rfl)⟩) (zB.preV hPc hDc hK hN hE hO hT hG hS hFc (fun _ h => nomatch h) (fun _ h => nomatch h) (fun _ h => nomatch h) (fun _ h => nomatch h) (va_recv hK hPc (ci := 4) (q0 := 0) rfl rfl)) rfl rfl hl.1 rfl (lv_room (Nat.le_of_ble_eq_true rfl)) dX11_add_49 ⟨(Nat.le_of_ble_eq_true rfl), (Nat.le_of_ble_eq_true rfl)⟩) hS (fun q _ h => hFc q h) hFc (fun u t H1 locs ht hvm hw hB hz1 hk1 hS => ?_)
  obtain ⟨f5, hP1, hD1⟩ := hB
  rw [ht] at hP1
  obtain ⟨hP, hD⟩ := va_join (wr := [(h0, .inr (15, [.ref bb, w1, w2, w3, w4, w5, w6, w7, w8, w9, w10, w11, w12, w13, w14]))]) (w1 := [(bb, .inr (4, [.ref rr, w15, .int (nI 1)])), (rr, .inl (y 0, 4096, .inl f5))]) hP hD [1, 2] [0] rfl rfl (by decide) (by decide) hk1 hFc hP1 hD1
  generalize H1 = H at hP hS ⊢
  have hP : va_P D vwCl [(h0, .inr (15, [.ref bb, w1, w2, w3, w4, w5, w6, w7, w8, w9, w10, w11, w12, w13, w14])), (bb, .inr (4, [.ref rr, w15, .int (nI 1)])), (rr, .inl (y 0, 4096, .inl f5))] H := hP
  have hD : va_D A [(h0, .inr (15, [.ref bb, w1, w2, w3, w4, w5, w6, w7, w8, w9, w10, w11, w12, w13, w14])), (bb, .inr (4, [.ref rr, w15, .int (nI 1)])), (rr, .inl (y 0, 4096, .inl f5))] := hD
  refine lv_iinc (v := 1) (lv' := [(4, .int 1), (0, .ref h0), (1, .long wd), (3, .int 5)]) hx hb dX11_add_52 hl (k := 0) rfl (by decide) (by decide) rfl (fun ls hl => ?_)
  refine lv_goto (tgt := 31) hx hb dX11_add_55 (by decide) ?_
  refine lv_iload hx hb dX11_add_31 (lv_at hl 0 rfl) ?_
  refine lv_iload_n hx hb dX11_add_33 rfl (lv_at hl 3 rfl) ?_
  refine lv_icmp_ge (tgt := 58) hx hb dX11_add_34 (by decide) (fun c9 => absurd c9 (by decide)) (fun _ => ?_)
  refine lv_aload_n hx hb dX11_add_37 rfl (lv_at hl 1 rfl) ?_
  refine va_get (D := D) (ci := 15) (v := .ref bb) (C := RX11) (T := TX11) (N := 15) hx hb hts (by decide +kernel) hown hK hP 0 rfl rfl 0 (by decide) (hts (.fieldLink RX11 14 "SignetRing" "bytes" "LSignetRing$Bytes;") (by decide +kernel)) (fun _ h9 => h9) rfl dX11_add_38 ?_
  refine lv_lload_n hx hb dX11_add_41 rfl (lv_at hl 2 rfl) ?_
  refine lv_bipush (v := 8) hx hb dX11_add_42 (by decide) ?_
  refine lv_iload hx hb dX11_add_44 (lv_at hl 0 rfl) ?_
  refine lv_imul hx hb dX11_add_46 ?_
  refine lv_topi (fun v6 ev6 => ?_)
  have ev6 : v6 = 8 := ev6.trans (by decide +kernel)
  subst ev6
  refine lv_lushr hx hb dX11_add_47 rfl ?_
  refine lv_topl (fun v7 _ => ?_)
  refine lv_l2i hx hb dX11_add_48 rfl ?_
  refine lv_topi (fun v8 _ => ?_)
  have hPc := hP.sub (ws' := [(bb, .inr (4, [.ref rr, w15, .int (nI 1)])), (rr, .inl (y 0, 4096, .inl f5))]) [1, 2] rfl
  have hDc := hD.sub (ws' := [(bb, .inr (4, [.ref rr, w15, .int (nI 1)])), (rr, .inl (y 0, 4096, .inl f5))]) [1, 2] (by decide) rfl
  have hFc := va_free (wc := [(bb, .inr (4, [.ref rr, w15, .int (nI 1)])), (rr, .inl (y 0, 4096, .inl f5))]) hD hS hA [1, 2] rfl
  refine va_callv (va_runV (As := [.int v8]) (rest := []) ⟨hx, hb, hml, hown, hts⟩ (c_X0_push l D y H.size bb rr 4096 1 w15 f5 v8 (by decide) (by decide)) (cwV 1 hts gv_c_X11_add_5_c_X0_push_90 rfl rfl rfl (by decide +kernel) ⟨(Nat.le_of_ble_eq_true rfl), (Nat.le_of_ble_eq_true rfl)⟩) (zB.preV hPc hDc hK hN hE hO hT hG hS hFc (fun _ h => nomatch h) (fun _ h => nomatch h) (fun _ h => nomatch h) (fun _ h => nomatch h) (va_recv hK hPc (ci := 4) (q0 := 0) rfl rfl)) rfl rfl hl.1 rfl (lv_room (Nat.le_of_ble_eq_true rfl)) dX11_add_49 ⟨(Nat.le_of_ble_eq_true rfl), (Nat.le_of_ble_eq_true rfl)⟩) hS (fun q _ h => hFc q h) hFc (fun u t H1 locs ht hvm hw hB hz1 hk1 hS => ?_)
  obtain ⟨f9, hP1, hD1⟩ := hB
  rw [ht] at hP1
  obtain ⟨hP, hD⟩ := va_join (wr := [(h0, .inr (15, [.ref bb, w1, w2, w3, w4, w5, w6, w7, w8, w9, w10, w11, w12, w13, w14]))]) (w1 := [(bb, .inr (4, [.ref rr, w15, .int (nI 2)])), (rr, .inl (y 0, 4096, .inl f9))]) hP hD [1, 2] [0] rfl rfl (by decide) (by decide) hk1 hFc hP1 hD1
  generalize H1 = H at hP hS ⊢
  have hP : va_P D vwCl [(h0, .inr (15, [.ref bb, w1, w2, w3, w4, w5, w6, w7, w8, w9, w10, w11, w12, w13, w14])), (bb, .inr (4, [.ref rr, w15, .int (nI 2)])), (rr, .inl (y 0, 4096, .inl f9))] H := hP
  have hD : va_D A [(h0, .inr (15, [.ref bb, w1, w2, w3, w4, w5, w6, w7, w8, w9, w10, w11, w12, w13, w14])), (bb, .inr (4, [.ref rr, w15, .int (nI 2)])), (rr, .inl (y 0, 4096, .inl f9))] := hD
  refine lv_iinc (v := 2) (lv' := [(4, .int 2), (0, .ref h0), (1, .long wd), (3, .int 5)]) hx hb dX11_add_52 hl (k := 0) rfl (by decide) (by decide) rfl (fun ls hl => ?_)
  refine lv_goto (tgt := 31) hx hb dX11_add_55 (by decide) ?_
  refine lv_iload hx hb dX11_add_31 (lv_at hl 0 rfl) ?_
  refine lv_iload_n hx hb dX11_add_33 rfl (lv_at hl 3 rfl) ?_
  refine lv_icmp_ge (tgt := 58) hx hb dX11_add_34 (by decide) (fun c9 => absurd c9 (by decide)) (fun _ => ?_)
  refine lv_aload_n hx hb dX11_add_37 rfl (lv_at hl 1 rfl) ?_
  refine va_get (D := D) (ci := 15) (v := .ref bb) (C := RX11) (T := TX11) (N := 15) hx hb hts (by decide +kernel) hown hK hP 0 rfl rfl 0 (by decide) (hts (.fieldLink RX11 14 "SignetRing" "bytes" "LSignetRing$Bytes;") (by decide +kernel)) (fun _ h9 => h9) rfl dX11_add_38 ?_
  refine lv_lload_n hx hb dX11_add_41 rfl (lv_at hl 2 rfl) ?_
  refine lv_bipush (v := 8) hx hb dX11_add_42 (by decide) ?_
  refine lv_iload hx hb dX11_add_44 (lv_at hl 0 rfl) ?_
  refine lv_imul hx hb dX11_add_46 ?_
  refine lv_topi (fun v10 ev10 => ?_)
  have ev10 : v10 = 16 := ev10.trans (by decide +kernel)
  subst ev10
  refine lv_lushr hx hb dX11_add_47 rfl ?_
  refine lv_topl (fun v11 _ => ?_)
  refine lv_l2i hx hb dX11_add_48 rfl ?_
  refine lv_topi (fun v12 _ => ?_)
  have hPc := hP.sub (ws' := [(bb, .inr (4, [.ref rr, w15, .int (nI 2)])), (rr, .inl (y 0, 4096, .inl f9))]) [1, 2] rfl
  have hDc := hD.sub (ws' := [(bb, .inr (4, [.ref rr, w15, .int (nI 2)])), (rr, .inl (y 0, 4096, .inl f9))]) [1, 2] (by decide) rfl
  have hFc := va_free (wc := [(bb, .inr (4, [.ref rr, w15, .int (nI 2)])), (rr, .inl (y 0, 4096, .inl f9))]) hD hS hA [1, 2] rfl
  refine va_callv (va_runV (As := [.int v12]) (rest := []) ⟨hx, hb, hml, hown, hts⟩ (c_X0_push l D y H.size bb rr 4096 2 w15 f9 v12 (by decide) (by decide)) (cwV 1 hts gv_c_X11_add_5_c_X0_push_90 rfl rfl rfl (by decide +kernel) ⟨(Nat.le_of_ble_eq_true rfl), (Nat.le_of_ble_eq_true rfl)⟩) (zB.preV hPc hDc hK hN hE hO hT hG hS hFc (fun _ h => nomatch h) (fun _ h => nomatch h) (fun _ h => nomatch h) (fun _ h => nomatch h) (va_recv hK hPc (ci := 4) (q0 := 0) rfl rfl)) rfl rfl hl.1 rfl (lv_room (Nat.le_of_ble_eq_true rfl)) dX11_add_49 ⟨(Nat.le_of_ble_eq_true rfl), (Nat.le_of_ble_eq_true rfl)⟩) hS (fun q _ h => hFc q h) hFc (fun u t H1 locs ht hvm hw hB hz1 hk1 hS => ?_)
  obtain ⟨f13, hP1, hD1⟩ := hB
  rw [ht] at hP1
  obtain ⟨hP, hD⟩ := va_join (wr := [(h0, .inr (15, [.ref bb, w1, w2, w3, w4, w5, w6, w7, w8, w9, w10, w11, w12, w13, w14]))]) (w1 := [(bb, .inr (4, [.ref rr, w15, .int (nI 3)])), (rr, .inl (y 0, 4096, .inl f13))]) hP hD [1, 2] [0] rfl rfl (by decide) (by decide) hk1 hFc hP1 hD1
  generalize H1 = H at hP hS ⊢
  have hP : va_P D vwCl [(h0, .inr (15, [.ref bb, w1, w2, w3, w4, w5, w6, w7, w8, w9, w10, w11, w12, w13, w14])), (bb, .inr (4, [.ref rr, w15, .int (nI 3)])), (rr, .inl (y 0, 4096, .inl f13))] H := hP
  have hD : va_D A [(h0, .inr (15, [.ref bb, w1, w2, w3, w4, w5, w6, w7, w8, w9, w10, w11, w12, w13, w14])), (bb, .inr (4, [.ref rr, w15, .int (nI 3)])), (rr, .inl (y 0, 4096, .inl f13))] := hD
  refine lv_iinc (v := 3) (lv' := [(4, .int 3), (0, .ref h0), (1, .long wd), (3, .int 5)]) hx hb dX11_add_52 hl (k := 0) rfl (by decide) (by decide) rfl (fun ls hl => ?_)
  refine lv_goto (tgt := 31) hx hb dX11_add_55 (by decide) ?_
  refine lv_iload hx hb dX11_add_31 (lv_at hl 0 rfl) ?_
  refine lv_iload_n hx hb dX11_add_33 rfl (lv_at hl 3 rfl) ?_
  refine lv_icmp_ge (tgt := 58) hx hb dX11_add_34 (by decide) (fun c9 => absurd c9 (by decide)) (fun _ => ?_)
  refine lv_aload_n hx hb dX11_add_37 rfl (lv_at hl 1 rfl) ?_
  refine va_get (D := D) (ci := 15) (v := .ref bb) (C := RX11) (T := TX11) (N := 15) hx hb hts (by decide +kernel) hown hK hP 0 rfl rfl 0 (by decide) (hts (.fieldLink RX11 14 "SignetRing" "bytes" "LSignetRing$Bytes;") (by decide +kernel)) (fun _ h9 => h9) rfl dX11_add_38 ?_
  refine lv_lload_n hx hb dX11_add_41 rfl (lv_at hl 2 rfl) ?_
  refine lv_bipush (v := 8) hx hb dX11_add_42 (by decide) ?_
  refine lv_iload hx hb dX11_add_44 (lv_at hl 0 rfl) ?_
  refine lv_imul hx hb dX11_add_46 ?_
  refine lv_topi (fun v14 ev14 => ?_)
  have ev14 : v14 = 24 := ev14.trans (by decide +kernel)
  subst ev14
  refine lv_lushr hx hb dX11_add_47 rfl ?_
  refine lv_topl (fun v15 _ => ?_)
  refine lv_l2i hx hb dX11_add_48 rfl ?_
  refine lv_topi (fun v16 _ => ?_)
  have hPc := hP.sub (ws' := [(bb, .inr (4, [.ref rr, w15, .int (nI 3)])), (rr, .inl (y 0, 4096, .inl f13))]) [1, 2] rfl
  have hDc := hD.sub (ws' := [(bb, .inr (4, [.ref rr, w15, .int (nI 3)])), (rr, .inl (y 0, 4096, .inl f13))]) [1, 2] (by decide) rfl
  have hFc := va_free (wc := [(bb, .inr (4, [.ref rr, w15, .int (nI 3)])), (rr, .inl (y 0, 4096, .inl f13))]) hD hS hA [1, 2] rfl
  refine va_callv (va_runV (As := [.int v16]) (rest := []) ⟨hx, hb, hml, hown, hts⟩ (c_X0_push l D y H.size bb rr 4096 3 w15 f13 v16 (by decide) (by decide)) (cwV 1 hts gv_c_X11_add_5_c_X0_push_90 rfl rfl rfl (by decide +kernel) ⟨(Nat.le_of_ble_eq_true rfl), (Nat.le_of_ble_eq_true rfl)⟩) (zB.preV hPc hDc hK hN hE hO hT hG hS hFc (fun _ h => nomatch h) (fun _ h => nomatch h) (fun _ h => nomatch h) (fun _ h => nomatch h) (va_recv hK hPc (ci := 4) (q0 := 0) rfl rfl)) rfl rfl hl.1 rfl (lv_room (Nat.le_of_ble_eq_true rfl)) dX11_add_49 ⟨(Nat.le_of_ble_eq_true rfl), (Nat.le_of_ble_eq_true rfl)⟩) hS (fun q _ h => hFc q h) hFc (fun u t H1 locs ht hvm hw hB hz1 hk1 hS => ?_)
  obtain ⟨f17, hP1, hD1⟩ := hB
  rw [ht] at hP1
  obtain ⟨hP, hD⟩ := va_join (wr := [(h0, .inr (15, [.ref bb, w1, w2, w3, w4, w5, w6, w7, w8, w9, w10, w11, w12, w13, w14]))]) (w1 := [(bb, .inr (4, [.ref rr, w15, .int (nI 4)])), (rr, .inl (y 0, 4096, .inl f17))]) hP hD [1, 2] [0] rfl rfl (by decide) (by decide) hk1 hFc hP1 hD1
  generalize H1 = H at hP hS ⊢
  have hP : va_P D vwCl [(h0, .inr (15, [.ref bb, w1, w2, w3, w4, w5, w6, w7, w8, w9, w10, w11, w12, w13, w14])), (bb, .inr (4, [.ref rr, w15, .int (nI 4)])), (rr, .inl (y 0, 4096, .inl f17))] H := hP
  have hD : va_D A [(h0, .inr (15, [.ref bb, w1, w2, w3, w4, w5, w6, w7, w8, w9, w10, w11, w12, w13, w14])), (bb, .inr (4, [.ref rr, w15, .int (nI 4)])), (rr, .inl (y 0, 4096, .inl f17))] := hD
  refine lv_iinc (v := 4) (lv' := [(4, .int 4), (0, .ref h0), (1, .long wd), (3, .int 5)]) hx hb dX11_add_52 hl (k := 0) rfl (by decide) (by decide) rfl (fun ls hl => ?_)
  refine lv_goto (tgt := 31) hx hb dX11_add_55 (by decide) ?_
  refine lv_iload hx hb dX11_add_31 (lv_at hl 0 rfl) ?_
  refine lv_iload_n hx hb dX11_add_33 rfl (lv_at hl 3 rfl) ?_
  refine lv_icmp_ge (tgt := 58) hx hb dX11_add_34 (by decide) (fun c9 => absurd c9 (by decide)) (fun _ => ?_)
  refine lv_aload_n hx hb dX11_add_37 rfl (lv_at hl 1 rfl) ?_
  refine va_get (D := D) (ci := 15) (v := .ref bb) (C := RX11) (T := TX11) (N := 15) hx hb hts (by decide +kernel) hown hK hP 0 rfl rfl 0 (by decide) (hts (.fieldLink RX11 14 "SignetRing" "bytes" "LSignetRing$Bytes;") (by decide +kernel)) (fun _ h9 => h9) rfl dX11_add_38 ?_
  refine lv_lload_n hx hb dX11_add_41 rfl (lv_at hl 2 rfl) ?_
  refine lv_bipush (v := 8) hx hb dX11_add_42 (by decide) ?_
  refine lv_iload hx hb dX11_add_44 (lv_at hl 0 rfl) ?_
  refine lv_imul hx hb dX11_add_46 ?_
  refine lv_topi (fun v18 ev18 => ?_)
  have ev18 : v18 = 32 := ev18.trans (by decide +kernel)
  subst ev18
  refine lv_lushr hx hb dX11_add_47 rfl ?_
  refine lv_topl (fun v19 _ => ?_)
  refine lv_l2i hx hb dX11_add_48 rfl ?_
  refine lv_topi (fun v20 _ => ?_)
  have hPc := hP.sub (ws' := [(bb, .inr (4, [.ref rr, w15, .int (nI 4)])), (rr, .inl (y 0, 4096, .inl f17))]) [1, 2] rfl
  have hDc := hD.sub (ws' := [(bb, .inr (4, [.ref rr, w15, .int (nI 4)])), (rr, .inl (y 0, 4096, .inl f17))]) [1, 2] (by decide) rfl
  have hFc := va_free (wc := [(bb, .inr (4, [.ref rr, w15, .int (nI 4)])), (rr, .inl (y 0, 4096, .inl f17))]) hD hS hA [1, 2] rfl
  refine va_callv (va_runV (As := [.int v20]) (rest := []) ⟨hx, hb, hml, hown, hts⟩ (c_X0_push l D y H.size bb rr 4096 4 w15 f17 v20 (by decide) (by decide)) (cwV 1 hts gv_c_X11_add_5_c_X0_push_90 rfl rfl rfl (by decide +kernel) ⟨(Nat.le_of_ble_eq_true rfl), (Nat.le_of_ble_eq_true rfl)⟩) (zB.preV hPc hDc hK hN hE hO hT hG hS hFc (fun _ h => nomatch h) (fun _ h => nomatch h) (fun _ h => nomatch h) (fun _ h => nomatch h) (va_recv hK hPc (ci := 4) (q0 := 0) rfl rfl)) rfl rfl hl.1 rfl (lv_room (Nat.le_of_ble_eq_true rfl)) dX11_add_49 ⟨(Nat.le_of_ble_eq_true rfl), (Nat.le_of_ble_eq_true rfl)⟩) hS (fun q _ h => hFc q h) hFc (fun u t H1 locs ht hvm hw hB hz1 hk1 hS => ?_)
  obtain ⟨f21, hP1, hD1⟩ := hB
  rw [ht] at hP1
  obtain ⟨hP, hD⟩ := va_join (wr := [(h0, .inr (15, [.ref bb, w1, w2, w3, w4, w5, w6, w7, w8, w9, w10, w11, w12, w13, w14]))]) (w1 := [(bb, .inr (4, [.ref rr, w15, .int (nI 5)])), (rr, .inl (y 0, 4096, .inl f21))]) hP hD [1, 2] [0] rfl rfl (by decide) (by decide) hk1 hFc hP1 hD1
  generalize H1 = H at hP hS ⊢
  have hP : va_P D vwCl [(h0, .inr (15, [.ref bb, w1, w2, w3, w4, w5, w6, w7, w8, w9, w10, w11, w12, w13, w14])), (bb, .inr (4, [.ref rr, w15, .int (nI 5)])), (rr, .inl (y 0, 4096, .inl f21))] H := hP
  have hD : va_D A [(h0, .inr (15, [.ref bb, w1, w2, w3, w4, w5, w6, w7, w8, w9, w10, w11, w12, w13, w14])), (bb, .inr (4, [.ref rr, w15, .int (nI 5)])), (rr, .inl (y 0, 4096, .inl f21))] := hD
  refine lv_iinc (v := 5) (lv' := [(4, .int 5), (0, .ref h0), (1, .long wd), (3, .int 5)]) hx hb dX11_add_52 hl (k := 0) rfl (by decide) (by decide) rfl (fun ls hl => ?_)
  refine lv_goto (tgt := 31) hx hb dX11_add_55 (by decide) ?_
  refine lv_iload hx hb dX11_add_31 (lv_at hl 0 rfl) ?_
  refine lv_iload_n hx hb dX11_add_33 rfl (lv_at hl 3 rfl) ?_
  refine lv_icmp_ge (tgt := 58) hx hb dX11_add_34 (by decide) (fun _ => ?_) (fun c9 => absurd (by decide) c9)
  refine lv_iconst (v := 1) hx hb dX11_add_58 (by decide) ?_
  have hP9 := hP.sub (ws' := [(h0, .inr (15, [.ref bb, w1, w2, w3, w4, w5, w6, w7, w8, w9, w10, w11, w12, w13, w14])), (bb, .inr (4, [.ref rr, w15, .int (nI 5)])), (rr, .inl (y 0, 4096, .inl f21))]) [0, 1, 2] rfl
  have hD9 := hD.sub (ws' := [(h0, .inr (15, [.ref bb, w1, w2, w3, w4, w5, w6, w7, w8, w9, w10, w11, w12, w13, w14])), (bb, .inr (4, [.ref rr, w15, .int (nI 5)])), (rr, .inl (y 0, 4096, .inl f21))]) [0, 1, 2] (by decide) rfl
  refine W.widen (k := 0) (n := 0) (Nat.le_of_ble_eq_true rfl) (Nat.le_of_ble_eq_true rfl) ?_
  exact W.zret (v := 1) hx hb hr (by decide) (fun t ht hW => ⟨⟨1, (), rfl, rfl, f21, by rw [ht]; exact hP9, hD9⟩, hS.F ht⟩) hS.2.2 dX11_add_59
def wz_c_X11_add_6 : List Cond := .code yX11_add cX11_add 5 (some .boolean) :: ([.fieldLink RX11 14 "SignetRing" "bytes" "LSignetRing$Bytes;", .fieldLink RX11 86 "SignetRing$Bytes" "size" "I", .sameField "SignetRing$Bytes" "SignetRing$Span" "size" "I", .methodLink RX11 90 yX0_push, .instanceMethod yX0_push, .selects RX0 yX0_push yX0_push, .initialized RX0] ++ (wsX110 ++ (wsX00 ++ (wz_c_X0_push ++ ([])))))
set_option maxRecDepth 100000 in
theorem gz_c_X11_add_6_c_X0_push : GoodIn wz_c_X11_add_6 wz_c_X0_push := goodIn_sub (fun w h => List.mem_cons_of_mem _ (List.mem_append_right _ (List.mem_append_right _ (List.mem_append_right _ (List.mem_append_left _ h))))) (by decide +kernel)
set_option maxRecDepth 100000 in
theorem gv_c_X11_add_6_c_X0_push_90 : GoodIn wz_c_X11_add_6 (wsV RX11 90 RX0 yX0_push wz_c_X0_push) := goodIn_app (goodIn_of _ (by decide +kernel)) gz_c_X11_add_6_c_X0_push
set_option maxHeartbeats 4000000 in
set_option maxRecDepth 100000 in
theorem c_X11_add_6 (l : Launch) (D : va_G) (y : Nat → ClassId) (sz : Nat) (h0 : Nat) (bb : Nat) (rr : Nat) (w1 : Value) (w2 : Value) (w3 : Value) (w4 : Value) (w5 : Value) (w6 : Value) (w7 : Value) (w8 : Value) (w9 : Value) (w10 : Value) (w11 : Value) (w12 : Value) (w13 : Value) (w14 : Value) (w15 : Value) (f : Nat → Int32) (wd : Int64) : Met l yX11_add wz_c_X11_add_6 ({ frames := 1, cells := 0, slots := 0, locals := 21 }) (va_Pc [.ref h0, .long wd, .int 6] (zB D y [(h0, .inr (15, [.ref bb, w1, w2, w3, w4, w5, w6, w7, w8, w9, w10, w11, w12, w13, w14])), (bb, .inr (4, [.ref rr, w15, .int (nI 0)])), (rr, .inl (y 0, 4096, .inl f))] sz [] [] [] [])) (va_Qi (fun (r : Int32) (_ : Unit) => r = 1) (fun _ t => ∃ fz0 : Nat → Int32, va_P D vwCl [(h0, .inr (15, [.ref bb, w1, w2, w3, w4, w5, w6, w7, w8, w9, w10, w11, w12, w13, w14])), (bb, .inr (4, [.ref rr, w15, .int (nI 6)])), (rr, .inl (y 0, 4096, .inl fz0))] t.heap ∧ va_D (va_A [(h0, .inr (15, [.ref bb, w1, w2, w3, w4, w5, w6, w7, w8, w9, w10, w11, w12, w13, w14])), (bb, .inr (4, [.ref rr, w15, .int (nI 0)])), (rr, .inl (y 0, 4096, .inl f))] sz) [(h0, .inr (15, [.ref bb, w1, w2, w3, w4, w5, w6, w7, w8, w9, w10, w11, w12, w13, w14])), (bb, .inr (4, [.ref rr, w15, .int (nI 6)])), (rr, .inl (y 0, 4096, .inl fz0))]) (va_A [(h0, .inr (15, [.ref bb, w1, w2, w3, w4, w5, w6, w7, w8, w9, w10, w11, w12, w13, w14])), (bb, .inr (4, [.ref rr, w15, .int (nI 0)])), (rr, .inl (y 0, 4096, .inl f))] sz)) 0 0 (va_A [(h0, .inr (15, [.ref bb, w1, w2, w3, w4, w5, w6, w7, w8, w9, w10, w11, w12, w13, w14])), (bb, .inr (4, [.ref rr, w15, .int (nI 0)])), (rr, .inl (y 0, 4096, .inl f))] sz) := by
  refine Met.ofW (cc := cX11_add) (maxL := 5) (ret := (some .boolean)) (by decide) rfl ?_
  intro p e s m args below meth c s₁ B hml hv
  obtain ⟨rfl, hsz, hP, hK, hD0, hN, hE, hO, hT, hG⟩ := hv
  have hx := B.exec
  have hb := B.bytes
  have hr := B.returns
  have hts := atoms_spec (ws := wz_c_X11_add_6) B.pre
  have hown : s.vm.findClass RX11 = some m.cls := findClass_of_methodNamed B.named
  have hlocks := B.notSynchronized
  subst hsz
  have hD := hD0.self (sz := s.heap.size)
  generalize hAe : va_A [(h0, .inr (15, [.ref bb, w1, w2, w3, w4, w5, w6, w7, w8, w9, w10, w11, w12, w13, w14])), (bb, .inr (4, [.ref rr, w15, .int (nI 0)])), (rr, .inl (y 0, 4096, .inl f))] s.heap.size = A at hD hE hT hG ⊢
  have hA : ∀ q : Nat, s.heap.size ≤ q → A q := fun q h => by rw [← hAe]; exact Or.inr h
  have hS : va_S A s.heap s.heap [] := va_S.rf
  have hl := lv_entry ([.ref h0, .long wd, .int 6]) (n := 5) (Nat.le_of_ble_eq_true rfl)
  rw [lg_entry_eq]
  generalize (lg_sl ([.ref h0, .long wd, .int 6]) ++ List.replicate (5 - (lg_sl ([.ref h0, .long wd, .int 6])).length) Slot.unset).toArray = ls at hl ⊢
  have hl : lv_has ls 5 [(0, .ref h0), (1, .long wd), (3, .int 6)] := hl
  refine lv_iload_n hx hb dX11_add_0 rfl (lv_at hl 2 rfl) ?_
  refine lv_iconst (v := 1) hx hb dX11_add_1 (by decide) ?_
  refine lv_icmp_lt (tgt := 26) hx hb dX11_add_2 (by decide) (fun c9 => absurd c9 (by decide)) (fun _ => ?_)
  refine lv_iload_n hx hb dX11_add_5 rfl (lv_at hl 2 rfl) ?_
  refine lv_bipush (v := 8) hx hb dX11_add_6 (by decide) ?_
  refine lv_icmp_gt (tgt := 26) hx hb dX11_add_8 (by decide) (fun c9 => absurd c9 (by decide)) (fun _ => ?_)
  refine lv_aload_n hx hb dX11_add_11 rfl (lv_at hl 0 rfl) ?_
  refine va_get (D := D) (ci := 15) (v := .ref bb) (C := RX11) (T := TX11) (N := 15) hx hb hts (by decide +kernel) hown hK hP 0 rfl rfl 0 (by decide) (hts (.fieldLink RX11 14 "SignetRing" "bytes" "LSignetRing$Bytes;") (by decide +kernel)) (fun _ h9 => h9) rfl dX11_add_12 ?_
  refine va_get (D := D) (ci := 4) (v := .int (nI 0)) (C := RX0) (T := TX0) (N := 3) hx hb hts (by decide +kernel) hown hK hP 1 rfl rfl 2 (by decide) (hts (.fieldLink RX11 86 "SignetRing$Bytes" "size" "I") (by decide +kernel)) (u_same (hts (.sameField "SignetRing$Bytes" "SignetRing$Span" "size" "I") (by decide +kernel))) rfl dX11_add_15 ?_
  refine lv_iload_n hx hb dX11_add_18 rfl (lv_at hl 2 rfl) ?_
  refine lv_iadd hx hb dX11_add_19 ?_
  refine lv_topi (fun v1 ev1 => ?_)
  have ev1 : v1 = 6 := ev1.trans (by decide +kernel)
  subst ev1
  refine lv_sipush (v := 4096) hx hb dX11_add_20 (by decide) ?_
  refine lv_icmp_le (tgt := 28) hx hb dX11_add_23 (by decide) (fun _ => ?_) (fun c9 => absurd (by decide) c9)
  refine lv_iconst (v := 0) hx hb dX11_add_28 (by decide) ?_
  refine lv_istore (lv' := [(4, .int 0), (0, .ref h0), (1, .long wd), (3, .int 6)]) hx hb dX11_add_29 hl (by decide) rfl (fun ls hl => ?_)
  refine lv_iload hx hb dX11_add_31 (lv_at hl 0 rfl) ?_
  refine lv_iload_n hx hb dX11_add_33 rfl (lv_at hl 3 rfl) ?_
  refine lv_icmp_ge (tgt := 58) hx hb dX11_add_34 (by decide) (fun c9 => absurd c9 (by decide)) (fun _ => ?_)
  refine lv_aload_n hx hb dX11_add_37 rfl (lv_at hl 1 rfl) ?_
  refine va_get (D := D) (ci := 15) (v := .ref bb) (C := RX11) (T := TX11) (N := 15) hx hb hts (by decide +kernel) hown hK hP 0 rfl rfl 0 (by decide) (hts (.fieldLink RX11 14 "SignetRing" "bytes" "LSignetRing$Bytes;") (by decide +kernel)) (fun _ h9 => h9) rfl dX11_add_38 ?_
  refine lv_lload_n hx hb dX11_add_41 rfl (lv_at hl 2 rfl) ?_
  refine lv_bipush (v := 8) hx hb dX11_add_42 (by decide) ?_
  refine lv_iload hx hb dX11_add_44 (lv_at hl 0 rfl) ?_
  refine lv_imul hx hb dX11_add_46 ?_
  refine lv_topi (fun v2 ev2 => ?_)
  have ev2 : v2 = 0 := ev2.trans (by decide +kernel)
  subst ev2
  refine lv_lushr hx hb dX11_add_47 rfl ?_
  refine lv_topl (fun v3 _ => ?_)
  refine lv_l2i hx hb dX11_add_48 rfl ?_
  refine lv_topi (fun v4 _ => ?_)
  have hPc := hP.sub (ws' := [(bb, .inr (4, [.ref rr, w15, .int (nI 0)])), (rr, .inl (y 0, 4096, .inl f))]) [1, 2] rfl
  have hDc := hD.sub (ws' := [(bb, .inr (4, [.ref rr, w15, .int (nI 0)])), (rr, .inl (y 0, 4096, .inl f))]) [1, 2] (by decide) rfl
  have hFc := va_free (wc := [(bb, .inr (4, [.ref rr, w15, .int (nI 0)])), (rr, .inl (y 0, 4096, .inl f))]) hD hS hA [1, 2] rfl
  refine va_callv (va_runV (As := [.int v4]) (rest := []) ⟨hx, hb, hml, hown, hts⟩ (c_X0_push l D y s.heap.size bb rr 4096 0 w15 f v4 (by decide) (by decide)) (cwV 1 hts gv_c_X11_add_6_c_X0_push_90 rfl rfl rfl (by decide +kernel) ⟨(Nat.le_of_ble_eq_true rfl), (Nat.le_of_ble_eq_true rfl)⟩) (zB.preV hPc hDc hK hN hE hO hT hG hS hFc (fun _ h => nomatch h) (fun _ h => nomatch h) (fun _ h => nomatch h) (fun _ h => nomatch h) (va_recv hK hPc (ci := 4) (q0 := 0) rfl rfl)) rfl rfl hl.1 rfl (lv_room (Nat.le_of_ble_eq_true rfl)) dX11_add_49 ⟨(Nat.le_of_ble_eq_true rfl), (Nat.le_of_ble_eq_true rfl)⟩) hS (fun q _ h => hFc q h) hFc (fun u t H1 locs ht hvm hw hB hz1 hk1 hS => ?_)
  obtain ⟨f5, hP1, hD1⟩ := hB
  rw [ht] at hP1
  obtain ⟨hP, hD⟩ := va_join (wr := [(h0, .inr (15, [.ref bb, w1, w2, w3, w4, w5, w6, w7, w8, w9, w10, w11, w12, w13, w14]))]) (w1 := [(bb, .inr (4, [.ref rr, w15, .int (nI 1)])), (rr, .inl (y 0, 4096, .inl f5))]) hP hD [1, 2] [0] rfl rfl (by decide) (by decide) hk1 hFc hP1 hD1
  generalize H1 = H at hP hS ⊢
  have hP : va_P D vwCl [(h0, .inr (15, [.ref bb, w1, w2, w3, w4, w5, w6, w7, w8, w9, w10, w11, w12, w13, w14])), (bb, .inr (4, [.ref rr, w15, .int (nI 1)])), (rr, .inl (y 0, 4096, .inl f5))] H := hP
  have hD : va_D A [(h0, .inr (15, [.ref bb, w1, w2, w3, w4, w5, w6, w7, w8, w9, w10, w11, w12, w13, w14])), (bb, .inr (4, [.ref rr, w15, .int (nI 1)])), (rr, .inl (y 0, 4096, .inl f5))] := hD
  refine lv_iinc (v := 1) (lv' := [(4, .int 1), (0, .ref h0), (1, .long wd), (3, .int 6)]) hx hb dX11_add_52 hl (k := 0) rfl (by decide) (by decide) rfl (fun ls hl => ?_)
  refine lv_goto (tgt := 31) hx hb dX11_add_55 (by decide) ?_
  refine lv_iload hx hb dX11_add_31 (lv_at hl 0 rfl) ?_
  refine lv_iload_n hx hb dX11_add_33 rfl (lv_at hl 3 rfl) ?_
  refine lv_icmp_ge (tgt := 58) hx hb dX11_add_34 (by decide) (fun c9 => absurd c9 (by decide)) (fun _ => ?_)
  refine lv_aload_n hx hb dX11_add_37 rfl (lv_at hl 1 rfl) ?_
  refine va_get (D := D) (ci := 15) (v := .ref bb) (C := RX11) (T := TX11) (N := 15) hx hb hts (by decide +kernel) hown hK hP 0 rfl rfl 0 (by decide) (hts (.fieldLink RX11 14 "SignetRing" "bytes" "LSignetRing$Bytes;") (by decide +kernel)) (fun _ h9 => h9) rfl dX11_add_38 ?_
  refine lv_lload_n hx hb dX11_add_41 rfl (lv_at hl 2 rfl) ?_
  refine lv_bipush (v := 8) hx hb dX11_add_42 (by decide) ?_
  refine lv_iload hx hb dX11_add_44 (lv_at hl 0 rfl) ?_
  refine lv_imul hx hb dX11_add_46 ?_
  refine lv_topi (fun v6 ev6 => ?_)
  have ev6 : v6 = 8 := ev6.trans (by decide +kernel)
  subst ev6
  refine lv_lushr hx hb dX11_add_47 rfl ?_
  refine lv_topl (fun v7 _ => ?_)
  refine lv_l2i hx hb dX11_add_48 rfl ?_
  refine lv_topi (fun v8 _ => ?_)
  have hPc := hP.sub (ws' := [(bb, .inr (4, [.ref rr, w15, .int (nI 1)])), (rr, .inl (y 0, 4096, .inl f5))]) [1, 2] rfl
  have hDc := hD.sub (ws' := [(bb, .inr (4, [.ref rr, w15, .int (nI 1)])), (rr, .inl (y 0, 4096, .inl f5))]) [1, 2] (by decide) rfl
  have hFc := va_free (wc := [(bb, .inr (4, [.ref rr, w15, .int (nI 1)])), (rr, .inl (y 0, 4096, .inl f5))]) hD hS hA [1, 2] rfl
  refine va_callv (va_runV (As := [.int v8]) (rest := []) ⟨hx, hb, hml, hown, hts⟩ (c_X0_push l D y H.size bb rr 4096 1 w15 f5 v8 (by decide) (by decide)) (cwV 1 hts gv_c_X11_add_6_c_X0_push_90 rfl rfl rfl (by decide +kernel) ⟨(Nat.le_of_ble_eq_true rfl), (Nat.le_of_ble_eq_true rfl)⟩) (zB.preV hPc hDc hK hN hE hO hT hG hS hFc (fun _ h => nomatch h) (fun _ h => nomatch h) (fun _ h => nomatch h) (fun _ h => nomatch h) (va_recv hK hPc (ci := 4) (q0 := 0) rfl rfl)) rfl rfl hl.1 rfl (lv_room (Nat.le_of_ble_eq_true rfl)) dX11_add_49 ⟨(Nat.le_of_ble_eq_true rfl), (Nat.le_of_ble_eq_true rfl)⟩) hS (fun q _ h => hFc q h) hFc (fun u t H1 locs ht hvm hw hB hz1 hk1 hS => ?_)
  obtain ⟨f9, hP1, hD1⟩ := hB
  rw [ht] at hP1
  obtain ⟨hP, hD⟩ := va_join (wr := [(h0, .inr (15, [.ref bb, w1, w2, w3, w4, w5, w6, w7, w8, w9, w10, w11, w12, w13, w14]))]) (w1 := [(bb, .inr (4, [.ref rr, w15, .int (nI 2)])), (rr, .inl (y 0, 4096, .inl f9))]) hP hD [1, 2] [0] rfl rfl (by decide) (by decide) hk1 hFc hP1 hD1
  generalize H1 = H at hP hS ⊢
  have hP : va_P D vwCl [(h0, .inr (15, [.ref bb, w1, w2, w3, w4, w5, w6, w7, w8, w9, w10, w11, w12, w13, w14])), (bb, .inr (4, [.ref rr, w15, .int (nI 2)])), (rr, .inl (y 0, 4096, .inl f9))] H := hP
  have hD : va_D A [(h0, .inr (15, [.ref bb, w1, w2, w3, w4, w5, w6, w7, w8, w9, w10, w11, w12, w13, w14])), (bb, .inr (4, [.ref rr, w15, .int (nI 2)])), (rr, .inl (y 0, 4096, .inl f9))] := hD
  refine lv_iinc (v := 2) (lv' := [(4, .int 2), (0, .ref h0), (1, .long wd), (3, .int 6)]) hx hb dX11_add_52 hl (k := 0) rfl (by decide) (by decide) rfl (fun ls hl => ?_)
  refine lv_goto (tgt := 31) hx hb dX11_add_55 (by decide) ?_
  refine lv_iload hx hb dX11_add_31 (lv_at hl 0 rfl) ?_
  refine lv_iload_n hx hb dX11_add_33 rfl (lv_at hl 3 rfl) ?_
  refine lv_icmp_ge (tgt := 58) hx hb dX11_add_34 (by decide) (fun c9 => absurd c9 (by decide)) (fun _ => ?_)
  refine lv_aload_n hx hb dX11_add_37 rfl (lv_at hl 1 rfl) ?_
  refine va_get (D := D) (ci := 15) (v := .ref bb) (C := RX11) (T := TX11) (N := 15) hx hb hts (by decide +kernel) hown hK hP 0 rfl rfl 0 (by decide) (hts (.fieldLink RX11 14 "SignetRing" "bytes" "LSignetRing$Bytes;") (by decide +kernel)) (fun _ h9 => h9) rfl dX11_add_38 ?_
  refine lv_lload_n hx hb dX11_add_41 rfl (lv_at hl 2 rfl) ?_
  refine lv_bipush (v := 8) hx hb dX11_add_42 (by decide) ?_
  refine lv_iload hx hb dX11_add_44 (lv_at hl 0 rfl) ?_
  refine lv_imul hx hb dX11_add_46 ?_
  refine lv_topi (fun v10 ev10 => ?_)
  have ev10 : v10 = 16 := ev10.trans (by decide +kernel)
  subst ev10
  refine lv_lushr hx hb dX11_add_47 rfl ?_
  refine lv_topl (fun v11 _ => ?_)
  refine lv_l2i hx hb dX11_add_48 rfl ?_
  refine lv_topi (fun v12 _ => ?_)
  have hPc := hP.sub (ws' := [(bb, .inr (4, [.ref rr, w15, .int (nI 2)])), (rr, .inl (y 0, 4096, .inl f9))]) [1, 2] rfl
  have hDc := hD.sub (ws' := [(bb, .inr (4, [.ref rr, w15, .int (nI 2)])), (rr, .inl (y 0, 4096, .inl f9))]) [1, 2] (by decide) rfl
  have hFc := va_free (wc := [(bb, .inr (4, [.ref rr, w15, .int (nI 2)])), (rr, .inl (y 0, 4096, .inl f9))]) hD hS hA [1, 2] rfl
  refine va_callv (va_runV (As := [.int v12]) (rest := []) ⟨hx, hb, hml, hown, hts⟩ (c_X0_push l D y H.size bb rr 4096 2 w15 f9 v12 (by decide) (by decide)) (cwV 1 hts gv_c_X11_add_6_c_X0_push_90 rfl rfl rfl (by decide +kernel) ⟨(Nat.le_of_ble_eq_true rfl), (Nat.le_of_ble_eq_true rfl)⟩) (zB.preV hPc hDc hK hN hE hO hT hG hS hFc (fun _ h => nomatch h) (fun _ h => nomatch h) (fun _ h => nomatch h) (fun _ h => nomatch h) (va_recv hK hPc (ci := 4) (q0 := 0) rfl rfl)) rfl rfl hl.1 rfl (lv_room (Nat.le_of_ble_eq_true rfl)) dX11_add_49 ⟨(Nat.le_of_ble_eq_true rfl), (Nat.le_of_ble_eq_true rfl)⟩) hS (fun q _ h => hFc q h) hFc (fun u t H1 locs ht hvm hw hB hz1 hk1 hS => ?_)
  obtain ⟨f13, hP1, hD1⟩ := hB
  rw [ht] at hP1
  obtain ⟨hP, hD⟩ := va_join (wr := [(h0, .inr (15, [.ref bb, w1, w2, w3, w4, w5, w6, w7, w8, w9, w10, w11, w12, w13, w14]))]) (w1 := [(bb, .inr (4, [.ref rr, w15, .int (nI 3)])), (rr, .inl (y 0, 4096, .inl f13))]) hP hD [1, 2] [0] rfl rfl (by decide) (by decide) hk1 hFc hP1 hD1
  generalize H1 = H at hP hS ⊢
  have hP : va_P D vwCl [(h0, .inr (15, [.ref bb, w1, w2, w3, w4, w5, w6, w7, w8, w9, w10, w11, w12, w13, w14])), (bb, .inr (4, [.ref rr, w15, .int (nI 3)])), (rr, .inl (y 0, 4096, .inl f13))] H := hP
  have hD : va_D A [(h0, .inr (15, [.ref bb, w1, w2, w3, w4, w5, w6, w7, w8, w9, w10, w11, w12, w13, w14])), (bb, .inr (4, [.ref rr, w15, .int (nI 3)])), (rr, .inl (y 0, 4096, .inl f13))] := hD
  refine lv_iinc (v := 3) (lv' := [(4, .int 3), (0, .ref h0), (1, .long wd), (3, .int 6)]) hx hb dX11_add_52 hl (k := 0) rfl (by decide) (by decide) rfl (fun ls hl => ?_)
  refine lv_goto (tgt := 31) hx hb dX11_add_55 (by decide) ?_
  refine lv_iload hx hb dX11_add_31 (lv_at hl 0 rfl) ?_
  refine lv_iload_n hx hb dX11_add_33 rfl (lv_at hl 3 rfl) ?_
  refine lv_icmp_ge (tgt := 58) hx hb dX11_add_34 (by decide) (fun c9 => absurd c9 (by decide)) (fun _ => ?_)
  refine lv_aload_n hx hb dX11_add_37 rfl (lv_at hl 1 rfl) ?_
  refine va_get (D := D) (ci := 15) (v := .ref bb) (C := RX11) (T := TX11) (N := 15) hx hb hts (by decide +kernel) hown hK hP 0 rfl rfl 0 (by decide) (hts (.fieldLink RX11 14 "SignetRing" "bytes" "LSignetRing$Bytes;") (by decide +kernel)) (fun _ h9 => h9) rfl dX11_add_38 ?_
  refine lv_lload_n hx hb dX11_add_41 rfl (lv_at hl 2 rfl) ?_
  refine lv_bipush (v := 8) hx hb dX11_add_42 (by decide) ?_
  refine lv_iload hx hb dX11_add_44 (lv_at hl 0 rfl) ?_
  refine lv_imul hx hb dX11_add_46 ?_
  refine lv_topi (fun v14 ev14 => ?_)
  have ev14 : v14 = 24 := ev14.trans (by decide +kernel)
  subst ev14
  refine lv_lushr hx hb dX11_add_47 rfl ?_
  refine lv_topl (fun v15 _ => ?_)
  refine lv_l2i hx hb dX11_add_48 rfl ?_
  refine lv_topi (fun v16 _ => ?_)
  have hPc := hP.sub (ws' := [(bb, .inr (4, [.ref rr, w15, .int (nI 3)])), (rr, .inl (y 0, 4096, .inl f13))]) [1, 2] rfl
  have hDc := hD.sub (ws' := [(bb, .inr (4, [.ref rr, w15, .int (nI 3)])), (rr, .inl (y 0, 4096, .inl f13))]) [1, 2] (by decide) rfl
  have hFc := va_free (wc := [(bb, .inr (4, [.ref rr, w15, .int (nI 3)])), (rr, .inl (y 0, 4096, .inl f13))]) hD hS hA [1, 2] rfl
  refine va_callv (va_runV (As := [.int v16]) (rest := []) ⟨hx, hb, hml, hown, hts⟩ (c_X0_push l D y H.size bb rr 4096 3 w15 f13 v16 (by decide) (by decide)) (cwV 1 hts gv_c_X11_add_6_c_X0_push_90 rfl rfl rfl (by decide +kernel) ⟨(Nat.le_of_ble_eq_true rfl), (Nat.le_of_ble_eq_true rfl)⟩) (zB.preV hPc hDc hK hN hE hO hT hG hS hFc (fun _ h => nomatch h) (fun _ h => nomatch h) (fun _ h => nomatch h) (fun _ h => nomatch h) (va_recv hK hPc (ci := 4) (q0 := 0) rfl rfl)) rfl rfl hl.1 rfl (lv_room (Nat.le_of_ble_eq_true rfl)) dX11_add_49 ⟨(Nat.le_of_ble_eq_true rfl), (Nat.le_of_ble_eq_true rfl)⟩) hS (fun q _ h => hFc q h) hFc (fun u t H1 locs ht hvm hw hB hz1 hk1 hS => ?_)
  obtain ⟨f17, hP1, hD1⟩ := hB
  rw [ht] at hP1
  obtain ⟨hP, hD⟩ := va_join (wr := [(h0, .inr (15, [.ref bb, w1, w2, w3, w4, w5, w6, w7, w8, w9, w10, w11, w12, w13, w14]))]) (w1 := [(bb, .inr (4, [.ref rr, w15, .int (nI 4)])), (rr, .inl (y 0, 4096, .inl f17))]) hP hD [1, 2] [0] rfl rfl (by decide) (by decide) hk1 hFc hP1 hD1
  generalize H1 = H at hP hS ⊢
  have hP : va_P D vwCl [(h0, .inr (15, [.ref bb, w1, w2, w3, w4, w5, w6, w7, w8, w9, w10, w11, w12, w13, w14])), (bb, .inr (4, [.ref rr, w15, .int (nI 4)])), (rr, .inl (y 0, 4096, .inl f17))] H := hP
  have hD : va_D A [(h0, .inr (15, [.ref bb, w1, w2, w3, w4, w5, w6, w7, w8, w9, w10, w11, w12, w13, w14])), (bb, .inr (4, [.ref rr, w15, .int (nI 4)])), (rr, .inl (y 0, 4096, .inl f17))] := hD
  refine lv_iinc (v := 4) (lv' := [(4, .int 4), (0, .ref h0), (1, .long wd), (3, .int 6)]) hx hb dX11_add_52 hl (k := 0) rfl (by decide) (by decide) rfl (fun ls hl => ?_)
  refine lv_goto (tgt := 31) hx hb dX11_add_55 (by decide) ?_
  refine lv_iload hx hb dX11_add_31 (lv_at hl 0 rfl) ?_
  refine lv_iload_n hx hb dX11_add_33 rfl (lv_at hl 3 rfl) ?_
  refine lv_icmp_ge (tgt := 58) hx hb dX11_add_34 (by decide) (fun c9 => absurd c9 (by decide)) (fun _ => ?_)
  refine lv_aload_n hx hb dX11_add_37 rfl (lv_at hl 1 rfl) ?_
  refine va_get (D := D) (ci := 15) (v := .ref bb) (C := RX11) (T := TX11) (N := 15) hx hb hts (by decide +kernel) hown hK hP 0 rfl rfl 0 (by decide) (hts (.fieldLink RX11 14 "SignetRing" "bytes" "LSignetRing$Bytes;") (by decide +kernel)) (fun _ h9 => h9) rfl dX11_add_38 ?_
  refine lv_lload_n hx hb dX11_add_41 rfl (lv_at hl 2 rfl) ?_
  refine lv_bipush (v := 8) hx hb dX11_add_42 (by decide) ?_
  refine lv_iload hx hb dX11_add_44 (lv_at hl 0 rfl) ?_
  refine lv_imul hx hb dX11_add_46 ?_
  refine lv_topi (fun v18 ev18 => ?_)
  have ev18 : v18 = 32 := ev18.trans (by decide +kernel)
  subst ev18
  refine lv_lushr hx hb dX11_add_47 rfl ?_
  refine lv_topl (fun v19 _ => ?_)
  refine lv_l2i hx hb dX11_add_48 rfl ?_
  refine lv_topi (fun v20 _ => ?_)
  have hPc := hP.sub (ws' := [(bb, .inr (4, [.ref rr, w15, .int (nI 4)])), (rr, .inl (y 0, 4096, .inl f17))]) [1, 2] rfl
  have hDc := hD.sub (ws' := [(bb, .inr (4, [.ref rr, w15, .int (nI 4)])), (rr, .inl (y 0, 4096, .inl f17))]) [1, 2] (by decide) rfl
  have hFc := va_free (wc := [(bb, .inr (4, [.ref rr, w15, .int (nI 4)])), (rr, .inl (y 0, 4096, .inl f17))]) hD hS hA [1, 2] rfl
  refine va_callv (va_runV (As := [.int v20]) (rest := []) ⟨hx, hb, hml, hown, hts⟩ (c_X0_push l D y H.size bb rr 4096 4 w15 f17 v20 (by decide) (by decide)) (cwV 1 hts gv_c_X11_add_6_c_X0_push_90 rfl rfl rfl (by decide +kernel) ⟨(Nat.le_of_ble_eq_true rfl), (Nat.le_of_ble_eq_true rfl)⟩) (zB.preV hPc hDc hK hN hE hO hT hG hS hFc (fun _ h => nomatch h) (fun _ h => nomatch h) (fun _ h => nomatch h) (fun _ h => nomatch h) (va_recv hK hPc (ci := 4) (q0 := 0) rfl rfl)) rfl rfl hl.1 rfl (lv_room (Nat.le_of_ble_eq_true rfl)) dX11_add_49 ⟨(Nat.le_of_ble_eq_true rfl), (Nat.le_of_ble_eq_true rfl)⟩) hS (fun q _ h => hFc q h) hFc (fun u t H1 locs ht hvm hw hB hz1 hk1 hS => ?_)
  obtain ⟨f21, hP1, hD1⟩ := hB
  rw [ht] at hP1
  obtain ⟨hP, hD⟩ := va_join (wr := [(h0, .inr (15, [.ref bb, w1, w2, w3, w4, w5, w6, w7, w8, w9, w10, w11, w12, w13, w14]))]) (w1 := [(bb, .inr (4, [.ref rr, w15, .int (nI 5)])), (rr, .inl (y 0, 4096, .inl f21))]) hP hD [1, 2] [0] rfl rfl (by decide) (by decide) hk1 hFc hP1 hD1
  generalize H1 = H at hP hS ⊢
  have hP : va_P D vwCl [(h0, .inr (15, [.ref bb, w1, w2, w3, w4, w5, w6, w7, w8, w9, w10, w11, w12, w13, w14])), (bb, .inr (4, [.ref rr, w15, .int (nI 5)])), (rr, .inl (y 0, 4096, .inl f21))] H := hP
  have hD : va_D A [(h0, .inr (15, [.ref bb, w1, w2, w3, w4, w5, w6, w7, w8, w9, w10, w11, w12, w13, w14])), (bb, .inr (4, [.ref rr, w15, .int (nI 5)])), (rr, .inl (y 0, 4096, .inl f21))] := hD
  refine lv_iinc (v := 5) (lv' := [(4, .int 5), (0, .ref h0), (1, .long wd), (3, .int 6)]) hx hb dX11_add_52 hl (k := 0) rfl (by decide) (by decide) rfl (fun ls hl => ?_)
  refine lv_goto (tgt := 31) hx hb dX11_add_55 (by decide) ?_
  refine lv_iload hx hb dX11_add_31 (lv_at hl 0 rfl) ?_
  refine lv_iload_n hx hb dX11_add_33 rfl (lv_at hl 3 rfl) ?_
  refine lv_icmp_ge (tgt := 58) hx hb dX11_add_34 (by decide) (fun c9 => absurd c9 (by decide)) (fun _ => ?_)
  refine lv_aload_n hx hb dX11_add_37 rfl (lv_at hl 1 rfl) ?_
  refine va_get (D := D) (ci := 15) (v := .ref bb) (C := RX11) (T := TX11) (N := 15) hx hb hts (by decide +kernel) hown hK hP 0 rfl rfl 0 (by decide) (hts (.fieldLink RX11 14 "SignetRing" "bytes" "LSignetRing$Bytes;") (by decide +kernel)) (fun _ h9 => h9) rfl dX11_add_38 ?_
  refine lv_lload_n hx hb dX11_add_41 rfl (lv_at hl 2 rfl) ?_
  refine lv_bipush (v := 8) hx hb dX11_add_42 (by decide) ?_
  refine lv_iload hx hb dX11_add_44 (lv_at hl 0 rfl) ?_
  refine lv_imul hx hb dX11_add_46 ?_
  refine lv_topi (fun v22 ev22 => ?_)
  have ev22 : v22 = 40 := ev22.trans (by decide +kernel)
  subst ev22
  refine lv_lushr hx hb dX11_add_47 rfl ?_
  refine lv_topl (fun v23 _ => ?_)
  refine lv_l2i hx hb dX11_add_48 rfl ?_
  refine lv_topi (fun v24 _ => ?_)
  have hPc := hP.sub (ws' := [(bb, .inr (4, [.ref rr, w15, .int (nI 5)])), (rr, .inl (y 0, 4096, .inl f21))]) [1, 2] rfl
  have hDc := hD.sub (ws' := [(bb, .inr (4, [.ref rr, w15, .int (nI 5)])), (rr, .inl (y 0, 4096, .inl f21))]) [1, 2] (by decide) rfl
  have hFc := va_free (wc := [(bb, .inr (4, [.ref rr, w15, .int (nI 5)])), (rr, .inl (y 0, 4096, .inl f21))]) hD hS hA [1, 2] rfl
  refine va_callv (va_runV (As := [.int v24]) (rest := []) ⟨hx, hb, hml, hown, hts⟩ (c_X0_push l D y H.size bb rr 4096 5 w15 f21 v24 (by decide) (by decide)) (cwV 1 hts gv_c_X11_add_6_c_X0_push_90 rfl rfl rfl (by decide +kernel) ⟨(Nat.le_of_ble_eq_true rfl), (Nat.le_of_ble_eq_true rfl)⟩) (zB.preV hPc hDc hK hN hE hO hT hG hS hFc (fun _ h => nomatch h) (fun _ h => nomatch h) (fun _ h => nomatch h) (fun _ h => nomatch h) (va_recv hK hPc (ci := 4) (q0 := 0) rfl rfl)) rfl rfl hl.1 rfl (lv_room (Nat.le_of_ble_eq_true rfl)) dX11_add_49 ⟨(Nat.le_of_ble_eq_true rfl), (Nat.le_of_ble_eq_true rfl)⟩) hS (fun q _ h => hFc q h) hFc (fun u t H1 locs ht hvm hw hB hz1 hk1 hS => ?_)
  obtain ⟨f25, hP1, hD1⟩ := hB
  rw [ht] at hP1
  obtain ⟨hP, hD⟩ := va_join (wr := [(h0, .inr (15, [.ref bb, w1, w2, w3, w4, w5, w6, w7, w8, w9, w10, w11, w12, w13, w14]))]) (w1 := [(bb, .inr (4, [.ref rr, w15, .int (nI 6)])), (rr, .inl (y 0, 4096, .inl f25))]) hP hD [1, 2] [0] rfl rfl (by decide) (by decide) hk1 hFc hP1 hD1
  generalize H1 = H at hP hS ⊢
  have hP : va_P D vwCl [(h0, .inr (15, [.ref bb, w1, w2, w3, w4, w5, w6, w7, w8, w9, w10, w11, w12, w13, w14])), (bb, .inr (4, [.ref rr, w15, .int (nI 6)])), (rr, .inl (y 0, 4096, .inl f25))] H := hP
  have hD : va_D A [(h0, .inr (15, [.ref bb, w1, w2, w3, w4, w5, w6, w7, w8, w9, w10, w11, w12, w13, w14])), (bb, .inr (4, [.ref rr, w15, .int (nI 6)])), (rr, .inl (y 0, 4096, .inl f25))] := hD
  refine lv_iinc (v := 6) (lv' := [(4, .int 6), (0, .ref h0), (1, .long wd), (3, .int 6)]) hx hb dX11_add_52 hl (k := 0) rfl (by decide) (by decide) rfl (fun ls hl => ?_)
  refine lv_goto (tgt := 31) hx hb dX11_add_55 (by decide) ?_
  refine lv_iload hx hb dX11_add_31 (lv_at hl 0 rfl) ?_
  refine lv_iload_n hx hb dX11_add_33 rfl (lv_at hl 3 rfl) ?_
  refine lv_icmp_ge (tgt := 58) hx hb dX11_add_34 (by decide) (fun _ => ?_) (fun c9 => absurd (by decide) c9)
  refine lv_iconst (v := 1) hx hb dX11_add_58 (by decide) ?_
  have hP9 := hP.sub (ws' := [(h0, .inr (15, [.ref bb, w1, w2, w3, w4, w5, w6, w7, w8, w9, w10, w11, w12, w13, w14])), (bb, .inr (4, [.ref rr, w15, .int (nI 6)])), (rr, .inl (y 0, 4096, .inl f25))]) [0, 1, 2] rfl
  have hD9 := hD.sub (ws' := [(h0, .inr (15, [.ref bb, w1, w2, w3, w4, w5, w6, w7, w8, w9, w10, w11, w12, w13, w14])), (bb, .inr (4, [.ref rr, w15, .int (nI 6)])), (rr, .inl (y 0, 4096, .inl f25))]) [0, 1, 2] (by decide) rfl
  refine W.widen (k := 0) (n := 0) (Nat.le_of_ble_eq_true rfl) (Nat.le_of_ble_eq_true rfl) ?_
  exact W.zret (v := 1) hx hb hr (by decide) (fun t ht hW => ⟨⟨1, (), rfl, rfl, f25, by rw [ht]; exact hP9, hD9⟩, hS.F ht⟩) hS.2.2 dX11_add_59
def wz_c_X11_add_7 : List Cond := .code yX11_add cX11_add 5 (some .boolean) :: ([.fieldLink RX11 14 "SignetRing" "bytes" "LSignetRing$Bytes;", .fieldLink RX11 86 "SignetRing$Bytes" "size" "I", .sameField "SignetRing$Bytes" "SignetRing$Span" "size" "I", .methodLink RX11 90 yX0_push, .instanceMethod yX0_push, .selects RX0 yX0_push yX0_push, .initialized RX0] ++ (wsX110 ++ (wsX00 ++ (wz_c_X0_push ++ ([])))))
set_option maxRecDepth 100000 in
theorem gz_c_X11_add_7_c_X0_push : GoodIn wz_c_X11_add_7 wz_c_X0_push := goodIn_sub (fun w h => List.mem_cons_of_mem _ (List.mem_append_right _ (List.mem_append_right _ (List.mem_append_right _ (List.mem_append_left _ h))))) (by decide +kernel)
set_option maxRecDepth 100000 in
theorem gv_c_X11_add_7_c_X0_push_90 : GoodIn wz_c_X11_add_7 (wsV RX11 90 RX0 yX0_push wz_c_X0_push) := goodIn_app (goodIn_of _ (by decide +kernel)) gz_c_X11_add_7_c_X0_push
set_option maxHeartbeats 4000000 in
set_option maxRecDepth 100000 in
theorem c_X11_add_7 (l : Launch) (D : va_G) (y : Nat → ClassId) (sz : Nat) (h0 : Nat) (bb : Nat) (rr : Nat) (w1 : Value) (w2 : Value) (w3 : Value) (w4 : Value) (w5 : Value) (w6 : Value) (w7 : Value) (w8 : Value) (w9 : Value) (w10 : Value) (w11 : Value) (w12 : Value) (w13 : Value) (w14 : Value) (w15 : Value) (f : Nat → Int32) (wd : Int64) : Met l yX11_add wz_c_X11_add_7 ({ frames := 1, cells := 0, slots := 0, locals := 21 }) (va_Pc [.ref h0, .long wd, .int 7] (zB D y [(h0, .inr (15, [.ref bb, w1, w2, w3, w4, w5, w6, w7, w8, w9, w10, w11, w12, w13, w14])), (bb, .inr (4, [.ref rr, w15, .int (nI 0)])), (rr, .inl (y 0, 4096, .inl f))] sz [] [] [] [])) (va_Qi (fun (r : Int32) (_ : Unit) => r = 1) (fun _ t => ∃ fz0 : Nat → Int32, va_P D vwCl [(h0, .inr (15, [.ref bb, w1, w2, w3, w4, w5, w6, w7, w8, w9, w10, w11, w12, w13, w14])), (bb, .inr (4, [.ref rr, w15, .int (nI 7)])), (rr, .inl (y 0, 4096, .inl fz0))] t.heap ∧ va_D (va_A [(h0, .inr (15, [.ref bb, w1, w2, w3, w4, w5, w6, w7, w8, w9, w10, w11, w12, w13, w14])), (bb, .inr (4, [.ref rr, w15, .int (nI 0)])), (rr, .inl (y 0, 4096, .inl f))] sz) [(h0, .inr (15, [.ref bb, w1, w2, w3, w4, w5, w6, w7, w8, w9, w10, w11, w12, w13, w14])), (bb, .inr (4, [.ref rr, w15, .int (nI 7)])), (rr, .inl (y 0, 4096, .inl fz0))]) (va_A [(h0, .inr (15, [.ref bb, w1, w2, w3, w4, w5, w6, w7, w8, w9, w10, w11, w12, w13, w14])), (bb, .inr (4, [.ref rr, w15, .int (nI 0)])), (rr, .inl (y 0, 4096, .inl f))] sz)) 0 0 (va_A [(h0, .inr (15, [.ref bb, w1, w2, w3, w4, w5, w6, w7, w8, w9, w10, w11, w12, w13, w14])), (bb, .inr (4, [.ref rr, w15, .int (nI 0)])), (rr, .inl (y 0, 4096, .inl f))] sz) := by
  refine Met.ofW (cc := cX11_add) (maxL := 5) (ret := (some .boolean)) (by decide) rfl ?_
  intro p e s m args below meth c s₁ B hml hv
  obtain ⟨rfl, hsz, hP, hK, hD0, hN, hE, hO, hT, hG⟩ := hv
  have hx := B.exec
  have hb := B.bytes
  have hr := B.returns
  have hts := atoms_spec (ws := wz_c_X11_add_7) B.pre
  have hown : s.vm.findClass RX11 = some m.cls := findClass_of_methodNamed B.named
  have hlocks := B.notSynchronized
  subst hsz
  have hD := hD0.self (sz := s.heap.size)
  generalize hAe : va_A [(h0, .inr (15, [.ref bb, w1, w2, w3, w4, w5, w6, w7, w8, w9, w10, w11, w12, w13, w14])), (bb, .inr (4, [.ref rr, w15, .int (nI 0)])), (rr, .inl (y 0, 4096, .inl f))] s.heap.size = A at hD hE hT hG ⊢
  have hA : ∀ q : Nat, s.heap.size ≤ q → A q := fun q h => by rw [← hAe]; exact Or.inr h
  have hS : va_S A s.heap s.heap [] := va_S.rf
  have hl := lv_entry ([.ref h0, .long wd, .int 7]) (n := 5) (Nat.le_of_ble_eq_true rfl)
  rw [lg_entry_eq]
  generalize (lg_sl ([.ref h0, .long wd, .int 7]) ++ List.replicate (5 - (lg_sl ([.ref h0, .long wd, .int 7])).length) Slot.unset).toArray = ls at hl ⊢
  have hl : lv_has ls 5 [(0, .ref h0), (1, .long wd), (3, .int 7)] := hl
  refine lv_iload_n hx hb dX11_add_0 rfl (lv_at hl 2 rfl) ?_
  refine lv_iconst (v := 1) hx hb dX11_add_1 (by decide) ?_
  refine lv_icmp_lt (tgt := 26) hx hb dX11_add_2 (by decide) (fun c9 => absurd c9 (by decide)) (fun _ => ?_)
  refine lv_iload_n hx hb dX11_add_5 rfl (lv_at hl 2 rfl) ?_
  refine lv_bipush (v := 8) hx hb dX11_add_6 (by decide) ?_
  refine lv_icmp_gt (tgt := 26) hx hb dX11_add_8 (by decide) (fun c9 => absurd c9 (by decide)) (fun _ => ?_)
  refine lv_aload_n hx hb dX11_add_11 rfl (lv_at hl 0 rfl) ?_
  refine va_get (D := D) (ci := 15) (v := .ref bb) (C := RX11) (T := TX11) (N := 15) hx hb hts (by decide +kernel) hown hK hP 0 rfl rfl 0 (by decide) (hts (.fieldLink RX11 14 "SignetRing" "bytes" "LSignetRing$Bytes;") (by decide +kernel)) (fun _ h9 => h9) rfl dX11_add_12 ?_
  refine va_get (D := D) (ci := 4) (v := .int (nI 0)) (C := RX0) (T := TX0) (N := 3) hx hb hts (by decide +kernel) hown hK hP 1 rfl rfl 2 (by decide) (hts (.fieldLink RX11 86 "SignetRing$Bytes" "size" "I") (by decide +kernel)) (u_same (hts (.sameField "SignetRing$Bytes" "SignetRing$Span" "size" "I") (by decide +kernel))) rfl dX11_add_15 ?_
  refine lv_iload_n hx hb dX11_add_18 rfl (lv_at hl 2 rfl) ?_
  refine lv_iadd hx hb dX11_add_19 ?_
  refine lv_topi (fun v1 ev1 => ?_)
  have ev1 : v1 = 7 := ev1.trans (by decide +kernel)
  subst ev1
  refine lv_sipush (v := 4096) hx hb dX11_add_20 (by decide) ?_
  refine lv_icmp_le (tgt := 28) hx hb dX11_add_23 (by decide) (fun _ => ?_) (fun c9 => absurd (by decide) c9)
  refine lv_iconst (v := 0) hx hb dX11_add_28 (by decide) ?_
  refine lv_istore (lv' := [(4, .int 0), (0, .ref h0), (1, .long wd), (3, .int 7)]) hx hb dX11_add_29 hl (by decide) rfl (fun ls hl => ?_)
  refine lv_iload hx hb dX11_add_31 (lv_at hl 0 rfl) ?_
  refine lv_iload_n hx hb dX11_add_33 rfl (lv_at hl 3 rfl) ?_
  refine lv_icmp_ge (tgt := 58) hx hb dX11_add_34 (by decide) (fun c9 => absurd c9 (by decide)) (fun _ => ?_)
  refine lv_aload_n hx hb dX11_add_37 rfl (lv_at hl 1 rfl) ?_
  refine va_get (D := D) (ci := 15) (v := .ref bb) (C := RX11) (T := TX11) (N := 15) hx hb hts (by decide +kernel) hown hK hP 0 rfl rfl 0 (by decide) (hts (.fieldLink RX11 14 "SignetRing" "bytes" "LSignetRing$Bytes;") (by decide +kernel)) (fun _ h9 => h9) rfl dX11_add_38 ?_
  refine lv_lload_n hx hb dX11_add_41 rfl (lv_at hl 2 rfl) ?_
  refine lv_bipush (v := 8) hx hb dX11_add_42 (by decide) ?_
  refine lv_iload hx hb dX11_add_44 (lv_at hl 0 rfl) ?_
  refine lv_imul hx hb dX11_add_46 ?_
  refine lv_topi (fun v2 ev2 => ?_)
  have ev2 : v2 = 0 := ev2.trans (by decide +kernel)
  subst ev2
  refine lv_lushr hx hb dX11_add_47 rfl ?_
  refine lv_topl (fun v3 _ => ?_)
  refine lv_l2i hx hb dX11_add_48 rfl ?_
  refine lv_topi (fun v4 _ => ?_)
  have hPc := hP.sub (ws' := [(bb, .inr (4, [.ref rr, w15, .int (nI 0)])), (rr, .inl (y 0, 4096, .inl f))]) [1, 2] rfl
  have hDc := hD.sub (ws' := [(bb, .inr (4, [.ref rr, w15, .int (nI 0)])), (rr, .inl (y 0, 4096, .inl f))]) [1, 2] (by decide) rfl
  have hFc := va_free (wc := [(bb, .inr (4, [.ref rr, w15, .int (nI 0)])), (rr, .inl (y 0, 4096, .inl f))]) hD hS hA [1, 2] rfl
  refine va_callv (va_runV (As := [.int v4]) (rest := []) ⟨hx, hb, hml, hown, hts⟩ (c_X0_push l D y s.heap.size bb rr 4096 0 w15 f v4 (by decide) (by decide)) (cwV 1 hts gv_c_X11_add_7_c_X0_push_90 rfl rfl rfl (by decide +kernel) ⟨(Nat.le_of_ble_eq_true rfl), (Nat.le_of_ble_eq_true rfl)⟩) (zB.preV hPc hDc hK hN hE hO hT hG hS hFc (fun _ h => nomatch h) (fun _ h => nomatch h) (fun _ h => nomatch h) (fun _ h => nomatch h) (va_recv hK hPc (ci := 4) (q0 := 0) rfl rfl)) rfl rfl hl.1 rfl (lv_room (Nat.le_of_ble_eq_true rfl)) dX11_add_49 ⟨(Nat.le_of_ble_eq_true rfl), (Nat.le_of_ble_eq_true rfl)⟩) hS (fun q _ h => hFc q h) hFc (fun u t H1 locs ht hvm hw hB hz1 hk1 hS => ?_)
  obtain ⟨f5, hP1, hD1⟩ := hB
  rw [ht] at hP1
  obtain ⟨hP, hD⟩ := va_join (wr := [(h0, .inr (15, [.ref bb, w1, w2, w3, w4, w5, w6, w7, w8, w9, w10, w11, w12, w13, w14]))]) (w1 := [(bb, .inr (4, [.ref rr, w15, .int (nI 1)])), (rr, .inl (y 0, 4096, .inl f5))]) hP hD [1, 2] [0] rfl rfl (by decide) (by decide) hk1 hFc hP1 hD1
  generalize H1 = H at hP hS ⊢
  have hP : va_P D vwCl [(h0, .inr (15, [.ref bb, w1, w2, w3, w4, w5, w6, w7, w8, w9, w10, w11, w12, w13, w14])), (bb, .inr (4, [.ref rr, w15, .int (nI 1)])), (rr, .inl (y 0, 4096, .inl f5))] H := hP
  have hD : va_D A [(h0, .inr (15, [.ref bb, w1, w2, w3, w4, w5, w6, w7, w8, w9, w10, w11, w12, w13, w14])), (bb, .inr (4, [.ref rr, w15, .int (nI 1)])), (rr, .inl (y 0, 4096, .inl f5))] := hD
  refine lv_iinc (v := 1) (lv' := [(4, .int 1), (0, .ref h0), (1, .long wd), (3, .int 7)]) hx hb dX11_add_52 hl (k := 0) rfl (by decide) (by decide) rfl (fun ls hl => ?_)
  refine lv_goto (tgt := 31) hx hb dX11_add_55 (by decide) ?_
  refine lv_iload hx hb dX11_add_31 (lv_at hl 0 rfl) ?_
  refine lv_iload_n hx hb dX11_add_33 rfl (lv_at hl 3 rfl) ?_
  refine lv_icmp_ge (tgt := 58) hx hb dX11_add_34 (by decide) (fun c9 => absurd c9 (by decide)) (fun _ => ?_)
  refine lv_aload_n hx hb dX11_add_37 rfl (lv_at hl 1 rfl) ?_
  refine va_get (D := D) (ci := 15) (v := .ref bb) (C := RX11) (T := TX11) (N := 15) hx hb hts (by decide +kernel) hown hK hP 0 rfl rfl 0 (by decide) (hts (.fieldLink RX11 14 "SignetRing" "bytes" "LSignetRing$Bytes;") (by decide +kernel)) (fun _ h9 => h9) rfl dX11_add_38 ?_
  refine lv_lload_n hx hb dX11_add_41 rfl (lv_at hl 2 rfl) ?_
  refine lv_bipush (v := 8) hx hb dX11_add_42 (by decide) ?_
  refine lv_iload hx hb dX11_add_44 (lv_at hl 0 rfl) ?_
  refine lv_imul hx hb dX11_add_46 ?_
  refine lv_topi (fun v6 ev6 => ?_)
  have ev6 : v6 = 8 := ev6.trans (by decide +kernel)
  subst ev6
  refine lv_lushr hx hb dX11_add_47 rfl ?_
  refine lv_topl (fun v7 _ => ?_)
  refine lv_l2i hx hb dX11_add_48 rfl ?_
  refine lv_topi (fun v8 _ => ?_)
  have hPc := hP.sub (ws' := [(bb, .inr (4, [.ref rr, w15, .int (nI 1)])), (rr, .inl (y 0, 4096, .inl f5))]) [1, 2] rfl
  have hDc := hD.sub (ws' := [(bb, .inr (4, [.ref rr, w15, .int (nI 1)])), (rr, .inl (y 0, 4096, .inl f5))]) [1, 2] (by decide) rfl
  have hFc := va_free (wc := [(bb, .inr (4, [.ref rr, w15, .int (nI 1)])), (rr, .inl (y 0, 4096, .inl f5))]) hD hS hA [1, 2] rfl
  refine va_callv (va_runV (As := [.int v8]) (rest := []) ⟨hx, hb, hml, hown, hts⟩ (c_X0_push l D y H.size bb rr 4096 1 w15 f5 v8 (by decide) (by decide)) (cwV 1 hts gv_c_X11_add_7_c_X0_push_90 rfl rfl rfl (by decide +kernel) ⟨(Nat.le_of_ble_eq_true rfl), (Nat.le_of_ble_eq_true rfl)⟩) (zB.preV hPc hDc hK hN hE hO hT hG hS hFc (fun _ h => nomatch h) (fun _ h => nomatch h) (fun _ h => nomatch h) (fun _ h => nomatch h) (va_recv hK hPc (ci := 4) (q0 := 0) rfl rfl)) rfl rfl hl.1 rfl (lv_room (Nat.le_of_ble_eq_true rfl)) dX11_add_49 ⟨(Nat.le_of_ble_eq_true rfl), (Nat.le_of_ble_eq_true rfl)⟩) hS (fun q _ h => hFc q h) hFc (fun u t H1 locs ht hvm hw hB hz1 hk1 hS => ?_)
  obtain ⟨f9, hP1, hD1⟩ := hB
  rw [ht] at hP1
  obtain ⟨hP, hD⟩ := va_join (wr := [(h0, .inr (15, [.ref bb, w1, w2, w3, w4, w5, w6, w7, w8, w9, w10, w11, w12, w13, w14]))]) (w1 := [(bb, .inr (4, [.ref rr, w15, .int (nI 2)])), (rr, .inl (y 0, 4096, .inl f9))]) hP hD [1, 2] [0] rfl rfl (by decide) (by decide) hk1 hFc hP1 hD1
  generalize H1 = H at hP hS ⊢
  have hP : va_P D vwCl [(h0, .inr (15, [.ref bb, w1, w2, w3, w4, w5, w6, w7, w8, w9, w10, w11, w12, w13, w14])), (bb, .inr (4, [.ref rr, w15, .int (nI 2)])), (rr, .inl (y 0, 4096, .inl f9))] H := hP
  have hD : va_D A [(h0, .inr (15, [.ref bb, w1, w2, w3, w4, w5, w6, w7, w8, w9, w10, w11, w12, w13, w14])), (bb, .inr (4, [.ref rr, w15, .int (nI 2)])), (rr, .inl (y 0, 4096, .inl f9))] := hD
  refine lv_iinc (v := 2) (lv' := [(4, .int 2), (0, .ref h0), (1, .long wd), (3, .int 7)]) hx hb dX11_add_52 hl (k := 0) rfl (by decide) (by decide) rfl (fun ls hl => ?_)
  refine lv_goto (tgt := 31) hx hb dX11_add_55 (by decide) ?_
  refine lv_iload hx hb dX11_add_31 (lv_at hl 0 rfl) ?_
  refine lv_iload_n hx hb dX11_add_33 rfl (lv_at hl 3 rfl) ?_
  refine lv_icmp_ge (tgt := 58) hx hb dX11_add_34 (by decide) (fun c9 => absurd c9 (by decide)) (fun _ => ?_)
  refine lv_aload_n hx hb dX11_add_37 rfl (lv_at hl 1 rfl) ?_
  refine va_get (D := D) (ci := 15) (v := .ref bb) (C := RX11) (T := TX11) (N := 15) hx hb hts (by decide +kernel) hown hK hP 0 rfl rfl 0 (by decide) (hts (.fieldLink RX11 14 "SignetRing" "bytes" "LSignetRing$Bytes;") (by decide +kernel)) (fun _ h9 => h9) rfl dX11_add_38 ?_
  refine lv_lload_n hx hb dX11_add_41 rfl (lv_at hl 2 rfl) ?_
  refine lv_bipush (v := 8) hx hb dX11_add_42 (by decide) ?_
  refine lv_iload hx hb dX11_add_44 (lv_at hl 0 rfl) ?_
  refine lv_imul hx hb dX11_add_46 ?_
  refine lv_topi (fun v10 ev10 => ?_)
  have ev10 : v10 = 16 := ev10.trans (by decide +kernel)
  subst ev10
  refine lv_lushr hx hb dX11_add_47 rfl ?_
  refine lv_topl (fun v11 _ => ?_)
  refine lv_l2i hx hb dX11_add_48 rfl ?_
  refine lv_topi (fun v12 _ => ?_)
  have hPc := hP.sub (ws' := [(bb, .inr (4, [.ref rr, w15, .int (nI 2)])), (rr, .inl (y 0, 4096, .inl f9))]) [1, 2] rfl
  have hDc := hD.sub (ws' := [(bb, .inr (4, [.ref rr, w15, .int (nI 2)])), (rr, .inl (y 0, 4096, .inl f9))]) [1, 2] (by decide) rfl
  have hFc := va_free (wc := [(bb, .inr (4, [.ref rr, w15, .int (nI 2)])), (rr, .inl (y 0, 4096, .inl f9))]) hD hS hA [1, 2] rfl
  refine va_callv (va_runV (As := [.int v12]) (rest := []) ⟨hx, hb, hml, hown, hts⟩ (c_X0_push l D y H.size bb rr 4096 2 w15 f9 v12 (by decide) (by decide)) (cwV 1 hts gv_c_X11_add_7_c_X0_push_90 rfl rfl rfl (by decide +kernel) ⟨(Nat.le_of_ble_eq_true rfl), (Nat.le_of_ble_eq_true rfl)⟩) (zB.preV hPc hDc hK hN hE hO hT hG hS hFc (fun _ h => nomatch h) (fun _ h => nomatch h) (fun _ h => nomatch h) (fun _ h => nomatch h) (va_recv hK hPc (ci := 4) (q0 := 0) rfl rfl)) rfl rfl hl.1 rfl (lv_room (Nat.le_of_ble_eq_true rfl)) dX11_add_49 ⟨(Nat.le_of_ble_eq_true rfl), (Nat.le_of_ble_eq_true rfl)⟩) hS (fun q _ h => hFc q h) hFc (fun u t H1 locs ht hvm hw hB hz1 hk1 hS => ?_)
  obtain ⟨f13, hP1, hD1⟩ := hB
  rw [ht] at hP1
  obtain ⟨hP, hD⟩ := va_join (wr := [(h0, .inr (15, [.ref bb, w1, w2, w3, w4, w5, w6, w7, w8, w9, w10, w11, w12, w13, w14]))]) (w1 := [(bb, .inr (4, [.ref rr, w15, .int (nI 3)])), (rr, .inl (y 0, 4096, .inl f13))]) hP hD [1, 2] [0] rfl rfl (by decide) (by decide) hk1 hFc hP1 hD1
  generalize H1 = H at hP hS ⊢
  have hP : va_P D vwCl [(h0, .inr (15, [.ref bb, w1, w2, w3, w4, w5, w6, w7, w8, w9, w10, w11, w12, w13, w14])), (bb, .inr (4, [.ref rr, w15, .int (nI 3)])), (rr, .inl (y 0, 4096, .inl f13))] H := hP
  have hD : va_D A [(h0, .inr (15, [.ref bb, w1, w2, w3, w4, w5, w6, w7, w8, w9, w10, w11, w12, w13, w14])), (bb, .inr (4, [.ref rr, w15, .int (nI 3)])), (rr, .inl (y 0, 4096, .inl f13))] := hD
  refine lv_iinc (v := 3) (lv' := [(4, .int 3), (0, .ref h0), (1, .long wd), (3, .int 7)]) hx hb dX11_add_52 hl (k := 0) rfl (by decide) (by decide) rfl (fun ls hl => ?_)
  refine lv_goto (tgt := 31) hx hb dX11_add_55 (by decide) ?_
  refine lv_iload hx hb dX11_add_31 (lv_at hl 0 rfl) ?_
  refine lv_iload_n hx hb dX11_add_33 rfl (lv_at hl 3 rfl) ?_
  refine lv_icmp_ge (tgt := 58) hx hb dX11_add_34 (by decide) (fun c9 => absurd c9 (by decide)) (fun _ => ?_)
  refine lv_aload_n hx hb dX11_add_37 rfl (lv_at hl 1 rfl) ?_
  refine va_get (D := D) (ci := 15) (v := .ref bb) (C := RX11) (T := TX11) (N := 15) hx hb hts (by decide +kernel) hown hK hP 0 rfl rfl 0 (by decide) (hts (.fieldLink RX11 14 "SignetRing" "bytes" "LSignetRing$Bytes;") (by decide +kernel)) (fun _ h9 => h9) rfl dX11_add_38 ?_
  refine lv_lload_n hx hb dX11_add_41 rfl (lv_at hl 2 rfl) ?_
  refine lv_bipush (v := 8) hx hb dX11_add_42 (by decide) ?_
  refine lv_iload hx hb dX11_add_44 (lv_at hl 0 rfl) ?_
  refine lv_imul hx hb dX11_add_46 ?_
  refine lv_topi (fun v14 ev14 => ?_)
  have ev14 : v14 = 24 := ev14.trans (by decide +kernel)
  subst ev14
  refine lv_lushr hx hb dX11_add_47 rfl ?_
  refine lv_topl (fun v15 _ => ?_)
  refine lv_l2i hx hb dX11_add_48 rfl ?_
  refine lv_topi (fun v16 _ => ?_)
  have hPc := hP.sub (ws' := [(bb, .inr (4, [.ref rr, w15, .int (nI 3)])), (rr, .inl (y 0, 4096, .inl f13))]) [1, 2] rfl
  have hDc := hD.sub (ws' := [(bb, .inr (4, [.ref rr, w15, .int (nI 3)])), (rr, .inl (y 0, 4096, .inl f13))]) [1, 2] (by decide) rfl
  have hFc := va_free (wc := [(bb, .inr (4, [.ref rr, w15, .int (nI 3)])), (rr, .inl (y 0, 4096, .inl f13))]) hD hS hA [1, 2] rfl
  refine va_callv (va_runV (As := [.int v16]) (rest := []) ⟨hx, hb, hml, hown, hts⟩ (c_X0_push l D y H.size bb rr 4096 3 w15 f13 v16 (by decide) (by decide)) (cwV 1 hts gv_c_X11_add_7_c_X0_push_90 rfl rfl rfl (by decide +kernel) ⟨(Nat.le_of_ble_eq_true rfl), (Nat.le_of_ble_eq_true rfl)⟩) (zB.preV hPc hDc hK hN hE hO hT hG hS hFc (fun _ h => nomatch h) (fun _ h => nomatch h) (fun _ h => nomatch h) (fun _ h => nomatch h) (va_recv hK hPc (ci := 4) (q0 := 0) rfl rfl)) rfl rfl hl.1 rfl (lv_room (Nat.le_of_ble_eq_true rfl)) dX11_add_49 ⟨(Nat.le_of_ble_eq_true rfl), (Nat.le_of_ble_eq_true rfl)⟩) hS (fun q _ h => hFc q h) hFc (fun u t H1 locs ht hvm hw hB hz1 hk1 hS => ?_)
  obtain ⟨f17, hP1, hD1⟩ := hB
  rw [ht] at hP1
  obtain ⟨hP, hD⟩ := va_join (wr := [(h0, .inr (15, [.ref bb, w1, w2, w3, w4, w5, w6, w7, w8, w9, w10, w11, w12, w13, w14]))]) (w1 := [(bb, .inr (4, [.ref rr, w15, .int (nI 4)])), (rr, .inl (y 0, 4096, .inl f17))]) hP hD [1, 2] [0] rfl rfl (by decide) (by decide) hk1 hFc hP1 hD1
  generalize H1 = H at hP hS ⊢
  have hP : va_P D vwCl [(h0, .inr (15, [.ref bb, w1, w2, w3, w4, w5, w6, w7, w8, w9, w10, w11, w12, w13, w14])), (bb, .inr (4, [.ref rr, w15, .int (nI 4)])), (rr, .inl (y 0, 4096, .inl f17))] H := hP
  have hD : va_D A [(h0, .inr (15, [.ref bb, w1, w2, w3, w4, w5, w6, w7, w8, w9, w10, w11, w12, w13, w14])), (bb, .inr (4, [.ref rr, w15, .int (nI 4)])), (rr, .inl (y 0, 4096, .inl f17))] := hD
  refine lv_iinc (v := 4) (lv' := [(4, .int 4), (0, .ref h0), (1, .long wd), (3, .int 7)]) hx hb dX11_add_52 hl (k := 0) rfl (by decide) (by decide) rfl (fun ls hl => ?_)
  refine lv_goto (tgt := 31) hx hb dX11_add_55 (by decide) ?_
  refine lv_iload hx hb dX11_add_31 (lv_at hl 0 rfl) ?_
  refine lv_iload_n hx hb dX11_add_33 rfl (lv_at hl 3 rfl) ?_
  refine lv_icmp_ge (tgt := 58) hx hb dX11_add_34 (by decide) (fun c9 => absurd c9 (by decide)) (fun _ => ?_)
  refine lv_aload_n hx hb dX11_add_37 rfl (lv_at hl 1 rfl) ?_
  refine va_get (D := D) (ci := 15) (v := .ref bb) (C := RX11) (T := TX11) (N := 15) hx hb hts (by decide +kernel) hown hK hP 0 rfl rfl 0 (by decide) (hts (.fieldLink RX11 14 "SignetRing" "bytes" "LSignetRing$Bytes;") (by decide +kernel)) (fun _ h9 => h9) rfl dX11_add_38 ?_
  refine lv_lload_n hx hb dX11_add_41 rfl (lv_at hl 2 rfl) ?_
  refine lv_bipush (v := 8) hx hb dX11_add_42 (by decide) ?_
  refine lv_iload hx hb dX11_add_44 (lv_at hl 0 rfl) ?_
  refine lv_imul hx hb dX11_add_46 ?_
  refine lv_topi (fun v18 ev18 => ?_)
  have ev18 : v18 = 32 := ev18.trans (by decide +kernel)
  subst ev18
  refine lv_lushr hx hb dX11_add_47 rfl ?_
  refine lv_topl (fun v19 _ => ?_)
  refine lv_l2i hx hb dX11_add_48 rfl ?_
  refine lv_topi (fun v20 _ => ?_)
  have hPc := hP.sub (ws' := [(bb, .inr (4, [.ref rr, w15, .int (nI 4)])), (rr, .inl (y 0, 4096, .inl f17))]) [1, 2] rfl
  have hDc := hD.sub (ws' := [(bb, .inr (4, [.ref rr, w15, .int (nI 4)])), (rr, .inl (y 0, 4096, .inl f17))]) [1, 2] (by decide) rfl
  have hFc := va_free (wc := [(bb, .inr (4, [.ref rr, w15, .int (nI 4)])), (rr, .inl (y 0, 4096, .inl f17))]) hD hS hA [1, 2] rfl
  refine va_callv (va_runV (As := [.int v20]) (rest := []) ⟨hx, hb, hml, hown, hts⟩ (c_X0_push l D y H.size bb rr 4096 4 w15 f17 v20 (by decide) (by decide)) (cwV 1 hts gv_c_X11_add_7_c_X0_push_90 rfl rfl rfl (by decide +kernel) ⟨(Nat.le_of_ble_eq_true rfl), (Nat.le_of_ble_eq_true rfl)⟩) (zB.preV hPc hDc hK hN hE hO hT hG hS hFc (fun _ h => nomatch h) (fun _ h => nomatch h) (fun _ h => nomatch h) (fun _ h => nomatch h) (va_recv hK hPc (ci := 4) (q0 := 0) rfl rfl)) rfl rfl hl.1 rfl (lv_room (Nat.le_of_ble_eq_true rfl)) dX11_add_49 ⟨(Nat.le_of_ble_eq_true rfl), (Nat.le_of_ble_eq_true rfl)⟩) hS (fun q _ h => hFc q h) hFc (fun u t H1 locs ht hvm hw hB hz1 hk1 hS => ?_)
  obtain ⟨f21, hP1, hD1⟩ := hB
  rw [ht] at hP1
  obtain ⟨hP, hD⟩ := va_join (wr := [(h0, .inr (15, [.ref bb, w1, w2, w3, w4, w5, w6, w7, w8, w9, w10, w11, w12, w13, w14]))]) (w1 := [(bb, .inr (4, [.ref rr, w15, .int (nI 5)])), (rr, .inl (y 0, 4096, .inl f21))]) hP hD [1, 2] [0] rfl rfl (by decide) (by decide) hk1 hFc hP1 hD1
  generalize H1 = H at hP hS ⊢
  have hP : va_P D vwCl [(h0, .inr (15, [.ref bb, w1, w2, w3, w4, w5, w6, w7, w8, w9, w10, w11, w12, w13, w14])), (bb, .inr (4, [.ref rr, w15, .int (nI 5)])), (rr, .inl (y 0, 4096, .inl f21))] H := hP
  have hD : va_D A [(h0, .inr (15, [.ref bb, w1, w2, w3, w4, w5, w6, w7, w8, w9, w10, w11, w12, w13, w14])), (bb, .inr (4, [.ref rr, w15, .int (nI 5)])), (rr, .inl (y 0, 4096, .inl f21))] := hD
  refine lv_iinc (v := 5) (lv' := [(4, .int 5), (0, .ref h0), (1, .long wd), (3, .int 7)]) hx hb dX11_add_52 hl (k := 0) rfl (by decide) (by decide) rfl (fun ls hl => ?_)
  refine lv_goto (tgt := 31) hx hb dX11_add_55 (by decide) ?_
  refine lv_iload hx hb dX11_add_31 (lv_at hl 0 rfl) ?_
  refine lv_iload_n hx hb dX11_add_33 rfl (lv_at hl 3 rfl) ?_
  refine lv_icmp_ge (tgt := 58) hx hb dX11_add_34 (by decide) (fun c9 => absurd c9 (by decide)) (fun _ => ?_)
  refine lv_aload_n hx hb dX11_add_37 rfl (lv_at hl 1 rfl) ?_
  refine va_get (D := D) (ci := 15) (v := .ref bb) (C := RX11) (T := TX11) (N := 15) hx hb hts (by decide +kernel) hown hK hP 0 rfl rfl 0 (by decide) (hts (.fieldLink RX11 14 "SignetRing" "bytes" "LSignetRing$Bytes;") (by decide +kernel)) (fun _ h9 => h9) rfl dX11_add_38 ?_
  refine lv_lload_n hx hb dX11_add_41 rfl (lv_at hl 2 rfl) ?_
  refine lv_bipush (v := 8) hx hb dX11_add_42 (by decide) ?_
  refine lv_iload hx hb dX11_add_44 (lv_at hl 0 rfl) ?_
  refine lv_imul hx hb dX11_add_46 ?_
  refine lv_topi (fun v22 ev22 => ?_)
  have ev22 : v22 = 40 := ev22.trans (by decide +kernel)
  subst ev22
  refine lv_lushr hx hb dX11_add_47 rfl ?_
  refine lv_topl (fun v23 _ => ?_)
  refine lv_l2i hx hb dX11_add_48 rfl ?_
  refine lv_topi (fun v24 _ => ?_)
  have hPc := hP.sub (ws' := [(bb, .inr (4, [.ref rr, w15, .int (nI 5)])), (rr, .inl (y 0, 4096, .inl f21))]) [1, 2] rfl
  have hDc := hD.sub (ws' := [(bb, .inr (4, [.ref rr, w15, .int (nI 5)])), (rr, .inl (y 0, 4096, .inl f21))]) [1, 2] (by decide) rfl
  have hFc := va_free (wc := [(bb, .inr (4, [.ref rr, w15, .int (nI 5)])), (rr, .inl (y 0, 4096, .inl f21))]) hD hS hA [1, 2] rfl
  refine va_callv (va_runV (As := [.int v24]) (rest := []) ⟨hx, hb, hml, hown, hts⟩ (c_X0_push l D y H.size bb rr 4096 5 w15 f21 v24 (by decide) (by decide)) (cwV 1 hts gv_c_X11_add_7_c_X0_push_90 rfl rfl rfl (by decide +kernel) ⟨(Nat.le_of_ble_eq_true rfl), (Nat.le_of_ble_eq_true rfl)⟩) (zB.preV hPc hDc hK hN hE hO hT hG hS hFc (fun _ h => nomatch h) (fun _ h => nomatch h) (fun _ h => nomatch h) (fun _ h => nomatch h) (va_recv hK hPc (ci := 4) (q0 := 0) rfl rfl)) rfl rfl hl.1 rfl (lv_room (Nat.le_of_ble_eq_true rfl)) dX11_add_49 ⟨(Nat.le_of_ble_eq_true rfl), (Nat.le_of_ble_eq_true rfl)⟩) hS (fun q _ h => hFc q h) hFc (fun u t H1 locs ht hvm hw hB hz1 hk1 hS => ?_)
  obtain ⟨f25, hP1, hD1⟩ := hB
  rw [ht] at hP1
  obtain ⟨hP, hD⟩ := va_join (wr := [(h0, .inr (15, [.ref bb, w1, w2, w3, w4, w5, w6, w7, w8, w9, w10, w11, w12, w13, w14]))]) (w1 := [(bb, .inr (4, [.ref rr, w15, .int (nI 6)])), (rr, .inl (y 0, 4096, .inl f25))]) hP hD [1, 2] [0] rfl rfl (by decide) (by decide) hk1 hFc hP1 hD1
  generalize H1 = H at hP hS ⊢
  have hP : va_P D vwCl [(h0, .inr (15, [.ref bb, w1, w2, w3, w4, w5, w6, w7, w8, w9, w10, w11, w12, w13, w14])), (bb, .inr (4, [.ref rr, w15, .int (nI 6)])), (rr, .inl (y 0, 4096, .inl f25))] H := hP
  have hD : va_D A [(h0, .inr (15, [.ref bb, w1, w2, w3, w4, w5, w6, w7, w8, w9, w10, w11, w12, w13, w14])), (bb, .inr (4, [.ref rr, w15, .int (nI 6)])), (rr, .inl (y 0, 4096, .inl f25))] := hD
  refine lv_iinc (v := 6) (lv' := [(4, .int 6), (0, .ref h0), (1, .long wd), (3, .int 7)]) hx hb dX11_add_52 hl (k := 0) rfl (by decide) (by decide) rfl (fun ls hl => ?_)
  refine lv_goto (tgt := 31) hx hb dX11_add_55 (by decide) ?_
  refine lv_iload hx hb dX11_add_31 (lv_at hl 0 rfl) ?_
  refine lv_iload_n hx hb dX11_add_33 rfl (lv_at hl 3 rfl) ?_
  refine lv_icmp_ge (tgt := 58) hx hb dX11_add_34 (by decide) (fun c9 => absurd c9 (by decide)) (fun _ => ?_)
  refine lv_aload_n hx hb dX11_add_37 rfl (lv_at hl 1 rfl) ?_
  refine va_get (D := D) (ci := 15) (v := .ref bb) (C := RX11) (T := TX11) (N := 15) hx hb hts (by decide +kernel) hown hK hP 0 rfl rfl 0 (by decide) (hts (.fieldLink RX11 14 "SignetRing" "bytes" "LSignetRing$Bytes;") (by decide +kernel)) (fun _ h9 => h9) rfl dX11_add_38 ?_
  refine lv_lload_n hx hb dX11_add_41 rfl (lv_at hl 2 rfl) ?_
  refine lv_bipush (v := 8) hx hb dX11_add_42 (by decide) ?_
  refine lv_iload hx hb dX11_add_44 (lv_at hl 0 rfl) ?_
  refine lv_imul hx hb dX11_add_46 ?_
  refine lv_topi (fun v26 ev26 => ?_)
  have ev26 : v26 = 48 := ev26.trans (by decide +kernel)
  subst ev26
  refine lv_lushr hx hb dX11_add_47 rfl ?_
  refine lv_topl (fun v27 _ => ?_)
  refine lv_l2i hx hb dX11_add_48 rfl ?_
  refine lv_topi (fun v28 _ => ?_)
  have hPc := hP.sub (ws' := [(bb, .inr (4, [.ref rr, w15, .int (nI 6)])), (rr, .inl (y 0, 4096, .inl f25))]) [1, 2] rfl
  have hDc := hD.sub (ws' := [(bb, .inr (4, [.ref rr, w15, .int (nI 6)])), (rr, .inl (y 0, 4096, .inl f25))]) [1, 2] (by decide) rfl
  have hFc := va_free (wc := [(bb, .inr (4, [.ref rr, w15, .int (nI 6)])), (rr, .inl (y 0, 4096, .inl f25))]) hD hS hA [1, 2] rfl
  refine va_callv (va_runV (As := [.int v28]) (rest := []) ⟨hx, hb, hml, hown, hts⟩ (c_X0_push l D y H.size bb rr 4096 6 w15 f25 v28 (by decide) (by decide)) (cwV 1 hts gv_c_X11_add_7_c_X0_push_90 rfl rfl rfl (by decide +kernel) ⟨(Nat.le_of_ble_eq_true rfl), (Nat.le_of_ble_eq_true rfl)⟩) (zB.preV hPc hDc hK hN hE hO hT hG hS hFc (fun _ h => nomatch h) (fun _ h => nomatch h) (fun _ h => nomatch h) (fun _ h => nomatch h) (va_recv hK hPc (ci := 4) (q0 := 0) rfl rfl)) rfl rfl hl.1 rfl (lv_room (Nat.le_of_ble_eq_true rfl)) dX11_add_49 ⟨(Nat.le_of_ble_eq_true rfl), (Nat.le_of_ble_eq_true rfl)⟩) hS (fun q _ h => hFc q h) hFc (fun u t H1 locs ht hvm hw hB hz1 hk1 hS => ?_)
  obtain ⟨f29, hP1, hD1⟩ := hB
  rw [ht] at hP1
  obtain ⟨hP, hD⟩ := va_join (wr := [(h0, .inr (15, [.ref bb, w1, w2, w3, w4, w5, w6, w7, w8, w9, w10, w11, w12, w13, w14]))]) (w1 := [(bb, .inr (4, [.ref rr, w15, .int (nI 7)])), (rr, .inl (y 0, 4096, .inl f29))]) hP hD [1, 2] [0] rfl rfl (by decide) (by decide) hk1 hFc hP1 hD1
  generalize H1 = H at hP hS ⊢
  have hP : va_P D vwCl [(h0, .inr (15, [.ref bb, w1, w2, w3, w4, w5, w6, w7, w8, w9, w10, w11, w12, w13, w14])), (bb, .inr (4, [.ref rr, w15, .int (nI 7)])), (rr, .inl (y 0, 4096, .inl f29))] H := hP
  have hD : va_D A [(h0, .inr (15, [.ref bb, w1, w2, w3, w4, w5, w6, w7, w8, w9, w10, w11, w12, w13, w14])), (bb, .inr (4, [.ref rr, w15, .int (nI 7)])), (rr, .inl (y 0, 4096, .inl f29))] := hD
  refine lv_iinc (v := 7) (lv' := [(4, .int 7), (0, .ref h0), (1, .long wd), (3, .int 7)]) hx hb dX11_add_52 hl (k := 0) rfl (by decide) (by decide) rfl (fun ls hl => ?_)
  refine lv_goto (tgt := 31) hx hb dX11_add_55 (by decide) ?_
  refine lv_iload hx hb dX11_add_31 (lv_at hl 0 rfl) ?_
  refine lv_iload_n hx hb dX11_add_33 rfl (lv_at hl 3 rfl) ?_
  refine lv_icmp_ge (tgt := 58) hx hb dX11_add_34 (by decide) (fun _ => ?_) (fun c9 => absurd (by decide) c9)
  refine lv_iconst (v := 1) hx hb dX11_add_58 (by decide) ?_
  have hP9 := hP.sub (ws' := [(h0, .inr (15, [.ref bb, w1, w2, w3, w4, w5, w6, w7, w8, w9, w10, w11, w12, w13, w14])), (bb, .inr (4, [.ref rr, w15, .int (nI 7)])), (rr, .inl (y 0, 4096, .inl f29))]) [0, 1, 2] rfl
  have hD9 := hD.sub (ws' := [(h0, .inr (15, [.ref bb, w1, w2, w3, w4, w5, w6, w7, w8, w9, w10, w11, w12, w13, w14])), (bb, .inr (4, [.ref rr, w15, .int (nI 7)])), (rr, .inl (y 0, 4096, .inl f29))]) [0, 1, 2] (by decide) rfl
  refine W.widen (k := 0) (n := 0) (Nat.le_of_ble_eq_true rfl) (Nat.le_of_ble_eq_true rfl) ?_
  exact W.zret (v := 1) hx hb hr (by decide) (fun t ht hW => ⟨⟨1, (), rfl, rfl, f29, by rw [ht]; exact hP9, hD9⟩, hS.F ht⟩) hS.2.2 dX11_add_59
def wz_c_X11_add_8 : List Cond := .code yX11_add cX11_add 5 (some .boolean) :: ([.fieldLink RX11 14 "SignetRing" "bytes" "LSignetRing$Bytes;", .fieldLink RX11 86 "SignetRing$Bytes" "size" "I", .sameField "SignetRing$Bytes" "SignetRing$Span" "size" "I", .methodLink RX11 90 yX0_push, .instanceMethod yX0_push, .selects RX0 yX0_push yX0_push, .initialized RX0] ++ (wsX110 ++ (wsX00 ++ (wz_c_X0_push ++ ([])))))
set_option maxRecDepth 100000 in
theorem gz_c_X11_add_8_c_X0_push : GoodIn wz_c_X11_add_8 wz_c_X0_push := goodIn_sub (fun w h => List.mem_cons_of_mem _ (List.mem_append_right _ (List.mem_append_right _ (List.mem_append_right _ (List.mem_append_left _ h))))) (by decide +kernel)
set_option maxRecDepth 100000 in
theorem gv_c_X11_add_8_c_X0_push_90 : GoodIn wz_c_X11_add_8 (wsV RX11 90 RX0 yX0_push wz_c_X0_push) := goodIn_app (goodIn_of _ (by decide +kernel)) gz_c_X11_add_8_c_X0_push
set_option maxHeartbeats 4000000 in
set_option maxRecDepth 100000 in
theorem c_X11_add_8 (l : Launch) (D : va_G) (y : Nat → ClassId) (sz : Nat) (h0 : Nat) (bb : Nat) (rr : Nat) (w1 : Value) (w2 : Value) (w3 : Value) (w4 : Value) (w5 : Value) (w6 : Value) (w7 : Value) (w8 : Value) (w9 : Value) (w10 : Value) (w11 : Value) (w12 : Value) (w13 : Value) (w14 : Value) (w15 : Value) (f : Nat → Int32) (wd : Int64) : Met l yX11_add wz_c_X11_add_8 ({ frames := 1, cells := 0, slots := 0, locals := 21 }) (va_Pc [.ref h0, .long wd, .int 8] (zB D y [(h0, .inr (15, [.ref bb, w1, w2, w3, w4, w5, w6, w7, w8, w9, w10, w11, w12, w13, w14])), (bb, .inr (4, [.ref rr, w15, .int (nI 0)])), (rr, .inl (y 0, 4096, .inl f))] sz [] [] [] [])) (va_Qi (fun (r : Int32) (_ : Unit) => r = 1) (fun _ t => ∃ fz0 : Nat → Int32, va_P D vwCl [(h0, .inr (15, [.ref bb, w1, w2, w3, w4, w5, w6, w7, w8, w9, w10, w11, w12, w13, w14])), (bb, .inr (4, [.ref rr, w15, .int (nI 8)])), (rr, .inl (y 0, 4096, .inl fz0))] t.heap ∧ va_D (va_A [(h0, .inr (15, [.ref bb, w1, w2, w3, w4, w5, w6, w7, w8, w9, w10, w11, w12, w13, w14])), (bb, .inr (4, [.ref rr, w15, .int (nI 0)])), (rr, .inl (y 0, 4096, .inl f))] sz) [(h0, .inr (15, [.ref bb, w1, w2, w3, w4, w5, w6, w7, w8, w9, w10, w11, w12, w13, w14])), (bb, .inr (4, [.ref rr, w15, .int (nI 8)])), (rr, .inl (y 0, 4096, .inl fz0))]) (va_A [(h0, .inr (15, [.ref bb, w1, w2, w3, w4, w5, w6, w7, w8, w9, w10, w11, w12, w13, w14])), (bb, .inr (4, [.ref rr, w15, .int (nI 0)])), (rr, .inl (y 0, 4096, .inl f))] sz)) 0 0 (va_A [(h0, .inr (15, [.ref bb, w1, w2, w3, w4, w5, w6, w7, w8, w9, w10, w11, w12, w13, w14])), (bb, .inr (4, [.ref rr, w15, .int (nI 0)])), (rr, .inl (y 0, 4096, .inl f))] sz) := by
  refine Met.ofW (cc := cX11_add) (maxL := 5) (ret := (some .boolean)) (by decide) rfl ?_
  intro p e s m args below meth c s₁ B hml hv
  obtain ⟨rfl, hsz, hP, hK, hD0, hN, hE, hO, hT, hG⟩ := hv
  have hx := B.exec
  have hb := B.bytes
  have hr := B.returns
  have hts := atoms_spec (ws := wz_c_X11_add_8) B.pre
  have hown : s.vm.findClass RX11 = some m.cls := findClass_of_methodNamed B.named
  have hlocks := B.notSynchronized
  subst hsz
  have hD := hD0.self (sz := s.heap.size)
  generalize hAe : va_A [(h0, .inr (15, [.ref bb, w1, w2, w3, w4, w5, w6, w7, w8, w9, w10, w11, w12, w13, w14])), (bb, .inr (4, [.ref rr, w15, .int (nI 0)])), (rr, .inl (y 0, 4096, .inl f))] s.heap.size = A at hD hE hT hG ⊢
  have hA : ∀ q : Nat, s.heap.size ≤ q → A q := fun q h => by rw [← hAe]; exact Or.inr h
  have hS : va_S A s.heap s.heap [] := va_S.rf
  have hl := lv_entry ([.ref h0, .long wd, .int 8]) (n := 5) (Nat.le_of_ble_eq_true rfl)
  rw [lg_entry_eq]
  generalize (lg_sl ([.ref h0, .long wd, .int 8]) ++ List.replicate (5 - (lg_sl ([.ref h0, .long wd, .int 8])).length) Slot.unset).toArray = ls at hl ⊢
  have hl : lv_has ls 5 [(0, .ref h0), (1, .long wd), (3, .int 8)] := hl
  refine lv_iload_n hx hb dX11_add_0 rfl (lv_at hl 2 rfl) ?_
  refine lv_iconst (v := 1) hx hb dX11_add_1 (by decide) ?_
  refine lv_icmp_lt (tgt := 26) hx hb dX11_add_2 (by decide) (fun c9 => absurd c9 (by decide)) (fun _ => ?_)
  refine lv_iload_n hx hb dX11_add_5 rfl (lv_at hl 2 rfl) ?_
  refine lv_bipush (v := 8) hx hb dX11_add_6 (by decide) ?_
  refine lv_icmp_gt (tgt := 26) hx hb dX11_add_8 (by decide) (fun c9 => absurd c9 (by decide)) (fun _ => ?_)
  refine lv_aload_n hx hb dX11_add_11 rfl (lv_at hl 0 rfl) ?_
  refine va_get (D := D) (ci := 15) (v := .ref bb) (C := RX11) (T := TX11) (N := 15) hx hb hts (by decide +kernel) hown hK hP 0 rfl rfl 0 (by decide) (hts (.fieldLink RX11 14 "SignetRing" "bytes" "LSignetRing$Bytes;") (by decide +kernel)) (fun _ h9 => h9) rfl dX11_add_12 ?_
  refine va_get (D := D) (ci := 4) (v := .int (nI 0)) (C := RX0) (T := TX0) (N := 3) hx hb hts (by decide +kernel) hown hK hP 1 rfl rfl 2 (by decide) (hts (.fieldLink RX11 86 "SignetRing$Bytes" "size" "I") (by decide +kernel)) (u_same (hts (.sameField "SignetRing$Bytes" "SignetRing$Span" "size" "I") (by decide +kernel))) rfl dX11_add_15 ?_
  refine lv_iload_n hx hb dX11_add_18 rfl (lv_at hl 2 rfl) ?_
  refine lv_iadd hx hb dX11_add_19 ?_
  refine lv_topi (fun v1 ev1 => ?_)
  have ev1 : v1 = 8 := ev1.trans (by decide +kernel)
  subst ev1
  refine lv_sipush (v := 4096) hx hb dX11_add_20 (by decide) ?_
  refine lv_icmp_le (tgt := 28) hx hb dX11_add_23 (by decide) (fun _ => ?_) (fun c9 => absurd (by decide) c9)
  refine lv_iconst (v := 0) hx hb dX11_add_28 (by decide) ?_
  refine lv_istore (lv' := [(4, .int 0), (0, .ref h0), (1, .long wd), (3, .int 8)]) hx hb dX11_add_29 hl (by decide) rfl (fun ls hl => ?_)
  refine lv_iload hx hb dX11_add_31 (lv_at hl 0 rfl) ?_
  refine lv_iload_n hx hb dX11_add_33 rfl (lv_at hl 3 rfl) ?_
  refine lv_icmp_ge (tgt := 58) hx hb dX11_add_34 (by decide) (fun c9 => absurd c9 (by decide)) (fun _ => ?_)
  refine lv_aload_n hx hb dX11_add_37 rfl (lv_at hl 1 rfl) ?_
  refine va_get (D := D) (ci := 15) (v := .ref bb) (C := RX11) (T := TX11) (N := 15) hx hb hts (by decide +kernel) hown hK hP 0 rfl rfl 0 (by decide) (hts (.fieldLink RX11 14 "SignetRing" "bytes" "LSignetRing$Bytes;") (by decide +kernel)) (fun _ h9 => h9) rfl dX11_add_38 ?_
  refine lv_lload_n hx hb dX11_add_41 rfl (lv_at hl 2 rfl) ?_
  refine lv_bipush (v := 8) hx hb dX11_add_42 (by decide) ?_
  refine lv_iload hx hb dX11_add_44 (lv_at hl 0 rfl) ?_
  refine lv_imul hx hb dX11_add_46 ?_
  refine lv_topi (fun v2 ev2 => ?_)
  have ev2 : v2 = 0 := ev2.trans (by decide +kernel)
  subst ev2
  refine lv_lushr hx hb dX11_add_47 rfl ?_
  refine lv_topl (fun v3 _ => ?_)
  refine lv_l2i hx hb dX11_add_48 rfl ?_
  refine lv_topi (fun v4 _ => ?_)
  have hPc := hP.sub (ws' := [(bb, .inr (4, [.ref rr, w15, .int (nI 0)])), (rr, .inl (y 0, 4096, .inl f))]) [1, 2] rfl
  have hDc := hD.sub (ws' := [(bb, .inr (4, [.ref rr, w15, .int (nI 0)])), (rr, .inl (y 0, 4096, .inl f))]) [1, 2] (by decide) rfl
  have hFc := va_free (wc := [(bb, .inr (4, [.ref rr, w15, .int (nI 0)])), (rr, .inl (y 0, 4096, .inl f))]) hD hS hA [1, 2] rfl
  refine va_callv (va_runV (As := [.int v4]) (rest := []) ⟨hx, hb, hml, hown, hts⟩ (c_X0_push l D y s.heap.size bb rr 4096 0 w15 f v4 (by decide) (by decide)) (cwV 1 hts gv_c_X11_add_8_c_X0_push_90 rfl rfl rfl (by decide +kernel) ⟨(Nat.le_of_ble_eq_true rfl), (Nat.le_of_ble_eq_true rfl)⟩) (zB.preV hPc hDc hK hN hE hO hT hG hS hFc (fun _ h => nomatch h) (fun _ h => nomatch h) (fun _ h => nomatch h) (fun _ h => nomatch h) (va_recv hK hPc (ci := 4) (q0 := 0) rfl rfl)) rfl rfl hl.1 rfl (lv_room (Nat.le_of_ble_eq_true rfl)) dX11_add_49 ⟨(Nat.le_of_ble_eq_true rfl), (Nat.le_of_ble_eq_true rfl)⟩) hS (fun q _ h => hFc q h) hFc (fun u t H1 locs ht hvm hw hB hz1 hk1 hS => ?_)
  obtain ⟨f5, hP1, hD1⟩ := hB
  rw [ht] at hP1
  obtain ⟨hP, hD⟩ := va_join (wr := [(h0, .inr (15, [.ref bb, w1, w2, w3, w4, w5, w6, w7, w8, w9, w10, w11, w12, w13, w14]))]) (w1 := [(bb, .inr (4, [.ref rr, w15, .int (nI 1)])), (rr, .inl (y 0, 4096, .inl f5))]) hP hD [1, 2] [0] rfl rfl (by decide) (by decide) hk1 hFc hP1 hD1
  generalize H1 = H at hP hS ⊢
  have hP : va_P D vwCl [(h0, .inr (15, [.ref bb, w1, w2, w3, w4, w5, w6, w7, w8, w9, w10, w11, w12, w13, w14])), (bb, .inr (4, [.ref rr, w15, .int (nI 1)])), (rr, .inl (y 0, 4096, .inl f5))] H := hP
  have hD : va_D A [(h0, .inr (15, [.ref bb, w1, w2, w3, w4, w5, w6, w7, w8, w9, w10, w11, w12, w13, w14])), (bb, .inr (4, [.ref rr, w15, .int (nI 1)])), (rr, .inl (y 0, 4096, .inl f5))] := hD
  refine lv_iinc (v := 1) (lv' := [(4, .int 1), (0, .ref h0), (1, .long wd), (3, .int 8)]) hx hb dX11_add_52 hl (k := 0) rfl (by decide) (by decide) rfl (fun ls hl => ?_)
  refine lv_goto (tgt := 31) hx hb dX11_add_55 (by decide) ?_
  refine lv_iload hx hb dX11_add_31 (lv_at hl 0 rfl) ?_
  refine lv_iload_n hx hb dX11_add_33 rfl (lv_at hl 3 rfl) ?_
  refine lv_icmp_ge (tgt := 58) hx hb dX11_add_34 (by decide) (fun c9 => absurd c9 (by decide)) (fun _ => ?_)
  refine lv_aload_n hx hb dX11_add_37 rfl (lv_at hl 1 rfl) ?_
  refine va_get (D := D) (ci := 15) (v := .ref bb) (C := RX11) (T := TX11) (N := 15) hx hb hts (by decide +kernel) hown hK hP 0 rfl rfl 0 (by decide) (hts (.fieldLink RX11 14 "SignetRing" "bytes" "LSignetRing$Bytes;") (by decide +kernel)) (fun _ h9 => h9) rfl dX11_add_38 ?_
  refine lv_lload_n hx hb dX11_add_41 rfl (lv_at hl 2 rfl) ?_
  refine lv_bipush (v := 8) hx hb dX11_add_42 (by decide) ?_
  refine lv_iload hx hb dX11_add_44 (lv_at hl 0 rfl) ?_
  refine lv_imul hx hb dX11_add_46 ?_
  refine lv_topi (fun v6 ev6 => ?_)
  have ev6 : v6 = 8 := ev6.trans (by decide +kernel)
  subst ev6
  refine lv_lushr hx hb dX11_add_47 rfl ?_
  refine lv_topl (fun v7 _ => ?_)
  refine lv_l2i hx hb dX11_add_48 rfl ?_
  refine lv_topi (fun v8 _ => ?_)
  have hPc := hP.sub (ws' := [(bb, .inr (4, [.ref rr, w15, .int (nI 1)])), (rr, .inl (y 0, 4096, .inl f5))]) [1, 2] rfl
  have hDc := hD.sub (ws' := [(bb, .inr (4, [.ref rr, w15, .int (nI 1)])), (rr, .inl (y 0, 4096, .inl f5))]) [1, 2] (by decide) rfl
  have hFc := va_free (wc := [(bb, .inr (4, [.ref rr, w15, .int (nI 1)])), (rr, .inl (y 0, 4096, .inl f5))]) hD hS hA [1, 2] rfl
  refine va_callv (va_runV (As := [.int v8]) (rest := []) ⟨hx, hb, hml, hown, hts⟩ (c_X0_push l D y H.size bb rr 4096 1 w15 f5 v8 (by decide) (by decide)) (cwV 1 hts gv_c_X11_add_8_c_X0_push_90 rfl rfl rfl (by decide +kernel) ⟨(Nat.le_of_ble_eq_true rfl), (Nat.le_of_ble_eq_true rfl)⟩) (zB.preV hPc hDc hK hN hE hO hT hG hS hFc (fun _ h => nomatch h) (fun _ h => nomatch h) (fun _ h => nomatch h) (fun _ h => nomatch h) (va_recv hK hPc (ci := 4) (q0 := 0) rfl rfl)) rfl rfl hl.1 rfl (lv_room (Nat.le_of_ble_eq_true rfl)) dX11_add_49 ⟨(Nat.le_of_ble_eq_true rfl), (Nat.le_of_ble_eq_true rfl)⟩) hS (fun q _ h => hFc q h) hFc (fun u t H1 locs ht hvm hw hB hz1 hk1 hS => ?_)
  obtain ⟨f9, hP1, hD1⟩ := hB
  rw [ht] at hP1
  obtain ⟨hP, hD⟩ := va_join (wr := [(h0, .inr (15, [.ref bb, w1, w2, w3, w4, w5, w6, w7, w8, w9, w10, w11, w12, w13, w14]))]) (w1 := [(bb, .inr (4, [.ref rr, w15, .int (nI 2)])), (rr, .inl (y 0, 4096, .inl f9))]) hP hD [1, 2] [0] rfl rfl (by decide) (by decide) hk1 hFc hP1 hD1
  generalize H1 = H at hP hS ⊢
  have hP : va_P D vwCl [(h0, .inr (15, [.ref bb, w1, w2, w3, w4, w5, w6, w7, w8, w9, w10, w11, w12, w13, w14])), (bb, .inr (4, [.ref rr, w15, .int (nI 2)])), (rr, .inl (y 0, 4096, .inl f9))] H := hP
  have hD : va_D A [(h0, .inr (15, [.ref bb, w1, w2, w3, w4, w5, w6, w7, w8, w9, w10, w11, w12, w13, w14])), (bb, .inr (4, [.ref rr, w15, .int (nI 2)])), (rr, .inl (y 0, 4096, .inl f9))] := hD
  refine lv_iinc (v := 2) (lv' := [(4, .int 2), (0, .ref h0), (1, .long wd), (3, .int 8)]) hx hb dX11_add_52 hl (k := 0) rfl (by decide) (by decide) rfl (fun ls hl => ?_)
  refine lv_goto (tgt := 31) hx hb dX11_add_55 (by decide) ?_
  refine lv_iload hx hb dX11_add_31 (lv_at hl 0 rfl) ?_
  refine lv_iload_n hx hb dX11_add_33 rfl (lv_at hl 3 rfl) ?_
  refine lv_icmp_ge (tgt := 58) hx hb dX11_add_34 (by decide) (fun c9 => absurd c9 (by decide)) (fun _ => ?_)
  refine lv_aload_n hx hb dX11_add_37 rfl (lv_at hl 1 rfl) ?_
  refine va_get (D := D) (ci := 15) (v := .ref bb) (C := RX11) (T := TX11) (N := 15) hx hb hts (by decide +kernel) hown hK hP 0 rfl rfl 0 (by decide) (hts (.fieldLink RX11 14 "SignetRing" "bytes" "LSignetRing$Bytes;") (by decide +kernel)) (fun _ h9 => h9) rfl dX11_add_38 ?_
  refine lv_lload_n hx hb dX11_add_41 rfl (lv_at hl 2 rfl) ?_
  refine lv_bipush (v := 8) hx hb dX11_add_42 (by decide) ?_
  refine lv_iload hx hb dX11_add_44 (lv_at hl 0 rfl) ?_
  refine lv_imul hx hb dX11_add_46 ?_
  refine lv_topi (fun v10 ev10 => ?_)
  have ev10 : v10 = 16 := ev10.trans (by decide +kernel)
  subst ev10
  refine lv_lushr hx hb dX11_add_47 rfl ?_
  refine lv_topl (fun v11 _ => ?_)
  refine lv_l2i hx hb dX11_add_48 rfl ?_
  refine lv_topi (fun v12 _ => ?_)
  have hPc := hP.sub (ws' := [(bb, .inr (4, [.ref rr, w15, .int (nI 2)])), (rr, .inl (y 0, 4096, .inl f9))]) [1, 2] rfl
  have hDc := hD.sub (ws' := [(bb, .inr (4, [.ref rr, w15, .int (nI 2)])), (rr, .inl (y 0, 4096, .inl f9))]) [1, 2] (by decide) rfl
  have hFc := va_free (wc := [(bb, .inr (4, [.ref rr, w15, .int (nI 2)])), (rr, .inl (y 0, 4096, .inl f9))]) hD hS hA [1, 2] rfl
  refine va_callv (va_runV (As := [.int v12]) (rest := []) ⟨hx, hb, hml, hown, hts⟩ (c_X0_push l D y H.size bb rr 4096 2 w15 f9 v12 (by decide) (by decide)) (cwV 1 hts gv_c_X11_add_8_c_X0_push_90 rfl rfl rfl (by decide +kernel) ⟨(Nat.le_of_ble_eq_true rfl), (Nat.le_of_ble_eq_true rfl)⟩) (zB.preV hPc hDc hK hN hE hO hT hG hS hFc (fun _ h => nomatch h) (fun _ h => nomatch h) (fun _ h => nomatch h) (fun _ h => nomatch h) (va_recv hK hPc (ci := 4) (q0 := 0) rfl rfl)) rfl rfl hl.1 rfl (lv_room (Nat.le_of_ble_eq_true rfl)) dX11_add_49 ⟨(Nat.le_of_ble_eq_true rfl), (Nat.le_of_ble_eq_true rfl)⟩) hS (fun q _ h => hFc q h) hFc (fun u t H1 locs ht hvm hw hB hz1 hk1 hS => ?_)
  obtain ⟨f13, hP1, hD1⟩ := hB
  rw [ht] at hP1
  obtain ⟨hP, hD⟩ := va_join (wr := [(h0, .inr (15, [.ref bb, w1, w2, w3, w4, w5, w6, w7, w8, w9, w10, w11, w12, w13, w14]))]) (w1 := [(bb, .inr (4, [.ref rr, w15, .int (nI 3)])), (rr, .inl (y 0, 4096, .inl f13))]) hP hD [1, 2] [0] rfl rfl (by decide) (by decide) hk1 hFc hP1 hD1
  generalize H1 = H at hP hS ⊢
  have hP : va_P D vwCl [(h0, .inr (15, [.ref bb, w1, w2, w3, w4, w5, w6, w7, w8, w9, w10, w11, w12, w13, w14])), (bb, .inr (4, [.ref rr, w15, .int (nI 3)])), (rr, .inl (y 0, 4096, .inl f13))] H := hP
  have hD : va_D A [(h0, .inr (15, [.ref bb, w1, w2, w3, w4, w5, w6, w7, w8, w9, w10, w11, w12, w13, w14])), (bb, .inr (4, [.ref rr, w15, .int (nI 3)])), (rr, .inl (y 0, 4096, .inl f13))] := hD
  refine lv_iinc (v := 3) (lv' := [(4, .int 3), (0, .ref h0), (1, .long wd), (3, .int 8)]) hx hb dX11_add_52 hl (k := 0) rfl (by decide) (by decide) rfl (fun ls hl => ?_)
  refine lv_goto (tgt := 31) hx hb dX11_add_55 (by decide) ?_
  refine lv_iload hx hb dX11_add_31 (lv_at hl 0 rfl) ?_
  refine lv_iload_n hx hb dX11_add_33 rfl (lv_at hl 3 rfl) ?_
  refine lv_icmp_ge (tgt := 58) hx hb dX11_add_34 (by decide) (fun c9 => absurd c9 (by decide)) (fun _ => ?_)
  refine lv_aload_n hx hb dX11_add_37 rfl (lv_at hl 1 rfl) ?_
  refine va_get (D := D) (ci := 15) (v := .ref bb) (C := RX11) (T := TX11) (N := 15) hx hb hts (by decide +kernel) hown hK hP 0 rfl rfl 0 (by decide) (hts (.fieldLink RX11 14 "SignetRing" "bytes" "LSignetRing$Bytes;") (by decide +kernel)) (fun _ h9 => h9) rfl dX11_add_38 ?_
  refine lv_lload_n hx hb dX11_add_41 rfl (lv_at hl 2 rfl) ?_
  refine lv_bipush (v := 8) hx hb dX11_add_42 (by decide) ?_
  refine lv_iload hx hb dX11_add_44 (lv_at hl 0 rfl) ?_
  refine lv_imul hx hb dX11_add_46 ?_
  refine lv_topi (fun v14 ev14 => ?_)
  have ev14 : v14 = 24 := ev14.trans (by decide +kernel)
  subst ev14
  refine lv_lushr hx hb dX11_add_47 rfl ?_
  refine lv_topl (fun v15 _ => ?_)
  refine lv_l2i hx hb dX11_add_48 rfl ?_
  refine lv_topi (fun v16 _ => ?_)
  have hPc := hP.sub (ws' := [(bb, .inr (4, [.ref rr, w15, .int (nI 3)])), (rr, .inl (y 0, 4096, .inl f13))]) [1, 2] rfl
  have hDc := hD.sub (ws' := [(bb, .inr (4, [.ref rr, w15, .int (nI 3)])), (rr, .inl (y 0, 4096, .inl f13))]) [1, 2] (by decide) rfl
  have hFc := va_free (wc := [(bb, .inr (4, [.ref rr, w15, .int (nI 3)])), (rr, .inl (y 0, 4096, .inl f13))]) hD hS hA [1, 2] rfl
  refine va_callv (va_runV (As := [.int v16]) (rest := []) ⟨hx, hb, hml, hown, hts⟩ (c_X0_push l D y H.size bb rr 4096 3 w15 f13 v16 (by decide) (by decide)) (cwV 1 hts gv_c_X11_add_8_c_X0_push_90 rfl rfl rfl (by decide +kernel) ⟨(Nat.le_of_ble_eq_true rfl), (Nat.le_of_ble_eq_true rfl)⟩) (zB.preV hPc hDc hK hN hE hO hT hG hS hFc (fun _ h => nomatch h) (fun _ h => nomatch h) (fun _ h => nomatch h) (fun _ h => nomatch h) (va_recv hK hPc (ci := 4) (q0 := 0) rfl rfl)) rfl rfl hl.1 rfl (lv_room (Nat.le_of_ble_eq_true rfl)) dX11_add_49 ⟨(Nat.le_of_ble_eq_true rfl), (Nat.le_of_ble_eq_true rfl)⟩) hS (fun q _ h => hFc q h) hFc (fun u t H1 locs ht hvm hw hB hz1 hk1 hS => ?_)
  obtain ⟨f17, hP1, hD1⟩ := hB
  rw [ht] at hP1
  obtain ⟨hP, hD⟩ := va_join (wr := [(h0, .inr (15, [.ref bb, w1, w2, w3, w4, w5, w6, w7, w8, w9, w10, w11, w12, w13, w14]))]) (w1 := [(bb, .inr (4, [.ref rr, w15, .int (nI 4)])), (rr, .inl (y 0, 4096, .inl f17))]) hP hD [1, 2] [0] rfl rfl (by decide) (by decide) hk1 hFc hP1 hD1
  generalize H1 = H at hP hS ⊢
  have hP : va_P D vwCl [(h0, .inr (15, [.ref bb, w1, w2, w3, w4, w5, w6, w7, w8, w9, w10, w11, w12, w13, w14])), (bb, .inr (4, [.ref rr, w15, .int (nI 4)])), (rr, .inl (y 0, 4096, .inl f17))] H := hP
  have hD : va_D A [(h0, .inr (15, [.ref bb, w1, w2, w3, w4, w5, w6, w7, w8, w9, w10, w11, w12, w13, w14])), (bb, .inr (4, [.ref rr, w15, .int (nI 4)])), (rr, .inl (y 0, 4096, .inl f17))] := hD
  refine lv_iinc (v := 4) (lv' := [(4, .int 4), (0, .ref h0), (1, .long wd), (3, .int 8)]) hx hb dX11_add_52 hl (k := 0) rfl (by decide) (by decide) rfl (fun ls hl => ?_)
  refine lv_goto (tgt := 31) hx hb dX11_add_55 (by decide) ?_
  refine lv_iload hx hb dX11_add_31 (lv_at hl 0 rfl) ?_
  refine lv_iload_n hx hb dX11_add_33 rfl (lv_at hl 3 rfl) ?_
  refine lv_icmp_ge (tgt := 58) hx hb dX11_add_34 (by decide) (fun c9 => absurd c9 (by decide)) (fun _ => ?_)
  refine lv_aload_n hx hb dX11_add_37 rfl (lv_at hl 1 rfl) ?_
  refine va_get (D := D) (ci := 15) (v := .ref bb) (C := RX11) (T := TX11) (N := 15) hx hb hts (by decide +kernel) hown hK hP 0 rfl rfl 0 (by decide) (hts (.fieldLink RX11 14 "SignetRing" "bytes" "LSignetRing$Bytes;") (by decide +kernel)) (fun _ h9 => h9) rfl dX11_add_38 ?_
  refine lv_lload_n hx hb dX11_add_41 rfl (lv_at hl 2 rfl) ?_
  refine lv_bipush (v := 8) hx hb dX11_add_42 (by decide) ?_
  refine lv_iload hx hb dX11_add_44 (lv_at hl 0 rfl) ?_
  refine lv_imul hx hb dX11_add_46 ?_
  refine lv_topi (fun v18 ev18 => ?_)
  have ev18 : v18 = 32 := ev18.trans (by decide +kernel)
  subst ev18
  refine lv_lushr hx hb dX11_add_47 rfl ?_
  refine lv_topl (fun v19 _ => ?_)
  refine lv_l2i hx hb dX11_add_48 rfl ?_
  refine lv_topi (fun v20 _ => ?_)
  have hPc := hP.sub (ws' := [(bb, .inr (4, [.ref rr, w15, .int (nI 4)])), (rr, .inl (y 0, 4096, .inl f17))]) [1, 2] rfl
  have hDc := hD.sub (ws' := [(bb, .inr (4, [.ref rr, w15, .int (nI 4)])), (rr, .inl (y 0, 4096, .inl f17))]) [1, 2] (by decide) rfl
  have hFc := va_free (wc := [(bb, .inr (4, [.ref rr, w15, .int (nI 4)])), (rr, .inl (y 0, 4096, .inl f17))]) hD hS hA [1, 2] rfl
  refine va_callv (va_runV (As := [.int v20]) (rest := []) ⟨hx, hb, hml, hown, hts⟩ (c_X0_push l D y H.size bb rr 4096 4 w15 f17 v20 (by decide) (by decide)) (cwV 1 hts gv_c_X11_add_8_c_X0_push_90 rfl rfl rfl (by decide +kernel) ⟨(Nat.le_of_ble_eq_true rfl), (Nat.le_of_ble_eq_true rfl)⟩) (zB.preV hPc hDc hK hN hE hO hT hG hS hFc (fun _ h => nomatch h) (fun _ h => nomatch h) (fun _ h => nomatch h) (fun _ h => nomatch h) (va_recv hK hPc (ci := 4) (q0 := 0) rfl rfl)) rfl rfl hl.1 rfl (lv_room (Nat.le_of_ble_eq_true rfl)) dX11_add_49 ⟨(Nat.le_of_ble_eq_true rfl), (Nat.le_of_ble_eq_true rfl)⟩) hS (fun q _ h => hFc q h) hFc (fun u t H1 locs ht hvm hw hB hz1 hk1 hS => ?_)
  obtain ⟨f21, hP1, hD1⟩ := hB
  rw [ht] at hP1
  obtain ⟨hP, hD⟩ := va_join (wr := [(h0, .inr (15, [.ref bb, w1, w2, w3, w4, w5, w6, w7, w8, w9, w10, w11, w12, w13, w14]))]) (w1 := [(bb, .inr (4, [.ref rr, w15, .int (nI 5)])), (rr, .inl (y 0, 4096, .inl f21))]) hP hD [1, 2] [0] rfl rfl (by decide) (by decide) hk1 hFc hP1 hD1
  generalize H1 = H at hP hS ⊢
  have hP : va_P D vwCl [(h0, .inr (15, [.ref bb, w1, w2, w3, w4, w5, w6, w7, w8, w9, w10, w11, w12, w13, w14])), (bb, .inr (4, [.ref rr, w15, .int (nI 5)])), (rr, .inl (y 0, 4096, .inl f21))] H := hP
  have hD : va_D A [(h0, .inr (15, [.ref bb, w1, w2, w3, w4, w5, w6, w7, w8, w9, w10, w11, w12, w13, w14])), (bb, .inr (4, [.ref rr, w15, .int (nI 5)])), (rr, .inl (y 0, 4096, .inl f21))] := hD
  refine lv_iinc (v := 5) (lv' := [(4, .int 5), (0, .ref h0), (1, .long wd), (3, .int 8)]) hx hb dX11_add_52 hl (k := 0) rfl (by decide) (by decide) rfl (fun ls hl => ?_)
  refine lv_goto (tgt := 31) hx hb dX11_add_55 (by decide) ?_
  refine lv_iload hx hb dX11_add_31 (lv_at hl 0 rfl) ?_
  refine lv_iload_n hx hb dX11_add_33 rfl (lv_at hl 3 rfl) ?_
  refine lv_icmp_ge (tgt := 58) hx hb dX11_add_34 (by decide) (fun c9 => absurd c9 (by decide)) (fun _ => ?_)
  refine lv_aload_n hx hb dX11_add_37 rfl (lv_at hl 1 rfl) ?_
  refine va_get (D := D) (ci := 15) (v := .ref bb) (C := RX11) (T := TX11) (N := 15) hx hb hts (by decide +kernel) hown hK hP 0 rfl rfl 0 (by decide) (hts (.fieldLink RX11 14 "SignetRing" "bytes" "LSignetRing$Bytes;") (by decide +kernel)) (fun _ h9 => h9) rfl dX11_add_38 ?_
  refine lv_lload_n hx hb dX11_add_41 rfl (lv_at hl 2 rfl) ?_
  refine lv_bipush (v := 8) hx hb dX11_add_42 (by decide) ?_
  refine lv_iload hx hb dX11_add_44 (lv_at hl 0 rfl) ?_
  refine lv_imul hx hb dX11_add_46 ?_
  refine lv_topi (fun v22 ev22 => ?_)
  have ev22 : v22 = 40 := ev22.trans (by decide +kernel)
  subst ev22
  refine lv_lushr hx hb dX11_add_47 rfl ?_
  refine lv_topl (fun v23 _ => ?_)
  refine lv_l2i hx hb dX11_add_48 rfl ?_
  refine lv_topi (fun v24 _ => ?_)
  have hPc := hP.sub (ws' := [(bb, .inr (4, [.ref rr, w15, .int (nI 5)])), (rr, .inl (y 0, 4096, .inl f21))]) [1, 2] rfl
  have hDc := hD.sub (ws' := [(bb, .inr (4, [.ref rr, w15, .int (nI 5)])), (rr, .inl (y 0, 4096, .inl f21))]) [1, 2] (by decide) rfl
  have hFc := va_free (wc := [(bb, .inr (4, [.ref rr, w15, .int (nI 5)])), (rr, .inl (y 0, 4096, .inl f21))]) hD hS hA [1, 2] rfl
  refine va_callv (va_runV (As := [.int v24]) (rest := []) ⟨hx, hb, hml, hown, hts⟩ (c_X0_push l D y H.size bb rr 4096 5 w15 f21 v24 (by decide) (by decide)) (cwV 1 hts gv_c_X11_add_8_c_X0_push_90 rfl rfl rfl (by decide +kernel) ⟨(Nat.le_of_ble_eq_true rfl), (Nat.le_of_ble_eq_true rfl)⟩) (zB.preV hPc hDc hK hN hE hO hT hG hS hFc (fun _ h => nomatch h) (fun _ h => nomatch h) (fun _ h => nomatch h) (fun _ h => nomatch h) (va_recv hK hPc (ci := 4) (q0 := 0) rfl rfl)) rfl rfl hl.1 rfl (lv_room (Nat.le_of_ble_eq_true rfl)) dX11_add_49 ⟨(Nat.le_of_ble_eq_true rfl), (Nat.le_of_ble_eq_true rfl)⟩) hS (fun q _ h => hFc q h) hFc (fun u t H1 locs ht hvm hw hB hz1 hk1 hS => ?_)
  obtain ⟨f25, hP1, hD1⟩ := hB
  rw [ht] at hP1
  obtain ⟨hP, hD⟩ := va_join (wr := [(h0, .inr (15, [.ref bb, w1, w2, w3, w4, w5, w6, w7, w8, w9, w10, w11, w12, w13, w14]))]) (w1 := [(bb, .inr (4, [.ref rr, w15, .int (nI 6)])), (rr, .inl (y 0, 4096, .inl f25))]) hP hD [1, 2] [0] rfl rfl (by decide) (by decide) hk1 hFc hP1 hD1
  generalize H1 = H at hP hS ⊢
  have hP : va_P D vwCl [(h0, .inr (15, [.ref bb, w1, w2, w3, w4, w5, w6, w7, w8, w9, w10, w11, w12, w13, w14])), (bb, .inr (4, [.ref rr, w15, .int (nI 6)])), (rr, .inl (y 0, 4096, .inl f25))] H := hP
  have hD : va_D A [(h0, .inr (15, [.ref bb, w1, w2, w3, w4, w5, w6, w7, w8, w9, w10, w11, w12, w13, w14])), (bb, .inr (4, [.ref rr, w15, .int (nI 6)])), (rr, .inl (y 0, 4096, .inl f25))] := hD
  refine lv_iinc (v := 6) (lv' := [(4, .int 6), (0, .ref h0), (1, .long wd), (3, .int 8)]) hx hb dX11_add_52 hl (k := 0) rfl (by decide) (by decide) rfl (fun ls hl => ?_)
  refine lv_goto (tgt := 31) hx hb dX11_add_55 (by decide) ?_
  refine lv_iload hx hb dX11_add_31 (lv_at hl 0 rfl) ?_
  refine lv_iload_n hx hb dX11_add_33 rfl (lv_at hl 3 rfl) ?_
  refine lv_icmp_ge (tgt := 58) hx hb dX11_add_34 (by decide) (fun c9 => absurd c9 (by decide)) (fun _ => ?_)
  refine lv_aload_n hx hb dX11_add_37 rfl (lv_at hl 1 rfl) ?_
  refine va_get (D := D) (ci := 15) (v := .ref bb) (C := RX11) (T := TX11) (N := 15) hx hb hts (by decide +kernel) hown hK hP 0 rfl rfl 0 (by decide) (hts (.fieldLink RX11 14 "SignetRing" "bytes" "LSignetRing$Bytes;") (by decide +kernel)) (fun _ h9 => h9) rfl dX11_add_38 ?_
  refine lv_lload_n hx hb dX11_add_41 rfl (lv_at hl 2 rfl) ?_
  refine lv_bipush (v := 8) hx hb dX11_add_42 (by decide) ?_
  refine lv_iload hx hb dX11_add_44 (lv_at hl 0 rfl) ?_
  refine lv_imul hx hb dX11_add_46 ?_
  refine lv_topi (fun v26 ev26 => ?_)
  have ev26 : v26 = 48 := ev26.trans (by decide +kernel)
  subst ev26
  refine lv_lushr hx hb dX11_add_47 rfl ?_
  refine lv_topl (fun v27 _ => ?_)
  refine lv_l2i hx hb dX11_add_48 rfl ?_
  refine lv_topi (fun v28 _ => ?_)
  have hPc := hP.sub (ws' := [(bb, .inr (4, [.ref rr, w15, .int (nI 6)])), (rr, .inl (y 0, 4096, .inl f25))]) [1, 2] rfl
  have hDc := hD.sub (ws' := [(bb, .inr (4, [.ref rr, w15, .int (nI 6)])), (rr, .inl (y 0, 4096, .inl f25))]) [1, 2] (by decide) rfl
  have hFc := va_free (wc := [(bb, .inr (4, [.ref rr, w15, .int (nI 6)])), (rr, .inl (y 0, 4096, .inl f25))]) hD hS hA [1, 2] rfl
  refine va_callv (va_runV (As := [.int v28]) (rest := []) ⟨hx, hb, hml, hown, hts⟩ (c_X0_push l D y H.size bb rr 4096 6 w15 f25 v28 (by decide) (by decide)) (cwV 1 hts gv_c_X11_add_8_c_X0_push_90 rfl rfl rfl (by decide +kernel) ⟨(Nat.le_of_ble_eq_true rfl), (Nat.le_of_ble_eq_true rfl)⟩) (zB.preV hPc hDc hK hN hE hO hT hG hS hFc (fun _ h => nomatch h) (fun _ h => nomatch h) (fun _ h => nomatch h) (fun _ h => nomatch h) (va_recv hK hPc (ci := 4) (q0 := 0) rfl rfl)) rfl rfl hl.1 rfl (lv_room (Nat.le_of_ble_eq_true rfl)) dX11_add_49 ⟨(Nat.le_of_ble_eq_true rfl), (Nat.le_of_ble_eq_true rfl)⟩) hS (fun q _ h => hFc q h) hFc (fun u t H1 locs ht hvm hw hB hz1 hk1 hS => ?_)
  obtain ⟨f29, hP1, hD1⟩ := hB
  rw [ht] at hP1
  obtain ⟨hP, hD⟩ := va_join (wr := [(h0, .inr (15, [.ref bb, w1, w2, w3, w4, w5, w6, w7, w8, w9, w10, w11, w12, w13, w14]))]) (w1 := [(bb, .inr (4, [.ref rr, w15, .int (nI 7)])), (rr, .inl (y 0, 4096, .inl f29))]) hP hD [1, 2] [0] rfl rfl (by decide) (by decide) hk1 hFc hP1 hD1
  generalize H1 = H at hP hS ⊢
  have hP : va_P D vwCl [(h0, .inr (15, [.ref bb, w1, w2, w3, w4, w5, w6, w7, w8, w9, w10, w11, w12, w13, w14])), (bb, .inr (4, [.ref rr, w15, .int (nI 7)])), (rr, .inl (y 0, 4096, .inl f29))] H := hP
  have hD : va_D A [(h0, .inr (15, [.ref bb, w1, w2, w3, w4, w5, w6, w7, w8, w9, w10, w11, w12, w13, w14])), (bb, .inr (4, [.ref rr, w15, .int (nI 7)])), (rr, .inl (y 0, 4096, .inl f29))] := hD
  refine lv_iinc (v := 7) (lv' := [(4, .int 7), (0, .ref h0), (1, .long wd), (3, .int 8)]) hx hb dX11_add_52 hl (k := 0) rfl (by decide) (by decide) rfl (fun ls hl => ?_)
  refine lv_goto (tgt := 31) hx hb dX11_add_55 (by decide) ?_
  refine lv_iload hx hb dX11_add_31 (lv_at hl 0 rfl) ?_
  refine lv_iload_n hx hb dX11_add_33 rfl (lv_at hl 3 rfl) ?_
  refine lv_icmp_ge (tgt := 58) hx hb dX11_add_34 (by decide) (fun c9 => absurd c9 (by decide)) (fun _ => ?_)
  refine lv_aload_n hx hb dX11_add_37 rfl (lv_at hl 1 rfl) ?_
  refine va_get (D := D) (ci := 15) (v := .ref bb) (C := RX11) (T := TX11) (N := 15) hx hb hts (by decide +kernel) hown hK hP 0 rfl rfl 0 (by decide) (hts (.fieldLink RX11 14 "SignetRing" "bytes" "LSignetRing$Bytes;") (by decide +kernel)) (fun _ h9 => h9) rfl dX11_add_38 ?_
  refine lv_lload_n hx hb dX11_add_41 rfl (lv_at hl 2 rfl) ?_
  refine lv_bipush (v := 8) hx hb dX11_add_42 (by decide) ?_
  refine lv_iload hx hb dX11_add_44 (lv_at hl 0 rfl) ?_
  refine lv_imul hx hb dX11_add_46 ?_
  refine lv_topi (fun v30 ev30 => ?_)
  have ev30 : v30 = 56 := ev30.trans (by decide +kernel)
  subst ev30
  refine lv_lushr hx hb dX11_add_47 rfl ?_
  refine lv_topl (fun v31 _ => ?_)
  refine lv_l2i hx hb dX11_add_48 rfl ?_
  refine lv_topi (fun v32 _ => ?_)
  have hPc := hP.sub (ws' := [(bb, .inr (4, [.ref rr, w15, .int (nI 7)])), (rr, .inl (y 0, 4096, .inl f29))]) [1, 2] rfl
  have hDc := hD.sub (ws' := [(bb, .inr (4, [.ref rr, w15, .int (nI 7)])), (rr, .inl (y 0, 4096, .inl f29))]) [1, 2] (by decide) rfl
  have hFc := va_free (wc := [(bb, .inr (4, [.ref rr, w15, .int (nI 7)])), (rr, .inl (y 0, 4096, .inl f29))]) hD hS hA [1, 2] rfl
  refine va_callv (va_runV (As := [.int v32]) (rest := []) ⟨hx, hb, hml, hown, hts⟩ (c_X0_push l D y H.size bb rr 4096 7 w15 f29 v32 (by decide) (by decide)) (cwV 1 hts gv_c_X11_add_8_c_X0_push_90 rfl rfl rfl (by decide +kernel) ⟨(Nat.le_of_ble_eq_true rfl), (Nat.le_of_ble_eq_true rfl)⟩) (zB.preV hPc hDc hK hN hE hO hT hG hS hFc (fun _ h => nomatch h) (fun _ h => nomatch h) (fun _ h => nomatch h) (fun _ h => nomatch h) (va_recv hK hPc (ci := 4) (q0 := 0) rfl rfl)) rfl rfl hl.1 rfl (lv_room (Nat.le_of_ble_eq_true rfl)) dX11_add_49 ⟨(Nat.le_of_ble_eq_true rfl), (Nat.le_of_ble_eq_true rfl)⟩) hS (fun q _ h => hFc q h) hFc (fun u t H1 locs ht hvm hw hB hz1 hk1 hS => ?_)
  obtain ⟨f33, hP1, hD1⟩ := hB
  rw [ht] at hP1
  obtain ⟨hP, hD⟩ := va_join (wr := [(h0, .inr (15, [.ref bb, w1, w2, w3, w4, w5, w6, w7, w8, w9, w10, w11, w12, w13, w14]))]) (w1 := [(bb, .inr (4, [.ref rr, w15, .int (nI 8)])), (rr, .inl (y 0, 4096, .inl f33))]) hP hD [1, 2] [0] rfl rfl (by decide) (by decide) hk1 hFc hP1 hD1
  generalize H1 = H at hP hS ⊢
  have hP : va_P D vwCl [(h0, .inr (15, [.ref bb, w1, w2, w3, w4, w5, w6, w7, w8, w9, w10, w11, w12, w13, w14])), (bb, .inr (4, [.ref rr, w15, .int (nI 8)])), (rr, .inl (y 0, 4096, .inl f33))] H := hP
  have hD : va_D A [(h0, .inr (15, [.ref bb, w1, w2, w3, w4, w5, w6, w7, w8, w9, w10, w11, w12, w13, w14])), (bb, .inr (4, [.ref rr, w15, .int (nI 8)])), (rr, .inl (y 0, 4096, .inl f33))] := hD
  refine lv_iinc (v := 8) (lv' := [(4, .int 8), (0, .ref h0), (1, .long wd), (3, .int 8)]) hx hb dX11_add_52 hl (k := 0) rfl (by decide) (by decide) rfl (fun ls hl => ?_)
  refine lv_goto (tgt := 31) hx hb dX11_add_55 (by decide) ?_
  refine lv_iload hx hb dX11_add_31 (lv_at hl 0 rfl) ?_
  refine lv_iload_n hx hb dX11_add_33 rfl (lv_at hl 3 rfl) ?_
  refine lv_icmp_ge (tgt := 58) hx hb dX11_add_34 (by decide) (fun _ => ?_) (fun c9 => absurd (by decide) c9)
  refine lv_iconst (v := 1) hx hb dX11_add_58 (by decide) ?_
  have hP9 := hP.sub (ws' := [(h0, .inr (15, [.ref bb, w1, w2, w3, w4, w5, w6, w7, w8, w9, w10, w11, w12, w13, w14])), (bb, .inr (4, [.ref rr, w15, .int (nI 8)])), (rr, .inl (y 0, 4096, .inl f33))]) [0, 1, 2] rfl
  have hD9 := hD.sub (ws' := [(h0, .inr (15, [.ref bb, w1, w2, w3, w4, w5, w6, w7, w8, w9, w10, w11, w12, w13, w14])), (bb, .inr (4, [.ref rr, w15, .int (nI 8)])), (rr, .inl (y 0, 4096, .inl f33))]) [0, 1, 2] (by decide) rfl
  refine W.widen (k := 0) (n := 0) (Nat.le_of_ble_eq_true rfl) (Nat.le_of_ble_eq_true rfl) ?_
  exact W.zret (v := 1) hx hb hr (by decide) (fun t ht hW => ⟨⟨1, (), rfl, rfl, f33, by rw [ht]; exact hP9, hD9⟩, hS.F ht⟩) hS.2.2 dX11_add_59
def wz_c_X11_add_lo : List Cond := .code yX11_add cX11_add 5 (some .boolean) :: ([] ++ ([]))
set_option maxHeartbeats 4000000 in
set_option maxRecDepth 100000 in
theorem c_X11_add_lo (l : Launch) (D : va_G) (y : Nat → ClassId) (sz : Nat) (h0 : Nat) (w1 : Value) (w2 : Value) (w3 : Value) (w4 : Value) (w5 : Value) (w6 : Value) (w7 : Value) (w8 : Value) (w9 : Value) (w10 : Value) (w11 : Value) (w12 : Value) (w13 : Value) (w14 : Value) (w15 : Value) (wd : Int64) (n : Int32) (h1 : n < 1) : Met l yX11_add wz_c_X11_add_lo ({ frames := 0, cells := 0, slots := 0, locals := 0 }) (va_Pc [.ref h0, .long wd, .int n] (zB D y [(h0, .inr (15, [w1, w2, w3, w4, w5, w6, w7, w8, w9, w10, w11, w12, w13, w14, w15]))] sz [] [] [] [])) (va_Qi (fun (r : Int32) (_ : Unit) => r = 0) (fun _ t => va_P D vwCl [(h0, .inr (15, [w1, w2, w3, w4, w5, w6, w7, w8, w9, w10, w11, w12, w13, w14, w15]))] t.heap ∧ va_D (va_A [(h0, .inr (15, [w1, w2, w3, w4, w5, w6, w7, w8, w9, w10, w11, w12, w13, w14, w15]))] sz) [(h0, .inr (15, [w1, w2, w3, w4, w5, w6, w7, w8, w9, w10, w11, w12, w13, w14, w15]))]) (va_A [(h0, .inr (15, [w1, w2, w3, w4, w5, w6, w7, w8, w9, w10, w11, w12, w13, w14, w15]))] sz)) 0 0 (va_A [(h0, .inr (15, [w1, w2, w3, w4, w5, w6, w7, w8, w9, w10, w11, w12, w13, w14, w15]))] sz) := by
  refine Met.ofW (cc := cX11_add) (maxL := 5) (ret := (some .boolean)) (by decide) rfl ?_
  intro p e s m args below meth c s₁ B hml hv
  obtain ⟨rfl, hsz, hP, hK, hD0, hN, hE, hO, hT, hG⟩ := hv
  have hx := B.exec
  have hb := B.bytes
  have hr := B.returns
  have hts := atoms_spec (ws := wz_c_X11_add_lo) B.pre
  have hown : s.vm.findClass RX11 = some m.cls := findClass_of_methodNamed B.named
  have hlocks := B.notSynchronized
  subst hsz
  have hD := hD0.self (sz := s.heap.size)
  generalize hAe : va_A [(h0, .inr (15, [w1, w2, w3, w4, w5, w6, w7, w8, w9, w10, w11, w12, w13, w14, w15]))] s.heap.size = A at hD hE hT hG ⊢
  have hA : ∀ q : Nat, s.heap.size ≤ q → A q := fun q h => by rw [← hAe]; exact Or.inr h
  have hS : va_S A s.heap s.heap [] := va_S.rf
  have hl := lv_entry ([.ref h0, .long wd, .int n]) (n := 5) (Nat.le_of_ble_eq_true rfl)
  rw [lg_entry_eq]
  generalize (lg_sl ([.ref h0, .long wd, .int n]) ++ List.replicate (5 - (lg_sl ([.ref h0, .long wd, .int n])).length) Slot.unset).toArray = ls at hl ⊢
  have hl : lv_has ls 5 [(0, .ref h0), (1, .long wd), (3, .int n)] := hl
  refine lv_iload_n hx hb dX11_add_0 rfl (lv_at hl 2 rfl) ?_
  refine lv_iconst (v := 1) hx hb dX11_add_1 (by decide) ?_
  refine lv_icmp_lt (tgt := 26) hx hb dX11_add_2 (by decide) (fun _ => ?_) (fun c9 => absurd h1 c9)
  refine lv_iconst (v := 0) hx hb dX11_add_26 (by decide) ?_
  have hP9 := hP.sub (ws' := [(h0, .inr (15, [w1, w2, w3, w4, w5, w6, w7, w8, w9, w10, w11, w12, w13, w14, w15]))]) [0] rfl
  have hD9 := hD.sub (ws' := [(h0, .inr (15, [w1, w2, w3, w4, w5, w6, w7, w8, w9, w10, w11, w12, w13, w14, w15]))]) [0] (by decide) rfl
  refine W.widen (k := 0) (n := 0) (Nat.le_of_ble_eq_true rfl) (Nat.le_of_ble_eq_true rfl) ?_
  exact W.zret (v := 0) hx hb hr (by decide) (fun t ht hW => ⟨⟨0, (), rfl, rfl, by rw [ht]; exact hP9, hD9⟩, hS.F ht⟩) hS.2.2 dX11_add_27
def wz_c_X11_add_hi : List Cond := .code yX11_add cX11_add 5 (some .boolean) :: ([] ++ ([]))
set_option maxHeartbeats 4000000 in
set_option maxRecDepth 100000 in
theorem c_X11_add_hi (l : Launch) (D : va_G) (y : Nat → ClassId) (sz : Nat) (h0 : Nat) (w1 : Value) (w2 : Value) (w3 : Value) (w4 : Value) (w5 : Value) (w6 : Value) (w7 : Value) (w8 : Value) (w9 : Value) (w10 : Value) (w11 : Value) (w12 : Value) (w13 : Value) (w14 : Value) (w15 : Value) (wd : Int64) (n : Int32) (h1 : ¬ n < 1) (h2 : 8 < n) : Met l yX11_add wz_c_X11_add_hi ({ frames := 0, cells := 0, slots := 0, locals := 0 }) (va_Pc [.ref h0, .long wd, .int n] (zB D y [(h0, .inr (15, [w1, w2, w3, w4, w5, w6, w7, w8, w9, w10, w11, w12, w13, w14, w15]))] sz [] [] [] [])) (va_Qi (fun (r : Int32) (_ : Unit) => r = 0) (fun _ t => va_P D vwCl [(h0, .inr (15, [w1, w2, w3, w4, w5, w6, w7, w8, w9, w10, w11, w12, w13, w14, w15]))] t.heap ∧ va_D (va_A [(h0, .inr (15, [w1, w2, w3, w4, w5, w6, w7, w8, w9, w10, w11, w12, w13, w14, w15]))] sz) [(h0, .inr (15, [w1, w2, w3, w4, w5, w6, w7, w8, w9, w10, w11, w12, w13, w14, w15]))]) (va_A [(h0, .inr (15, [w1, w2, w3, w4, w5, w6, w7, w8, w9, w10, w11, w12, w13, w14, w15]))] sz)) 0 0 (va_A [(h0, .inr (15, [w1, w2, w3, w4, w5, w6, w7, w8, w9, w10, w11, w12, w13, w14, w15]))] sz) := by
  refine Met.ofW (cc := cX11_add) (maxL := 5) (ret := (some .boolean)) (by decide) rfl ?_
  intro p e s m args below meth c s₁ B hml hv
  obtain ⟨rfl, hsz, hP, hK, hD0, hN, hE, hO, hT, hG⟩ := hv
  have hx := B.exec
  have hb := B.bytes
  have hr := B.returns
  have hts := atoms_spec (ws := wz_c_X11_add_hi) B.pre
  have hown : s.vm.findClass RX11 = some m.cls := findClass_of_methodNamed B.named
  have hlocks := B.notSynchronized
  subst hsz
  have hD := hD0.self (sz := s.heap.size)
  generalize hAe : va_A [(h0, .inr (15, [w1, w2, w3, w4, w5, w6, w7, w8, w9, w10, w11, w12, w13, w14, w15]))] s.heap.size = A at hD hE hT hG ⊢
  have hA : ∀ q : Nat, s.heap.size ≤ q → A q := fun q h => by rw [← hAe]; exact Or.inr h
  have hS : va_S A s.heap s.heap [] := va_S.rf
  have hl := lv_entry ([.ref h0, .long wd, .int n]) (n := 5) (Nat.le_of_ble_eq_true rfl)
  rw [lg_entry_eq]
  generalize (lg_sl ([.ref h0, .long wd, .int n]) ++ List.replicate (5 - (lg_sl ([.ref h0, .long wd, .int n])).length) Slot.unset).toArray = ls at hl ⊢
  have hl : lv_has ls 5 [(0, .ref h0), (1, .long wd), (3, .int n)] := hl
  refine lv_iload_n hx hb dX11_add_0 rfl (lv_at hl 2 rfl) ?_
  refine lv_iconst (v := 1) hx hb dX11_add_1 (by decide) ?_
  refine lv_icmp_lt (tgt := 26) hx hb dX11_add_2 (by decide) (fun c9 => absurd c9 h1) (fun _ => ?_)
  refine lv_iload_n hx hb dX11_add_5 rfl (lv_at hl 2 rfl) ?_
  refine lv_bipush (v := 8) hx hb dX11_add_6 (by decide) ?_
  refine lv_icmp_gt (tgt := 26) hx hb dX11_add_8 (by decide) (fun _ => ?_) (fun c9 => absurd h2 c9)
  refine lv_iconst (v := 0) hx hb dX11_add_26 (by decide) ?_
  have hP9 := hP.sub (ws' := [(h0, .inr (15, [w1, w2, w3, w4, w5, w6, w7, w8, w9, w10, w11, w12, w13, w14, w15]))]) [0] rfl
  have hD9 := hD.sub (ws' := [(h0, .inr (15, [w1, w2, w3, w4, w5, w6, w7, w8, w9, w10, w11, w12, w13, w14, w15]))]) [0] (by decide) rfl
  refine W.widen (k := 0) (n := 0) (Nat.le_of_ble_eq_true rfl) (Nat.le_of_ble_eq_true rfl) ?_
  exact W.zret (v := 0) hx hb hr (by decide) (fun t ht hW => ⟨⟨0, (), rfl, rfl, by rw [ht]; exact hP9, hD9⟩, hS.F ht⟩) hS.2.2 dX11_add_27

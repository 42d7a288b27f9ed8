def wz_c_L_key : List Cond := .codeWith yL_key cL_key 5 (some .int) [(0, 9, 12, 19)] :: ([.methodLink RL 15 yX11_key, .instanceMethod yX11_key, .selects RX11 yX11_key yX11_key, .initialized RX11, .classLink RL 19 "java/lang/IndexOutOfBoundsException"] ++ (wz_c_X11_key ++ ([])))
set_option maxRecDepth 100000 in
theorem gz_c_L_key_c_X11_key : GoodIn wz_c_L_key wz_c_X11_key := goodIn_sub (fun w h => List.mem_cons_of_mem _ (List.mem_append_right _ (List.mem_append_left _ h))) (by decide +kernel)
set_option maxRecDepth 100000 in
theorem gv_c_L_key_c_X11_key_15 : GoodIn wz_c_L_key (wsV RL 15 RX11 yX11_key wz_c_X11_key) := goodIn_app (goodIn_of _ (by decide +kernel)) gz_c_L_key_c_X11_key
set_option maxHeartbeats 4000000 in
set_option maxRecDepth 100000 in
theorem c_L_key (l : Launch) (hl0 : l.stackTraces = false) (D : va_G) (y : Nat → ClassId) (sz : Nat) (h0 : Nat) (g : Nat) (ks : Nat) (w1 : Value) (w2 : Value) (w3 : Value) (w4 : Value) (w5 : Value) (w6 : Value) (w7 : Value) (w8 : Value) (w9 : Value) (w10 : Value) (w11 : Value) (w12 : Value) (w13 : Value) (w14 : Value) (w15 : Value) (w16 : Value) (w17 : Value) (w18 : Value) (w19 : Value) (w20 : Value) (w21 : Value) (w22 : Value) (o : Nat) (gf : Nat → Int64) (k : Int32) (wh : Int32) : Met l yL_key wz_c_L_key ({ frames := 7, cells := 1, slots := 6, locals := 104 }) (va_Pc [.ref h0, .int k, .int wh, .ref o] (zB D y [(h0, .inr (15, [w1, w2, w3, w4, w5, w6, w7, w8, .ref g, w9, w10, w11, w12, w13, w14])), (g, .inr (11, [.ref ks, w15, w16, w17, w18, w19, w20])), (ks, .inr (3, [w21, w22, .int 0])), (o, .inl (y 2, 1, .inr (.inl gf)))] sz [.declares (Bundle.init0 "java/lang/RuntimeException"), .declares (Bundle.init0 "java/lang/Exception"), .declares (Bundle.init0 "java/lang/Throwable"), .castable "java/lang/IndexOutOfBoundsException" "java/lang/IndexOutOfBoundsException"] [] zTh [])) (va_Qi (fun (r : Int32) (_ : Unit) => r = 1) (fun _ t => va_P D vwCl [(o, .inl (y 2, 1, .inr (.inl gf)))] t.heap ∧ va_D (va_A [(h0, .inr (15, [w1, w2, w3, w4, w5, w6, w7, w8, .ref g, w9, w10, w11, w12, w13, w14])), (g, .inr (11, [.ref ks, w15, w16, w17, w18, w19, w20])), (ks, .inr (3, [w21, w22, .int 0])), (o, .inl (y 2, 1, .inr (.inl gf)))] sz) [(o, .inl (y 2, 1, .inr (.inl gf)))]) (va_A [(h0, .inr (15, [w1, w2, w3, w4, w5, w6, w7, w8, .ref g, w9, w10, w11, w12, w13, w14])), (g, .inr (11, [.ref ks, w15, w16, w17, w18, w19, w20])), (ks, .inr (3, [w21, w22, .int 0])), (o, .inl (y 2, 1, .inr (.inl gf)))] sz)) 1 6 (va_A [(h0, .inr (15, [w1, w2, w3, w4, w5, w6, w7, w8, .ref g, w9, w10, w11, w12, w13, w14])), (g, .inr (11, [.ref ks, w15, w16, w17, w18, w19, w20])), (ks, .inr (3, [w21, w22, .int 0])), (o, .inl (y 2, 1, .inr (.inl gf)))] sz) := by
  refine zz_ofWH (hh := [(0, 9, 12, 19)]) (cc := cL_key) (maxL := 5) (ret := (some .int)) (by decide) rfl ?_
  intro p e s m args below meth c s₁ B hml htab hv
  obtain ⟨rfl, hsz, hP, hK, hD0, hN, hE, hO, hT, hG⟩ := hv
  have hx := B.exec
  have hb := B.bytes
  have hr := B.returns
  have hts := atoms_spec (ws := wz_c_L_key) B.pre
  have hown : s.vm.findClass RL = some m.cls := findClass_of_methodNamed B.named
  have hlocks := B.notSynchronized
  subst hsz
  have hD := hD0.self (sz := s.heap.size)
  generalize hAe : va_A [(h0, .inr (15, [w1, w2, w3, w4, w5, w6, w7, w8, .ref g, w9, w10, w11, w12, w13, w14])), (g, .inr (11, [.ref ks, w15, w16, w17, w18, w19, w20])), (ks, .inr (3, [w21, w22, .int 0])), (o, .inl (y 2, 1, .inr (.inl gf)))] s.heap.size = A at hD hE hT hG ⊢
  have hA : ∀ q : Nat, s.heap.size ≤ q → A q := fun q h => by rw [← hAe]; exact Or.inr h
  have hS : va_S A s.heap s.heap [] := va_S.rf
  have hl := lv_entry ([.ref h0, .int k, .int wh, .ref o]) (n := 5) (Nat.le_of_ble_eq_true rfl)
  rw [lg_entry_eq]
  generalize (lg_sl ([.ref h0, .int k, .int wh, .ref o]) ++ List.replicate (5 - (lg_sl ([.ref h0, .int k, .int wh, .ref o])).length) Slot.unset).toArray = ls at hl ⊢
  have hl : lv_has ls 5 [(0, .ref h0), (1, .int k), (2, .int wh), (3, .ref o)] := hl
  refine lv_aload_n hx hb dL_key_0 rfl (lv_at hl 3 rfl) ?_
  refine lv_iconst (v := 0) hx hb dL_key_1 (by decide) ?_
  refine lv_aload_n hx hb dL_key_2 rfl (lv_at hl 0 rfl) ?_
  refine lv_iload_n hx hb dL_key_3 rfl (lv_at hl 1 rfl) ?_
  refine lv_iload_n hx hb dL_key_4 rfl (lv_at hl 2 rfl) ?_
  have hPc := hP.sub (ws' := [(h0, .inr (15, [w1, w2, w3, w4, w5, w6, w7, w8, .ref g, w9, w10, w11, w12, w13, w14])), (g, .inr (11, [.ref ks, w15, w16, w17, w18, w19, w20])), (ks, .inr (3, [w21, w22, .int 0]))]) [0, 1, 2] rfl
  have hDc := hD.sub (ws' := [(h0, .inr (15, [w1, w2, w3, w4, w5, w6, w7, w8, .ref g, w9, w10, w11, w12, w13, w14])), (g, .inr (11, [.ref ks, w15, w16, w17, w18, w19, w20])), (ks, .inr (3, [w21, w22, .int 0]))]) [0, 1, 2] (by decide) rfl
  have hFc := va_free (wc := [(h0, .inr (15, [w1, w2, w3, w4, w5, w6, w7, w8, .ref g, w9, w10, w11, w12, w13, w14])), (g, .inr (11, [.ref ks, w15, w16, w17, w18, w19, w20])), (ks, .inr (3, [w21, w22, .int 0]))]) hD hS hA [0, 1, 2] rfl
  refine vx_calll (vx_runV (As := [.int k, .int wh]) (rest := [.int 0, .ref o]) ⟨hx, hb, hml, hown, hts⟩ (c_X11_key l hl0 D y s.heap.size h0 g ks w1 w2 w3 w4 w5 w6 w7 w8 w9 w10 w11 w12 w13 w14 w15 w16 w17 w18 w19 w20 w21 w22 k wh) (cwV 2 hts gv_c_L_key_c_X11_key_15 rfl rfl rfl (by decide +kernel) ⟨(Nat.le_of_ble_eq_true rfl), (Nat.le_of_ble_eq_true rfl)⟩) (zB.preV hPc hDc hK hN hE hO hT hG hS hFc (List.forall_mem_cons.mpr ⟨List.mem_of_getElem? (i := 0) rfl, (List.forall_mem_cons.mpr ⟨List.mem_of_getElem? (i := 1) rfl, (List.forall_mem_cons.mpr ⟨List.mem_of_getElem? (i := 2) rfl, (List.forall_mem_cons.mpr ⟨List.mem_of_getElem? (i := 3) rfl, (fun _ h => nomatch h)⟩)⟩)⟩)⟩) (fun _ h => nomatch h) (fun _ h => h) (fun _ h => nomatch h) (va_recv hK hPc (ci := 15) (q0 := 0) rfl rfl)) rfl rfl hl.1 rfl (lv_room (Nat.le_of_ble_eq_true rfl)) dL_key_5 ⟨(Nat.le_of_ble_eq_true rfl), (Nat.le_of_ble_eq_true rfl)⟩) hS (fun q _ h => hFc q h) hFc (fun q _ h => hFc q h) (fun E ce q9 u t H1 locs ht hvm _ hBX hz1 hk1 hS hce hcv hcl => ?_) (fun r u t H1 locs ht hvm hw hB hz1 hk1 hS => hw.elim)
  have hBX : E = "java/lang/IndexOutOfBoundsException" := hBX
  subst hBX
  obtain ⟨hP, hD⟩ := va_join (wr := [(o, .inl (y 2, 1, .inr (.inl gf)))]) (w1 := []) hP hD [0, 1, 2] [3] rfl rfl (by decide) (by decide) hk1 hFc (fun k q h => by simp at h) ⟨fun i j p q h => by simp at h, fun k q h => by simp at h⟩
  generalize H1 = H at hP hS hce ⊢
  have hP : va_P D vwCl [(o, .inl (y 2, 1, .inr (.inl gf)))] H := hP
  have hD : va_D A [(o, .inl (y 2, 1, .inr (.inl gf)))] := hD
  refine vx_catch hown [] ⟨0, 9, 12, 19⟩ [] htab (fun z h => nomatch h) (by decide) (by decide) (hts (.classLink RL 19 "java/lang/IndexOutOfBoundsException") (by decide +kernel)) (va_Nw.use rfl (hN (.castable "java/lang/IndexOutOfBoundsException" "java/lang/IndexOutOfBoundsException") (List.mem_of_getElem? (i := 3) rfl)).2) hce hcv hcl ?_
  refine W.eq (g2 := F0 m 12 ls [.ref q9]) rfl ?_
  refine lv_astore (lv' := [(4, .ref q9), (0, .ref h0), (1, .int k), (2, .int wh), (3, .ref o)]) hx hb dL_key_12 hl (by decide) rfl (fun ls hl => ?_)
  refine lv_iconst (v := 1) hx hb dL_key_14 (by decide) ?_
  have hP9 := hP.sub (ws' := [(o, .inl (y 2, 1, .inr (.inl gf)))]) [0] rfl
  have hD9 := hD.sub (ws' := [(o, .inl (y 2, 1, .inr (.inl gf)))]) [0] (by decide) rfl
  refine W.widen (k := 1) (n := 6) (Nat.le_of_ble_eq_true rfl) (Nat.le_of_ble_eq_true rfl) ?_
  exact W.iret (v := 1) hx hb hr (fun t ht hW => ⟨⟨1, (), rfl, rfl, by rw [ht]; exact hP9, hD9⟩, hS.F ht⟩) hS.2.2 dL_key_15
def wz_c_L_print : List Cond := .codeWith yL_print cL_print 6 (some .int) [(0, 12, 15, 19)] :: ([.methodLink RL 21 yX11_print, .instanceMethod yX11_print, .selects RX11 yX11_print yX11_print, .initialized RX11, .classLink RL 19 "java/lang/IndexOutOfBoundsException"] ++ (wz_c_X11_print ++ ([])))
set_option maxRecDepth 100000 in
theorem gz_c_L_print_c_X11_print : GoodIn wz_c_L_print wz_c_X11_print := goodIn_sub (fun w h => List.mem_cons_of_mem _ (List.mem_append_right _ (List.mem_append_left _ h))) (by decide +kernel)
set_option maxRecDepth 100000 in
theorem gv_c_L_print_c_X11_print_21 : GoodIn wz_c_L_print (wsV RL 21 RX11 yX11_print wz_c_X11_print) := goodIn_app (goodIn_of _ (by decide +kernel)) gz_c_L_print_c_X11_print
set_option maxHeartbeats 4000000 in
set_option maxRecDepth 100000 in
theorem c_L_print (l : Launch) (hl0 : l.stackTraces = false) (D : va_G) (y : Nat → ClassId) (sz : Nat) (h0 : Nat) (g : Nat) (ks : Nat) (w1 : Value) (w2 : Value) (w3 : Value) (w4 : Value) (w5 : Value) (w6 : Value) (w7 : Value) (w8 : Value) (w9 : Value) (w10 : Value) (w11 : Value) (w12 : Value) (w13 : Value) (w14 : Value) (w15 : Value) (w16 : Value) (w17 : Value) (w18 : Value) (w19 : Value) (w20 : Value) (w21 : Value) (w22 : Value) (o : Nat) (gf : Nat → Int64) (k : Int32) (pt : Int32) (i : Int32) : Met l yL_print wz_c_L_print ({ frames := 7, cells := 1, slots := 6, locals := 105 }) (va_Pc [.ref h0, .int k, .int pt, .int i, .ref o] (zB D y [(h0, .inr (15, [w1, w2, w3, w4, w5, w6, w7, w8, .ref g, w9, w10, w11, w12, w13, w14])), (g, .inr (11, [.ref ks, w15, w16, w17, w18, w19, w20])), (ks, .inr (3, [w21, w22, .int 0])), (o, .inl (y 2, 1, .inr (.inl gf)))] sz [.declares (Bundle.init0 "java/lang/RuntimeException"), .declares (Bundle.init0 "java/lang/Exception"), .declares (Bundle.init0 "java/lang/Throwable"), .castable "java/lang/IndexOutOfBoundsException" "java/lang/IndexOutOfBoundsException"] [] zTh [])) (va_Qi (fun (r : Int32) (_ : Unit) => r = 1) (fun _ t => va_P D vwCl [(o, .inl (y 2, 1, .inr (.inl gf)))] t.heap ∧ va_D (va_A [(h0, .inr (15, [w1, w2, w3, w4, w5, w6, w7, w8, .ref g, w9, w10, w11, w12, w13, w14])), (g, .inr (11, [.ref ks, w15, w16, w17, w18, w19, w20])), (ks, .inr (3, [w21, w22, .int 0])), (o, .inl (y 2, 1, .inr (.inl gf)))] sz) [(o, .inl (y 2, 1, .inr (.inl gf)))]) (va_A [(h0, .inr (15, [w1, w2, w3, w4, w5, w6, w7, w8, .ref g, w9, w10, w11, w12, w13, w14])), (g, .inr (11, [.ref ks, w15, w16, w17, w18, w19, w20])), (ks, .inr (3, [w21, w22, .int 0])), (o, .inl (y 2, 1, .inr (.inl gf)))] sz)) 1 6 (va_A [(h0, .inr (15, [w1, w2, w3, w4, w5, w6, w7, w8, .ref g, w9, w10, w11, w12, w13, w14])), (g, .inr (11, [.ref ks, w15, w16, w17, w18, w19, w20])), (ks, .inr (3, [w21, w22, .int 0])), (o, .inl (y 2, 1, .inr (.inl gf)))] sz) := by
  refine zz_ofWH (hh := [(0, 12, 15, 19)]) (cc := cL_print) (maxL := 6) (ret := (some .int)) (by decide) rfl ?_
  intro p e s m args below meth c s₁ B hml htab hv
  obtain ⟨rfl, hsz, hP, hK, hD0, hN, hE, hO, hT, hG⟩ := hv
  have hx := B.exec
  have hb := B.bytes
  have hr := B.returns
  have hts := atoms_spec (ws := wz_c_L_print) B.pre
  have hown : s.vm.findClass RL = some m.cls := findClass_of_methodNamed B.named
  have hlocks := B.notSynchronized
  subst hsz
  have hD := hD0.self (sz := s.heap.size)
  generalize hAe : va_A [(h0, .inr (15, [w1, w2, w3, w4, w5, w6, w7, w8, .ref g, w9, w10, w11, w12, w13, w14])), (g, .inr (11, [.ref ks, w15, w16, w17, w18, w19, w20])), (ks, .inr (3, [w21, w22, .int 0])), (o, .inl (y 2, 1, .inr (.inl gf)))] s.heap.size = A at hD hE hT hG ⊢
  have hA : ∀ q : Nat, s.heap.size ≤ q → A q := fun q h => by rw [← hAe]; exact Or.inr h
  have hS : va_S A s.heap s.heap [] := va_S.rf
  have hl := lv_entry ([.ref h0, .int k, .int pt, .int i, .ref o]) (n := 6) (Nat.le_of_ble_eq_true rfl)
  rw [lg_entry_eq]
  generalize (lg_sl ([.ref h0, .int k, .int pt, .int i, .ref o]) ++ List.replicate (6 - (lg_sl ([.ref h0, .int k, .int pt, .int i, .ref o])).length) Slot.unset).toArray = ls at hl ⊢
  have hl : lv_has ls 6 [(0, .ref h0), (1, .int k), (2, .int pt), (3, .int i), (4, .ref o)] := hl
  refine lv_aload hx hb dL_print_0 (lv_at hl 4 rfl) ?_
  refine lv_iconst (v := 0) hx hb dL_print_2 (by decide) ?_
  refine lv_aload_n hx hb dL_print_3 rfl (lv_at hl 0 rfl) ?_
  refine lv_iload_n hx hb dL_print_4 rfl (lv_at hl 1 rfl) ?_
  refine lv_iload_n hx hb dL_print_5 rfl (lv_at hl 2 rfl) ?_
  refine lv_iload_n hx hb dL_print_6 rfl (lv_at hl 3 rfl) ?_
  have hPc := hP.sub (ws' := [(h0, .inr (15, [w1, w2, w3, w4, w5, w6, w7, w8, .ref g, w9, w10, w11, w12, w13, w14])), (g, .inr (11, [.ref ks, w15, w16, w17, w18, w19, w20])), (ks, .inr (3, [w21, w22, .int 0]))]) [0, 1, 2] rfl
  have hDc := hD.sub (ws' := [(h0, .inr (15, [w1, w2, w3, w4, w5, w6, w7, w8, .ref g, w9, w10, w11, w12, w13, w14])), (g, .inr (11, [.ref ks, w15, w16, w17, w18, w19, w20])), (ks, .inr (3, [w21, w22, .int 0]))]) [0, 1, 2] (by decide) rfl
  have hFc := va_free (wc := [(h0, .inr (15, [w1, w2, w3, w4, w5, w6, w7, w8, .ref g, w9, w10, w11, w12, w13, w14])), (g, .inr (11, [.ref ks, w15, w16, w17, w18, w19, w20])), (ks, .inr (3, [w21, w22, .int 0]))]) hD hS hA [0, 1, 2] rfl
  refine vx_calli (vx_runV (As := [.int k, .int pt, .int i]) (rest := [.int 0, .ref o]) ⟨hx, hb, hml, hown, hts⟩ (c_X11_print l hl0 D y s.heap.size h0 g ks w1 w2 w3 w4 w5 w6 w7 w8 w9 w10 w11 w12 w13 w14 w15 w16 w17 w18 w19 w20 w21 w22 k pt i) (cwV 3 hts gv_c_L_print_c_X11_print_21 rfl rfl rfl (by decide +kernel) ⟨(Nat.le_of_ble_eq_true rfl), (Nat.le_of_ble_eq_true rfl)⟩) (zB.preV hPc hDc hK hN hE hO hT hG hS hFc (List.forall_mem_cons.mpr ⟨List.mem_of_getElem? (i := 0) rfl, (List.forall_mem_cons.mpr ⟨List.mem_of_getElem? (i := 1) rfl, (List.forall_mem_cons.mpr ⟨List.mem_of_getElem? (i := 2) rfl, (List.forall_mem_cons.mpr ⟨List.mem_of_getElem? (i := 3) rfl, (fun _ h => nomatch h)⟩)⟩)⟩)⟩) (fun _ h => nomatch h) (fun _ h => h) (fun _ h => nomatch h) (va_recv hK hPc (ci := 15) (q0 := 0) rfl rfl)) rfl rfl hl.1 rfl (lv_room (Nat.le_of_ble_eq_true rfl)) dL_print_7 ⟨(Nat.le_of_ble_eq_true rfl), (Nat.le_of_ble_eq_true rfl)⟩) hS (fun q _ h => hFc q h) hFc (fun q _ h => hFc q h) (fun E ce q9 u t H1 locs ht hvm _ hBX hz1 hk1 hS hce hcv hcl => ?_) (fun r u t H1 locs ht hvm hw hB hz1 hk1 hS => hw.elim)
  have hBX : E = "java/lang/IndexOutOfBoundsException" := hBX
  subst hBX
  obtain ⟨hP, hD⟩ := va_join (wr := [(o, .inl (y 2, 1, .inr (.inl gf)))]) (w1 := []) hP hD [0, 1, 2] [3] rfl rfl (by decide) (by decide) hk1 hFc (fun k q h => by simp at h) ⟨fun i j p q h => by simp at h, fun k q h => by simp at h⟩
  generalize H1 = H at hP hS hce ⊢
  have hP : va_P D vwCl [(o, .inl (y 2, 1, .inr (.inl gf)))] H := hP
  have hD : va_D A [(o, .inl (y 2, 1, .inr (.inl gf)))] := hD
  refine vx_catch hown [] ⟨0, 12, 15, 19⟩ [] htab (fun z h => nomatch h) (by decide) (by decide) (hts (.classLink RL 19 "java/lang/IndexOutOfBoundsException") (by decide +kernel)) (va_Nw.use rfl (hN (.castable "java/lang/IndexOutOfBoundsException" "java/lang/IndexOutOfBoundsException") (List.mem_of_getElem? (i := 3) rfl)).2) hce hcv hcl ?_
  refine W.eq (g2 := F0 m 15 ls [.ref q9]) rfl ?_
  refine lv_astore (lv' := [(5, .ref q9), (0, .ref h0), (1, .int k), (2, .int pt), (3, .int i), (4, .ref o)]) hx hb dL_print_15 hl (by decide) rfl (fun ls hl => ?_)
  refine lv_iconst (v := 1) hx hb dL_print_17 (by decide) ?_
  have hP9 := hP.sub (ws' := [(o, .inl (y 2, 1, .inr (.inl gf)))]) [0] rfl
  have hD9 := hD.sub (ws' := [(o, .inl (y 2, 1, .inr (.inl gf)))]) [0] (by decide) rfl
  refine W.widen (k := 1) (n := 6) (Nat.le_of_ble_eq_true rfl) (Nat.le_of_ble_eq_true rfl) ?_
  exact W.iret (v := 1) hx hb hr (fun t ht hW => ⟨⟨1, (), rfl, rfl, by rw [ht]; exact hP9, hD9⟩, hS.F ht⟩) hS.2.2 dL_print_18
def wz_c_L_usable : List Cond := .codeWith yL_usable cL_usable 7 (some .int) [(0, 12, 15, 19), (0, 12, 19, 13)] :: ([.methodLink RL 25 yX11_usable, .instanceMethod yX11_usable, .selects RX11 yX11_usable yX11_usable, .initialized RX11, .classLink RL 19 "java/lang/IndexOutOfBoundsException"] ++ (wz_c_X11_usable ++ ([])))
set_option maxRecDepth 100000 in
theorem gz_c_L_usable_c_X11_usable : GoodIn wz_c_L_usable wz_c_X11_usable := goodIn_sub (fun w h => List.mem_cons_of_mem _ (List.mem_append_right _ (List.mem_append_left _ h))) (by decide +kernel)
set_option maxRecDepth 100000 in
theorem gv_c_L_usable_c_X11_usable_25 : GoodIn wz_c_L_usable (wsV RL 25 RX11 yX11_usable wz_c_X11_usable) := goodIn_app (goodIn_of _ (by decide +kernel)) gz_c_L_usable_c_X11_usable
set_option maxHeartbeats 4000000 in
set_option maxRecDepth 100000 in
theorem c_L_usable (l : Launch) (hl0 : l.stackTraces = false) (D : va_G) (y : Nat → ClassId) (sz : Nat) (h0 : Nat) (g : Nat) (ks : Nat) (w1 : Value) (w2 : Value) (w3 : Value) (w4 : Value) (w5 : Value) (w6 : Value) (w7 : Value) (w8 : Value) (w9 : Value) (w10 : Value) (w11 : Value) (w12 : Value) (w13 : Value) (w14 : Value) (w15 : Value) (w16 : Value) (w17 : Value) (w18 : Value) (w19 : Value) (w20 : Value) (w21 : Value) (w22 : Value) (o : Nat) (gf : Nat → Int64) (k : Int32) (pt : Int32) (tm : Int64) : Met l yL_usable wz_c_L_usable ({ frames := 7, cells := 1, slots := 6, locals := 106 }) (va_Pc [.ref h0, .int k, .int pt, .long tm, .ref o] (zB D y [(h0, .inr (15, [w1, w2, w3, w4, w5, w6, w7, w8, .ref g, w9, w10, w11, w12, w13, w14])), (g, .inr (11, [.ref ks, w15, w16, w17, w18, w19, w20])), (ks, .inr (3, [w21, w22, .int 0])), (o, .inl (y 2, 1, .inr (.inl gf)))] sz [.declares (Bundle.init0 "java/lang/RuntimeException"), .declares (Bundle.init0 "java/lang/Exception"), .declares (Bundle.init0 "java/lang/Throwable"), .castable "java/lang/IndexOutOfBoundsException" "java/lang/IndexOutOfBoundsException"] [] zTh [])) (va_Qi (fun (r : Int32) (_ : Unit) => r = 1) (fun _ t => va_P D vwCl [(o, .inl (y 2, 1, .inr (.inl gf)))] t.heap ∧ va_D (va_A [(h0, .inr (15, [w1, w2, w3, w4, w5, w6, w7, w8, .ref g, w9, w10, w11, w12, w13, w14])), (g, .inr (11, [.ref ks, w15, w16, w17, w18, w19, w20])), (ks, .inr (3, [w21, w22, .int 0])), (o, .inl (y 2, 1, .inr (.inl gf)))] sz) [(o, .inl (y 2, 1, .inr (.inl gf)))]) (va_A [(h0, .inr (15, [w1, w2, w3, w4, w5, w6, w7, w8, .ref g, w9, w10, w11, w12, w13, w14])), (g, .inr (11, [.ref ks, w15, w16, w17, w18, w19, w20])), (ks, .inr (3, [w21, w22, .int 0])), (o, .inl (y 2, 1, .inr (.inl gf)))] sz)) 1 6 (va_A [(h0, .inr (15, [w1, w2, w3, w4, w5, w6, w7, w8, .ref g, w9, w10, w11, w12, w13, w14])), (g, .inr (11, [.ref ks, w15, w16, w17, w18, w19, w20])), (ks, .inr (3, [w21, w22, .int 0])), (o, .inl (y 2, 1, .inr (.inl gf)))] sz) := by
  refine zz_ofWH (hh := [(0, 12, 15, 19), (0, 12, 19, 13)]) (cc := cL_usable) (maxL := 7) (ret := (some .int)) (by decide) rfl ?_
  intro p e s m args below meth c s₁ B hml htab hv
  obtain ⟨rfl, hsz, hP, hK, hD0, hN, hE, hO, hT, hG⟩ := hv
  have hx := B.exec
  have hb := B.bytes
  have hr := B.returns
  have hts := atoms_spec (ws := wz_c_L_usable) B.pre
  have hown : s.vm.findClass RL = some m.cls := findClass_of_methodNamed B.named
  have hlocks := B.notSynchronized
  subst hsz
  have hD := hD0.self (sz := s.heap.size)
  generalize hAe : va_A [(h0, .inr (15, [w1, w2, w3, w4, w5, w6, w7, w8, .ref g, w9, w10, w11, w12, w13, w14])), (g, .inr (11, [.ref ks, w15, w16, w17, w18, w19, w20])), (ks, .inr (3, [w21, w22, .int 0])), (o, .inl (y 2, 1, .inr (.inl gf)))] s.heap.size = A at hD hE hT hG ⊢
  have hA : ∀ q : Nat, s.heap.size ≤ q → A q := fun q h => by rw [← hAe]; exact Or.inr h
  have hS : va_S A s.heap s.heap [] := va_S.rf
  have hl := lv_entry ([.ref h0, .int k, .int pt, .long tm, .ref o]) (n := 7) (Nat.le_of_ble_eq_true rfl)
  rw [lg_entry_eq]
  generalize (lg_sl ([.ref h0, .int k, .int pt, .long tm, .ref o]) ++ List.replicate (7 - (lg_sl ([.ref h0, .int k, .int pt, .long tm, .ref o])).length) Slot.unset).toArray = ls at hl ⊢
  have hl : lv_has ls 7 [(0, .ref h0), (1, .int k), (2, .int pt), (3, .long tm), (5, .ref o)] := hl
  refine lv_aload hx hb dL_usable_0 (lv_at hl 4 rfl) ?_
  refine lv_iconst (v := 0) hx hb dL_usable_2 (by decide) ?_
  refine lv_aload_n hx hb dL_usable_3 rfl (lv_at hl 0 rfl) ?_
  refine lv_iload_n hx hb dL_usable_4 rfl (lv_at hl 1 rfl) ?_
  refine lv_iload_n hx hb dL_usable_5 rfl (lv_at hl 2 rfl) ?_
  refine lv_lload_n hx hb dL_usable_6 rfl (lv_at hl 3 rfl) ?_
  have hPc := hP.sub (ws' := [(h0, .inr (15, [w1, w2, w3, w4, w5, w6, w7, w8, .ref g, w9, w10, w11, w12, w13, w14])), (g, .inr (11, [.ref ks, w15, w16, w17, w18, w19, w20])), (ks, .inr (3, [w21, w22, .int 0]))]) [0, 1, 2] rfl
  have hDc := hD.sub (ws' := [(h0, .inr (15, [w1, w2, w3, w4, w5, w6, w7, w8, .ref g, w9, w10, w11, w12, w13, w14])), (g, .inr (11, [.ref ks, w15, w16, w17, w18, w19, w20])), (ks, .inr (3, [w21, w22, .int 0]))]) [0, 1, 2] (by decide) rfl
  have hFc := va_free (wc := [(h0, .inr (15, [w1, w2, w3, w4, w5, w6, w7, w8, .ref g, w9, w10, w11, w12, w13, w14])), (g, .inr (11, [.ref ks, w15, w16, w17, w18, w19, w20])), (ks, .inr (3, [w21, w22, .int 0]))]) hD hS hA [0, 1, 2] rfl
  refine vx_calli (vx_runV (As := [.int k, .int pt, .long tm]) (rest := [.int 0, .ref o]) ⟨hx, hb, hml, hown, hts⟩ (c_X11_usable l hl0 D y s.heap.size h0 g ks w1 w2 w3 w4 w5 w6 w7 w8 w9 w10 w11 w12 w13 w14 w15 w16 w17 w18 w19 w20 w21 w22 k pt tm) (cwV 3 hts gv_c_L_usable_c_X11_usable_25 rfl rfl rfl (by decide +kernel) ⟨(Nat.le_of_ble_eq_true rfl), (Nat.le_of_ble_eq_true rfl)⟩) (zB.preV hPc hDc hK hN hE hO hT hG hS hFc (List.forall_mem_cons.mpr ⟨List.mem_of_getElem? (i := 0) rfl, (List.forall_mem_cons.mpr ⟨List.mem_of_getElem? (i := 1) rfl, (List.forall_mem_cons.mpr ⟨List.mem_of_getElem? (i := 2) rfl, (List.forall_mem_cons.mpr ⟨List.mem_of_getElem? (i := 3) rfl, (fun _ h => nomatch h)⟩)⟩)⟩)⟩) (fun _ h => nomatch h) (fun _ h => h) (fun _ h => nomatch h) (va_recv hK hPc (ci := 15) (q0 := 0) rfl rfl)) rfl rfl hl.1 rfl (lv_room (Nat.le_of_ble_eq_true rfl)) dL_usable_7 ⟨(Nat.le_of_ble_eq_true rfl), (Nat.le_of_ble_eq_true rfl)⟩) hS (fun q _ h => hFc q h) hFc (fun q _ h => hFc q h) (fun E ce q9 u t H1 locs ht hvm _ hBX hz1 hk1 hS hce hcv hcl => ?_) (fun r u t H1 locs ht hvm hw hB hz1 hk1 hS => hw.elim)
  have hBX : E = "java/lang/IndexOutOfBoundsException" := hBX
  subst hBX
  obtain ⟨hP, hD⟩ := va_join (wr := [(o, .inl (y 2, 1, .inr (.inl gf)))]) (w1 := []) hP hD [0, 1, 2] [3] rfl rfl (by decide) (by decide) hk1 hFc (fun k q h => by simp at h) ⟨fun i j p q h => by simp at h, fun k q h => by simp at h⟩
  generalize H1 = H at hP hS hce ⊢
  have hP : va_P D vwCl [(o, .inl (y 2, 1, .inr (.inl gf)))] H := hP
  have hD : va_D A [(o, .inl (y 2, 1, .inr (.inl gf)))] := hD
  refine vx_catch hown [] ⟨0, 12, 15, 19⟩ [⟨0, 12, 19, 13⟩] htab (fun z h => nomatch h) (by decide) (by decide) (hts (.classLink RL 19 "java/lang/IndexOutOfBoundsException") (by decide +kernel)) (va_Nw.use rfl (hN (.castable "java/lang/IndexOutOfBoundsException" "java/lang/IndexOutOfBoundsException") (List.mem_of_getElem? (i := 3) rfl)).2) hce hcv hcl ?_
  refine W.eq (g2 := F0 m 15 ls [.ref q9]) rfl ?_
  refine lv_astore (lv' := [(6, .ref q9), (0, .ref h0), (1, .int k), (2, .int pt), (3, .long tm), (5, .ref o)]) hx hb dL_usable_15 hl (by decide) rfl (fun ls hl => ?_)
  refine lv_iconst (v := 1) hx hb dL_usable_17 (by decide) ?_
  have hP9 := hP.sub (ws' := [(o, .inl (y 2, 1, .inr (.inl gf)))]) [0] rfl
  have hD9 := hD.sub (ws' := [(o, .inl (y 2, 1, .inr (.inl gf)))]) [0] (by decide) rfl
  refine W.widen (k := 1) (n := 6) (Nat.le_of_ble_eq_true rfl) (Nat.le_of_ble_eq_true rfl) ?_
  exact W.iret (v := 1) hx hb hr (fun t ht hW => ⟨⟨1, (), rfl, rfl, by rw [ht]; exact hP9, hD9⟩, hS.F ht⟩) hS.2.2 dL_usable_18
def wz_c_L_seal : List Cond := .codeWith yL_seal cL_seal 8 (some .int) [(0, 14, 17, 19), (0, 14, 21, 13), (0, 14, 25, 33)] :: ([.methodLink RL 29 yX11_seal, .instanceMethod yX11_seal, .selects RX11 yX11_seal yX11_seal, .initialized RX11, .classLink RL 19 "java/lang/IndexOutOfBoundsException"] ++ (wz_c_X11_seal ++ ([])))
set_option maxRecDepth 100000 in
theorem gz_c_L_seal_c_X11_seal : GoodIn wz_c_L_seal wz_c_X11_seal := goodIn_sub (fun w h => List.mem_cons_of_mem _ (List.mem_append_right _ (List.mem_append_left _ h))) (by decide +kernel)
set_option maxRecDepth 100000 in
theorem gv_c_L_seal_c_X11_seal_29 : GoodIn wz_c_L_seal (wsV RL 29 RX11 yX11_seal wz_c_X11_seal) := goodIn_app (goodIn_of _ (by decide +kernel)) gz_c_L_seal_c_X11_seal
set_option maxHeartbeats 4000000 in
set_option maxRecDepth 100000 in
theorem c_L_seal (l : Launch) (hl0 : l.stackTraces = false) (D : va_G) (y : Nat → ClassId) (sz : Nat) (h0 : Nat) (g : Nat) (ks : Nat) (w1 : Value) (w2 : Value) (w3 : Value) (w4 : Value) (w5 : Value) (w6 : Value) (w7 : Value) (w8 : Value) (w9 : Value) (w10 : Value) (w11 : Value) (w12 : Value) (w13 : Value) (w14 : Value) (w15 : Value) (w16 : Value) (w17 : Value) (w18 : Value) (w19 : Value) (w20 : Value) (w21 : Value) (w22 : Value) (o : Nat) (gf : Nat → Int64) (k : Int32) (pt : Int32) (fo : Int32) (tm : Int64) : Met l yL_seal wz_c_L_seal ({ frames := 7, cells := 1, slots := 6, locals := 107 }) (va_Pc [.ref h0, .int k, .int pt, .int fo, .long tm, .ref o] (zB D y [(h0, .inr (15, [w1, w2, w3, w4, w5, w6, w7, w8, .ref g, w9, w10, w11, w12, w13, w14])), (g, .inr (11, [.ref ks, w15, w16, w17, w18, w19, w20])), (ks, .inr (3, [w21, w22, .int 0])), (o, .inl (y 2, 1, .inr (.inl gf)))] sz [.declares (Bundle.init0 "java/lang/RuntimeException"), .declares (Bundle.init0 "java/lang/Exception"), .declares (Bundle.init0 "java/lang/Throwable"), .castable "java/lang/IndexOutOfBoundsException" "java/lang/IndexOutOfBoundsException"] [] zTh [])) (va_Qi (fun (r : Int32) (_ : Unit) => r = 1) (fun _ t => va_P D vwCl [(o, .inl (y 2, 1, .inr (.inl gf)))] t.heap ∧ va_D (va_A [(h0, .inr (15, [w1, w2, w3, w4, w5, w6, w7, w8, .ref g, w9, w10, w11, w12, w13, w14])), (g, .inr (11, [.ref ks, w15, w16, w17, w18, w19, w20])), (ks, .inr (3, [w21, w22, .int 0])), (o, .inl (y 2, 1, .inr (.inl gf)))] sz) [(o, .inl (y 2, 1, .inr (.inl gf)))]) (va_A [(h0, .inr (15, [w1, w2, w3, w4, w5, w6, w7, w8, .ref g, w9, w10, w11, w12, w13, w14])), (g, .inr (11, [.ref ks, w15, w16, w17, w18, w19, w20])), (ks, .inr (3, [w21, w22, .int 0])), (o, .inl (y 2, 1, .inr (.inl gf)))] sz)) 1 6 (va_A [(h0, .inr (15, [w1, w2, w3, w4, w5, w6, w7, w8, .ref g, w9, w10, w11, w12, w13, w14])), (g, .inr (11, [.ref ks, w15, w16, w17, w18, w19, w20])), (ks, .inr (3, [w21, w22, .int 0])), (o, .inl (y 2, 1, .inr (.inl gf)))] sz) := by
  refine zz_ofWH (hh := [(0, 14, 17, 19), (0, 14, 21, 13), (0, 14, 25, 33)]) (cc := cL_seal) (maxL := 8) (ret := (some .int)) (by decide) rfl ?_
  intro p e s m args below meth c s₁ B hml htab hv
  obtain ⟨rfl, hsz, hP, hK, hD0, hN, hE, hO, hT, hG⟩ := hv
  have hx := B.exec
  have hb := B.bytes
  have hr := B.returns
  have hts := atoms_spec (ws := wz_c_L_seal) B.pre
  have hown : s.vm.findClass RL = some m.cls := findClass_of_methodNamed B.named
  have hlocks := B.notSynchronized
  subst hsz
  have hD := hD0.self (sz := s.heap.size)
  generalize hAe : va_A [(h0, .inr (15, [w1, w2, w3, w4, w5, w6, w7, w8, .ref g, w9, w10, w11, w12, w13, w14])), (g, .inr (11, [.ref ks, w15, w16, w17, w18, w19, w20])), (ks, .inr (3, [w21, w22, .int 0])), (o, .inl (y 2, 1, .inr (.inl gf)))] s.heap.size = A at hD hE hT hG ⊢
  have hA : ∀ q : Nat, s.heap.size ≤ q → A q := fun q h => by rw [← hAe]; exact Or.inr h
  have hS : va_S A s.heap s.heap [] := va_S.rf
  have hl := lv_entry ([.ref h0, .int k, .int pt, .int fo, .long tm, .ref o]) (n := 8) (Nat.le_of_ble_eq_true rfl)
  rw [lg_entry_eq]
  generalize (lg_sl ([.ref h0, .int k, .int pt, .int fo, .long tm, .ref o]) ++ List.replicate (8 - (lg_sl ([.ref h0, .int k, .int pt, .int fo, .long tm, .ref o])).length) Slot.unset).toArray = ls at hl ⊢
  have hl : lv_has ls 8 [(0, .ref h0), (1, .int k), (2, .int pt), (3, .int fo), (4, .long tm), (6, .ref o)] := hl
  refine lv_aload hx hb dL_seal_0 (lv_at hl 5 rfl) ?_
  refine lv_iconst (v := 0) hx hb dL_seal_2 (by decide) ?_
  refine lv_aload_n hx hb dL_seal_3 rfl (lv_at hl 0 rfl) ?_
  refine lv_iload_n hx hb dL_seal_4 rfl (lv_at hl 1 rfl) ?_
  refine lv_iload_n hx hb dL_seal_5 rfl (lv_at hl 2 rfl) ?_
  refine lv_iload_n hx hb dL_seal_6 rfl (lv_at hl 3 rfl) ?_
  refine lv_lload hx hb dL_seal_7 (lv_at hl 4 rfl) ?_
  have hPc := hP.sub (ws' := [(h0, .inr (15, [w1, w2, w3, w4, w5, w6, w7, w8, .ref g, w9, w10, w11, w12, w13, w14])), (g, .inr (11, [.ref ks, w15, w16, w17, w18, w19, w20])), (ks, .inr (3, [w21, w22, .int 0]))]) [0, 1, 2] rfl
  have hDc := hD.sub (ws' := [(h0, .inr (15, [w1, w2, w3, w4, w5, w6, w7, w8, .ref g, w9, w10, w11, w12, w13, w14])), (g, .inr (11, [.ref ks, w15, w16, w17, w18, w19, w20])), (ks, .inr (3, [w21, w22, .int 0]))]) [0, 1, 2] (by decide) rfl
  have hFc := va_free (wc := [(h0, .inr (15, [w1, w2, w3, w4, w5, w6, w7, w8, .ref g, w9, w10, w11, w12, w13, w14])), (g, .inr (11, [.ref ks, w15, w16, w17, w18, w19, w20])), (ks, .inr (3, [w21, w22, .int 0]))]) hD hS hA [0, 1, 2] rfl
  refine vx_calli (vx_runV (As := [.int k, .int pt, .int fo, .long tm]) (rest := [.int 0, .ref o]) ⟨hx, hb, hml, hown, hts⟩ (c_X11_seal l hl0 D y s.heap.size h0 g ks w1 w2 w3 w4 w5 w6 w7 w8 w9 w10 w11 w12 w13 w14 w15 w16 w17 w18 w19 w20 w21 w22 k pt fo tm) (cwV 4 hts gv_c_L_seal_c_X11_seal_29 rfl rfl rfl (by decide +kernel) ⟨(Nat.le_of_ble_eq_true rfl), (Nat.le_of_ble_eq_true rfl)⟩) (zB.preV hPc hDc hK hN hE hO hT hG hS hFc (List.forall_mem_cons.mpr ⟨List.mem_of_getElem? (i := 0) rfl, (List.forall_mem_cons.mpr ⟨List.mem_of_getElem? (i := 1) rfl, (List.forall_mem_cons.mpr ⟨List.mem_of_getElem? (i := 2) rfl, (List.forall_mem_cons.mpr ⟨List.mem_of_getElem? (i := 3) rfl, (fun _ h => nomatch h)⟩)⟩)⟩)⟩) (fun _ h => nomatch h) (fun _ h => h) (fun _ h => nomatch h) (va_recv hK hPc (ci := 15) (q0 := 0) rfl rfl)) rfl rfl hl.1 rfl (lv_room (Nat.le_of_ble_eq_true rfl)) dL_seal_9 ⟨(Nat.le_of_ble_eq_true rfl), (Nat.le_of_ble_eq_true rfl)⟩) hS (fun q _ h => hFc q h) hFc (fun q _ h => hFc q h) (fun E ce q9 u t H1 locs ht hvm _ hBX hz1 hk1 hS hce hcv hcl => ?_) (fun r u t H1 locs ht hvm hw hB hz1 hk1 hS => hw.elim)
  have hBX : E = "java/lang/IndexOutOfBoundsException" := hBX
  subst hBX
  obtain ⟨hP, hD⟩ := va_join (wr := [(o, .inl (y 2, 1, .inr (.inl gf)))]) (w1 := []) hP hD [0, 1, 2] [3] rfl rfl (by decide) (by decide) hk1 hFc (fun k q h => by simp at h) ⟨fun i j p q h => by simp at h, fun k q h => by simp at h⟩
  generalize H1 = H at hP hS hce ⊢
  have hP : va_P D vwCl [(o, .inl (y 2, 1, .inr (.inl gf)))] H := hP
  have hD : va_D A [(o, .inl (y 2, 1, .inr (.inl gf)))] := hD
  refine vx_catch hown [] ⟨0, 14, 17, 19⟩ [⟨0, 14, 21, 13⟩, ⟨0, 14, 25, 33⟩] htab (fun z h => nomatch h) (by decide) (by decide) (hts (.classLink RL 19 "java/lang/IndexOutOfBoundsException") (by decide +kernel)) (va_Nw.use rfl (hN (.castable "java/lang/IndexOutOfBoundsException" "java/lang/IndexOutOfBoundsException") (List.mem_of_getElem? (i := 3) rfl)).2) hce hcv hcl ?_
  refine W.eq (g2 := F0 m 17 ls [.ref q9]) rfl ?_
  refine lv_astore (lv' := [(7, .ref q9), (0, .ref h0), (1, .int k), (2, .int pt), (3, .int fo), (4, .long tm), (6, .ref o)]) hx hb dL_seal_17 hl (by decide) rfl (fun ls hl => ?_)
  refine lv_iconst (v := 1) hx hb dL_seal_19 (by decide) ?_
  have hP9 := hP.sub (ws' := [(o, .inl (y 2, 1, .inr (.inl gf)))]) [0] rfl
  have hD9 := hD.sub (ws' := [(o, .inl (y 2, 1, .inr (.inl gf)))]) [0] (by decide) rfl
  refine W.widen (k := 1) (n := 6) (Nat.le_of_ble_eq_true rfl) (Nat.le_of_ble_eq_true rfl) ?_
  exact W.iret (v := 1) hx hb hr (fun t ht hW => ⟨⟨1, (), rfl, rfl, by rw [ht]; exact hP9, hD9⟩, hS.F ht⟩) hS.2.2 dL_seal_20
def wz_c_L_export : List Cond := .codeWith yL_export cL_export 4 (some .int) [(0, 9, 12, 19)] :: ([.methodLink RL 35 yX11_export, .instanceMethod yX11_export, .selects RX11 yX11_export yX11_export, .initialized RX11, .classLink RL 19 "java/lang/IndexOutOfBoundsException"] ++ (wz_c_X11_export ++ ([])))
set_option maxRecDepth 100000 in
theorem gz_c_L_export_c_X11_export : GoodIn wz_c_L_export wz_c_X11_export := goodIn_sub (fun w h => List.mem_cons_of_mem _ (List.mem_append_right _ (List.mem_append_left _ h))) (by decide +kernel)
set_option maxRecDepth 100000 in
theorem gv_c_L_export_c_X11_export_35 : GoodIn wz_c_L_export (wsV RL 35 RX11 yX11_export wz_c_X11_export) := goodIn_app (goodIn_of _ (by decide +kernel)) gz_c_L_export_c_X11_export
set_option maxHeartbeats 4000000 in
set_option maxRecDepth 100000 in
theorem c_L_export (l : Launch) (hl0 : l.stackTraces = false) (D : va_G) (y : Nat → ClassId) (sz : Nat) (h0 : Nat) (g : Nat) (ks : Nat) (w1 : Value) (w2 : Value) (w3 : Value) (w4 : Value) (w5 : Value) (w6 : Value) (w7 : Value) (w8 : Value) (w9 : Value) (w10 : Value) (w11 : Value) (w12 : Value) (w13 : Value) (w14 : Value) (w15 : Value) (w16 : Value) (w17 : Value) (w18 : Value) (w19 : Value) (w20 : Value) (w21 : Value) (w22 : Value) (o : Nat) (gf : Nat → Int64) (k : Int32) : Met l yL_export wz_c_L_export ({ frames := 7, cells := 1, slots := 6, locals := 104 }) (va_Pc [.ref h0, .int k, .ref o] (zB D y [(h0, .inr (15, [w1, w2, w3, w4, w5, w6, w7, w8, .ref g, w9, w10, w11, w12, w13, w14])), (g, .inr (11, [.ref ks, w15, w16, w17, w18, w19, w20])), (ks, .inr (3, [w21, w22, .int 0])), (o, .inl (y 2, 1, .inr (.inl gf)))] sz [.declares (Bundle.init0 "java/lang/RuntimeException"), .declares (Bundle.init0 "java/lang/Exception"), .declares (Bundle.init0 "java/lang/Throwable"), .castable "java/lang/IndexOutOfBoundsException" "java/lang/IndexOutOfBoundsException"] [] zTh [])) (va_Qi (fun (r : Int32) (_ : Unit) => r = 1) (fun _ t => va_P D vwCl [(o, .inl (y 2, 1, .inr (.inl gf)))] t.heap ∧ va_D (va_A [(h0, .inr (15, [w1, w2, w3, w4, w5, w6, w7, w8, .ref g, w9, w10, w11, w12, w13, w14])), (g, .inr (11, [.ref ks, w15, w16, w17, w18, w19, w20])), (ks, .inr (3, [w21, w22, .int 0])), (o, .inl (y 2, 1, .inr (.inl gf)))] sz) [(o, .inl (y 2, 1, .inr (.inl gf)))]) (va_A [(h0, .inr (15, [w1, w2, w3, w4, w5, w6, w7, w8, .ref g, w9, w10, w11, w12, w13, w14])), (g, .inr (11, [.ref ks, w15, w16, w17, w18, w19, w20])), (ks, .inr (3, [w21, w22, .int 0])), (o, .inl (y 2, 1, .inr (.inl gf)))] sz)) 1 6 (va_A [(h0, .inr (15, [w1, w2, w3, w4, w5, w6, w7, w8, .ref g, w9, w10, w11, w12, w13, w14])), (g, .inr (11, [.ref ks, w15, w16, w17, w18, w19, w20])), (ks, .inr (3, [w21, w22, .int 0])), (o, .inl (y 2, 1, .inr (.inl gf)))] sz) := by
  refine zz_ofWH (hh := [(0, 9, 12, 19)]) (cc := cL_export) (maxL := 4) (ret := (some .int)) (by decide) rfl ?_
  intro p e s m args below meth c s₁ B hml htab hv
  obtain ⟨rfl, hsz, hP, hK, hD0, hN, hE, hO, hT, hG⟩ := hv
  have hx := B.exec
  have hb := B.bytes
  have hr := B.returns
  have hts := atoms_spec (ws := wz_c_L_export) B.pre
  have hown : s.vm.findClass RL = some m.cls := findClass_of_methodNamed B.named
  have hlocks := B.notSynchronized
  subst hsz
  have hD := hD0.self (sz := s.heap.size)
  generalize hAe : va_A [(h0, .inr (15, [w1, w2, w3, w4, w5, w6, w7, w8, .ref g, w9, w10, w11, w12, w13, w14])), (g, .inr (11, [.ref ks, w15, w16, w17, w18, w19, w20])), (ks, .inr (3, [w21, w22, .int 0])), (o, .inl (y 2, 1, .inr (.inl gf)))] s.heap.size = A at hD hE hT hG ⊢
  have hA : ∀ q : Nat, s.heap.size ≤ q → A q := fun q h => by rw [← hAe]; exact Or.inr h
  have hS : va_S A s.heap s.heap [] := va_S.rf
  have hl := lv_entry ([.ref h0, .int k, .ref o]) (n := 4) (Nat.le_of_ble_eq_true rfl)
  rw [lg_entry_eq]
  generalize (lg_sl ([.ref h0, .int k, .ref o]) ++ List.replicate (4 - (lg_sl ([.ref h0, .int k, .ref o])).length) Slot.unset).toArray = ls at hl ⊢
  have hl : lv_has ls 4 [(0, .ref h0), (1, .int k), (2, .ref o)] := hl
  refine lv_aload_n hx hb dL_export_0 rfl (lv_at hl 2 rfl) ?_
  refine lv_iconst (v := 0) hx hb dL_export_1 (by decide) ?_
  refine lv_aload_n hx hb dL_export_2 rfl (lv_at hl 0 rfl) ?_
  refine lv_iload_n hx hb dL_export_3 rfl (lv_at hl 1 rfl) ?_
  have hPc := hP.sub (ws' := [(h0, .inr (15, [w1, w2, w3, w4, w5, w6, w7, w8, .ref g, w9, w10, w11, w12, w13, w14])), (g, .inr (11, [.ref ks, w15, w16, w17, w18, w19, w20])), (ks, .inr (3, [w21, w22, .int 0]))]) [0, 1, 2] rfl
  have hDc := hD.sub (ws' := [(h0, .inr (15, [w1, w2, w3, w4, w5, w6, w7, w8, .ref g, w9, w10, w11, w12, w13, w14])), (g, .inr (11, [.ref ks, w15, w16, w17, w18, w19, w20])), (ks, .inr (3, [w21, w22, .int 0]))]) [0, 1, 2] (by decide) rfl
  have hFc := va_free (wc := [(h0, .inr (15, [w1, w2, w3, w4, w5, w6, w7, w8, .ref g, w9, w10, w11, w12, w13, w14])), (g, .inr (11, [.ref ks, w15, w16, w17, w18, w19, w20])), (ks, .inr (3, [w21, w22, .int 0]))]) hD hS hA [0, 1, 2] rfl
  refine vx_calli (vx_runV (As := [.int k]) (rest := [.int 0, .ref o]) ⟨hx, hb, hml, hown, hts⟩ (c_X11_export l hl0 D y s.heap.size h0 g ks w1 w2 w3 w4 w5 w6 w7 w8 w9 w10 w11 w12 w13 w14 w15 w16 w17 w18 w19 w20 w21 w22 k) (cwV 1 hts gv_c_L_export_c_X11_export_35 rfl rfl rfl (by decide +kernel) ⟨(Nat.le_of_ble_eq_true rfl), (Nat.le_of_ble_eq_true rfl)⟩) (zB.preV hPc hDc hK hN hE hO hT hG hS hFc (List.forall_mem_cons.mpr ⟨List.mem_of_getElem? (i := 0) rfl, (List.forall_mem_cons.mpr ⟨List.mem_of_getElem? (i := 1) rfl, (List.forall_mem_cons.mpr ⟨List.mem_of_getElem? (i := 2) rfl, (List.forall_mem_cons.mpr ⟨List.mem_of_getElem? (i := 3) rfl, (fun _ h => nomatch h)⟩)⟩)⟩)⟩) (fun _ h => nomatch h) (fun _ h => h) (fun _ h => nomatch h) (va_recv hK hPc (ci := 15) (q0 := 0) rfl rfl)) rfl rfl hl.1 rfl (lv_room (Nat.le_of_ble_eq_true rfl)) dL_export_4 ⟨(Nat.le_of_ble_eq_true rfl), (Nat.le_of_ble_eq_true rfl)⟩) hS (fun q _ h => hFc q h) hFc (fun q _ h => hFc q h) (fun E ce q9 u t H1 locs ht hvm _ hBX hz1 hk1 hS hce hcv hcl => ?_) (fun r u t H1 locs ht hvm hw hB hz1 hk1 hS => hw.elim)
  have hBX : E = "java/lang/IndexOutOfBoundsException" := hBX
  subst hBX
  obtain ⟨hP, hD⟩ := va_join (wr := [(o, .inl (y 2, 1, .inr (.inl gf)))]) (w1 := []) hP hD [0, 1, 2] [3] rfl rfl (by decide) (by decide) hk1 hFc (fun k q h => by simp at h) ⟨fun i j p q h => by simp at h, fun k q h => by simp at h⟩
  generalize H1 = H at hP hS hce ⊢
  have hP : va_P D vwCl [(o, .inl (y 2, 1, .inr (.inl gf)))] H := hP
  have hD : va_D A [(o, .inl (y 2, 1, .inr (.inl gf)))] := hD
  refine vx_catch hown [] ⟨0, 9, 12, 19⟩ [] htab (fun z h => nomatch h) (by decide) (by decide) (hts (.classLink RL 19 "java/lang/IndexOutOfBoundsException") (by decide +kernel)) (va_Nw.use rfl (hN (.castable "java/lang/IndexOutOfBoundsException" "java/lang/IndexOutOfBoundsException") (List.mem_of_getElem? (i := 3) rfl)).2) hce hcv hcl ?_
  refine W.eq (g2 := F0 m 12 ls [.ref q9]) rfl ?_
  refine lv_astore_n (lv' := [(3, .ref q9), (0, .ref h0), (1, .int k), (2, .ref o)]) hx hb dL_export_12 rfl hl (by decide) rfl (fun ls hl => ?_)
  refine lv_iconst (v := 1) hx hb dL_export_13 (by decide) ?_
  have hP9 := hP.sub (ws' := [(o, .inl (y 2, 1, .inr (.inl gf)))]) [0] rfl
  have hD9 := hD.sub (ws' := [(o, .inl (y 2, 1, .inr (.inl gf)))]) [0] (by decide) rfl
  refine W.widen (k := 1) (n := 6) (Nat.le_of_ble_eq_true rfl) (Nat.le_of_ble_eq_true rfl) ?_
  exact W.iret (v := 1) hx hb hr (fun t ht hW => ⟨⟨1, (), rfl, rfl, by rw [ht]; exact hP9, hD9⟩, hS.F ht⟩) hS.2.2 dL_export_14
def wz_c_L_drop : List Cond := .codeWith yL_drop cL_drop 4 (some .int) [(0, 9, 12, 19)] :: ([.methodLink RL 49 yX11_drop, .instanceMethod yX11_drop, .selects RX11 yX11_drop yX11_drop, .initialized RX11, .classLink RL 19 "java/lang/IndexOutOfBoundsException"] ++ (wz_c_X11_drop ++ ([])))
set_option maxRecDepth 100000 in
theorem gz_c_L_drop_c_X11_drop : GoodIn wz_c_L_drop wz_c_X11_drop := goodIn_sub (fun w h => List.mem_cons_of_mem _ (List.mem_append_right _ (List.mem_append_left _ h))) (by decide +kernel)
set_option maxRecDepth 100000 in
theorem gv_c_L_drop_c_X11_drop_49 : GoodIn wz_c_L_drop (wsV RL 49 RX11 yX11_drop wz_c_X11_drop) := goodIn_app (goodIn_of _ (by decide +kernel)) gz_c_L_drop_c_X11_drop
set_option maxHeartbeats 4000000 in
set_option maxRecDepth 100000 in
theorem c_L_drop (l : Launch) (hl0 : l.stackTraces = false) (D : va_G) (y : Nat → ClassId) (sz : Nat) (h0 : Nat) (g : Nat) (ks : Nat) (w1 : Value) (w2 : Value) (w3 : Value) (w4 : Value) (w5 : Value) (w6 : Value) (w7 : Value) (w8 : Value) (w9 : Value) (w10 : Value) (w11 : Value) (w12 : Value) (w13 : Value) (w14 : Value) (w15 : Value) (w16 : Value) (w17 : Value) (w18 : Value) (w19 : Value) (w20 : Value) (w21 : Value) (w22 : Value) (o : Nat) (gf : Nat → Int64) (k : Int32) : Met l yL_drop wz_c_L_drop ({ frames := 7, cells := 1, slots := 6, locals := 102 }) (va_Pc [.ref h0, .int k, .ref o] (zB D y [(h0, .inr (15, [w1, w2, w3, w4, w5, w6, w7, w8, .ref g, w9, w10, w11, w12, w13, w14])), (g, .inr (11, [.ref ks, w15, w16, w17, w18, w19, w20])), (ks, .inr (3, [w21, w22, .int 0])), (o, .inl (y 2, 1, .inr (.inl gf)))] sz [.declares (Bundle.init0 "java/lang/RuntimeException"), .declares (Bundle.init0 "java/lang/Exception"), .declares (Bundle.init0 "java/lang/Throwable"), .castable "java/lang/IndexOutOfBoundsException" "java/lang/IndexOutOfBoundsException"] [] zTh [])) (va_Qi (fun (r : Int32) (_ : Unit) => r = 1) (fun _ t => va_P D vwCl [(o, .inl (y 2, 1, .inr (.inl gf)))] t.heap ∧ va_D (va_A [(h0, .inr (15, [w1, w2, w3, w4, w5, w6, w7, w8, .ref g, w9, w10, w11, w12, w13, w14])), (g, .inr (11, [.ref ks, w15, w16, w17, w18, w19, w20])), (ks, .inr (3, [w21, w22, .int 0])), (o, .inl (y 2, 1, .inr (.inl gf)))] sz) [(o, .inl (y 2, 1, .inr (.inl gf)))]) (va_A [(h0, .inr (15, [w1, w2, w3, w4, w5, w6, w7, w8, .ref g, w9, w10, w11, w12, w13, w14])), (g, .inr (11, [.ref ks, w15, w16, w17, w18, w19, w20])), (ks, .inr (3, [w21, w22, .int 0])), (o, .inl (y 2, 1, .inr (.inl gf)))] sz)) 1 6 (va_A [(h0, .inr (15, [w1, w2, w3, w4, w5, w6, w7, w8, .ref g, w9, w10, w11, w12, w13, w14])), (g, .inr (11, [.ref ks, w15, w16, w17, w18, w19, w20])), (ks, .inr (3, [w21, w22, .int 0])), (o, .inl (y 2, 1, .inr (.inl gf)))] sz) := by
  refine zz_ofWH (hh := [(0, 9, 12, 19)]) (cc := cL_drop) (maxL := 4) (ret := (some .int)) (by decide) rfl ?_
  intro p e s m args below meth c s₁ B hml htab hv
  obtain ⟨rfl, hsz, hP, hK, hD0, hN, hE, hO, hT, hG⟩ := hv
  have hx := B.exec
  have hb := B.bytes
  have hr := B.returns
  have hts := atoms_spec (ws := wz_c_L_drop) B.pre
  have hown : s.vm.findClass RL = some m.cls := findClass_of_methodNamed B.named
  have hlocks := B.notSynchronized
  subst hsz
  have hD := hD0.self (sz := s.heap.size)
  generalize hAe : va_A [(h0, .inr (15, [w1, w2, w3, w4, w5, w6, w7, w8, .ref g, w9, w10, w11, w12, w13, w14])), (g, .inr (11, [.ref ks, w15, w16, w17, w18, w19, w20])), (ks, .inr (3, [w21, w22, .int 0])), (o, .inl (y 2, 1, .inr (.inl gf)))] s.heap.size = A at hD hE hT hG ⊢
  have hA : ∀ q : Nat, s.heap.size ≤ q → A q := fun q h => by rw [← hAe]; exact Or.inr h
  have hS : va_S A s.heap s.heap [] := va_S.rf
  have hl := lv_entry ([.ref h0, .int k, .ref o]) (n := 4) (Nat.le_of_ble_eq_true rfl)
  rw [lg_entry_eq]
  generalize (lg_sl ([.ref h0, .int k, .ref o]) ++ List.replicate (4 - (lg_sl ([.ref h0, .int k, .ref o])).length) Slot.unset).toArray = ls at hl ⊢
  have hl : lv_has ls 4 [(0, .ref h0), (1, .int k), (2, .ref o)] := hl
  refine lv_aload_n hx hb dL_drop_0 rfl (lv_at hl 2 rfl) ?_
  refine lv_iconst (v := 0) hx hb dL_drop_1 (by decide) ?_
  refine lv_aload_n hx hb dL_drop_2 rfl (lv_at hl 0 rfl) ?_
  refine lv_iload_n hx hb dL_drop_3 rfl (lv_at hl 1 rfl) ?_
  have hPc := hP.sub (ws' := [(h0, .inr (15, [w1, w2, w3, w4, w5, w6, w7, w8, .ref g, w9, w10, w11, w12, w13, w14])), (g, .inr (11, [.ref ks, w15, w16, w17, w18, w19, w20])), (ks, .inr (3, [w21, w22, .int 0]))]) [0, 1, 2] rfl
  have hDc := hD.sub (ws' := [(h0, .inr (15, [w1, w2, w3, w4, w5, w6, w7, w8, .ref g, w9, w10, w11, w12, w13, w14])), (g, .inr (11, [.ref ks, w15, w16, w17, w18, w19, w20])), (ks, .inr (3, [w21, w22, .int 0]))]) [0, 1, 2] (by decide) rfl
  have hFc := va_free (wc := [(h0, .inr (15, [w1, w2, w3, w4, w5, w6, w7, w8, .ref g, w9, w10, w11, w12, w13, w14])), (g, .inr (11, [.ref ks, w15, w16, w17, w18, w19, w20])), (ks, .inr (3, [w21, w22, .int 0]))]) hD hS hA [0, 1, 2] rfl
  refine vx_calli (vx_runV (As := [.int k]) (rest := [.int 0, .ref o]) ⟨hx, hb, hml, hown, hts⟩ (c_X11_drop l hl0 D y s.heap.size h0 g ks w1 w2 w3 w4 w5 w6 w7 w8 w9 w10 w11 w12 w13 w14 w15 w16 w17 w18 w19 w20 w21 w22 k) (cwV 1 hts gv_c_L_drop_c_X11_drop_49 rfl rfl rfl (by decide +kernel) ⟨(Nat.le_of_ble_eq_true rfl), (Nat.le_of_ble_eq_true rfl)⟩) (zB.preV hPc hDc hK hN hE hO hT hG hS hFc (List.forall_mem_cons.mpr ⟨List.mem_of_getElem? (i := 0) rfl, (List.forall_mem_cons.mpr ⟨List.mem_of_getElem? (i := 1) rfl, (List.forall_mem_cons.mpr ⟨List.mem_of_getElem? (i := 2) rfl, (List.forall_mem_cons.mpr ⟨List.mem_of_getElem? (i := 3) rfl, (fun _ h => nomatch h)⟩)⟩)⟩)⟩) (fun _ h => nomatch h) (fun _ h => h) (fun _ h => nomatch h) (va_recv hK hPc (ci := 15) (q0 := 0) rfl rfl)) rfl rfl hl.1 rfl (lv_room (Nat.le_of_ble_eq_true rfl)) dL_drop_4 ⟨(Nat.le_of_ble_eq_true rfl), (Nat.le_of_ble_eq_true rfl)⟩) hS (fun q _ h => hFc q h) hFc (fun q _ h => hFc q h) (fun E ce q9 u t H1 locs ht hvm _ hBX hz1 hk1 hS hce hcv hcl => ?_) (fun r u t H1 locs ht hvm hw hB hz1 hk1 hS => hw.elim)
  have hBX : E = "java/lang/IndexOutOfBoundsException" := hBX
  subst hBX
  obtain ⟨hP, hD⟩ := va_join (wr := [(o, .inl (y 2, 1, .inr (.inl gf)))]) (w1 := []) hP hD [0, 1, 2] [3] rfl rfl (by decide) (by decide) hk1 hFc (fun k q h => by simp at h) ⟨fun i j p q h => by simp at h, fun k q h => by simp at h⟩
  generalize H1 = H at hP hS hce ⊢
  have hP : va_P D vwCl [(o, .inl (y 2, 1, .inr (.inl gf)))] H := hP
  have hD : va_D A [(o, .inl (y 2, 1, .inr (.inl gf)))] := hD
  refine vx_catch hown [] ⟨0, 9, 12, 19⟩ [] htab (fun z h => nomatch h) (by decide) (by decide) (hts (.classLink RL 19 "java/lang/IndexOutOfBoundsException") (by decide +kernel)) (va_Nw.use rfl (hN (.castable "java/lang/IndexOutOfBoundsException" "java/lang/IndexOutOfBoundsException") (List.mem_of_getElem? (i := 3) rfl)).2) hce hcv hcl ?_
  refine W.eq (g2 := F0 m 12 ls [.ref q9]) rfl ?_
  refine lv_astore_n (lv' := [(3, .ref q9), (0, .ref h0), (1, .int k), (2, .ref o)]) hx hb dL_drop_12 rfl hl (by decide) rfl (fun ls hl => ?_)
  refine lv_iconst (v := 1) hx hb dL_drop_13 (by decide) ?_
  have hP9 := hP.sub (ws' := [(o, .inl (y 2, 1, .inr (.inl gf)))]) [0] rfl
  have hD9 := hD.sub (ws' := [(o, .inl (y 2, 1, .inr (.inl gf)))]) [0] (by decide) rfl
  refine W.widen (k := 1) (n := 6) (Nat.le_of_ble_eq_true rfl) (Nat.le_of_ble_eq_true rfl) ?_
  exact W.iret (v := 1) hx hb hr (fun t ht hW => ⟨⟨1, (), rfl, rfl, by rw [ht]; exact hP9, hD9⟩, hS.F ht⟩) hS.2.2 dL_drop_14
def wz_c_L_out : List Cond := .codeWith yL_out cL_out 4 (some .int) [(0, 9, 12, 47)] :: ([.methodLink RL 44 yX11_out, .instanceMethod yX11_out, .selects RX11 yX11_out yX11_out, .initialized RX11, .classLink RL 47 "java/lang/ArrayIndexOutOfBoundsException"] ++ (wz_c_X11_out ++ ([])))
set_option maxRecDepth 100000 in
theorem gz_c_L_out_c_X11_out : GoodIn wz_c_L_out wz_c_X11_out := goodIn_sub (fun w h => List.mem_cons_of_mem _ (List.mem_append_right _ (List.mem_append_left _ h))) (by decide +kernel)
set_option maxRecDepth 100000 in
theorem gv_c_L_out_c_X11_out_44 : GoodIn wz_c_L_out (wsV RL 44 RX11 yX11_out wz_c_X11_out) := goodIn_app (goodIn_of _ (by decide +kernel)) gz_c_L_out_c_X11_out
set_option maxHeartbeats 4000000 in
set_option maxRecDepth 100000 in
theorem c_L_out (l : Launch) (hl0 : l.stackTraces = false) (D : va_G) (y : Nat → ClassId) (sz : Nat) (h0 : Nat) (ou : Nat) (w1 : Value) (w2 : Value) (w3 : Value) (w4 : Value) (w5 : Value) (w6 : Value) (w7 : Value) (w8 : Value) (w9 : Value) (w10 : Value) (w11 : Value) (w12 : Value) (w13 : Value) (w14 : Value) (w15 : Value) (w16 : Value) (o : Nat) (gf : Nat → Int64) (i : Int32) : Met l yL_out wz_c_L_out ({ frames := 8, cells := 1, slots := 6, locals := 115 }) (va_Pc [.ref h0, .int i, .ref o] (zB D y [(h0, .inr (15, [w1, w2, w3, w4, w5, w6, w7, w8, w9, w10, w11, .ref ou, w12, w13, w14])), (ou, .inr (4, [w15, w16, .int 0])), (o, .inl (y 2, 1, .inr (.inl gf)))] sz [.declares (Bundle.init0 "java/lang/IndexOutOfBoundsException"), .declares (Bundle.init0 "java/lang/RuntimeException"), .declares (Bundle.init0 "java/lang/Exception"), .declares (Bundle.init0 "java/lang/Throwable"), .castable "java/lang/ArrayIndexOutOfBoundsException" "java/lang/ArrayIndexOutOfBoundsException"] [] zTh [])) (va_Qi (fun (r : Int32) (_ : Unit) => r = 1) (fun _ t => va_P D vwCl [(o, .inl (y 2, 1, .inr (.inl gf)))] t.heap ∧ va_D (va_A [(h0, .inr (15, [w1, w2, w3, w4, w5, w6, w7, w8, w9, w10, w11, .ref ou, w12, w13, w14])), (ou, .inr (4, [w15, w16, .int 0])), (o, .inl (y 2, 1, .inr (.inl gf)))] sz) [(o, .inl (y 2, 1, .inr (.inl gf)))]) (va_A [(h0, .inr (15, [w1, w2, w3, w4, w5, w6, w7, w8, w9, w10, w11, .ref ou, w12, w13, w14])), (ou, .inr (4, [w15, w16, .int 0])), (o, .inl (y 2, 1, .inr (.inl gf)))] sz)) 1 6 (va_A [(h0, .inr (15, [w1, w2, w3, w4, w5, w6, w7, w8, w9, w10, w11, .ref ou, w12, w13, w14])), (ou, .inr (4, [w15, w16, .int 0])), (o, .inl (y 2, 1, .inr (.inl gf)))] sz) := by
  refine zz_ofWH (hh := [(0, 9, 12, 47)]) (cc := cL_out) (maxL := 4) (ret := (some .int)) (by decide) rfl ?_
  intro p e s m args below meth c s₁ B hml htab hv
  obtain ⟨rfl, hsz, hP, hK, hD0, hN, hE, hO, hT, hG⟩ := hv
  have hx := B.exec
  have hb := B.bytes
  have hr := B.returns
  have hts := atoms_spec (ws := wz_c_L_out) B.pre
  have hown : s.vm.findClass RL = some m.cls := findClass_of_methodNamed B.named
  have hlocks := B.notSynchronized
  subst hsz
  have hD := hD0.self (sz := s.heap.size)
  generalize hAe : va_A [(h0, .inr (15, [w1, w2, w3, w4, w5, w6, w7, w8, w9, w10, w11, .ref ou, w12, w13, w14])), (ou, .inr (4, [w15, w16, .int 0])), (o, .inl (y 2, 1, .inr (.inl gf)))] s.heap.size = A at hD hE hT hG ⊢
  have hA : ∀ q : Nat, s.heap.size ≤ q → A q := fun q h => by rw [← hAe]; exact Or.inr h
  have hS : va_S A s.heap s.heap [] := va_S.rf
  have hl := lv_entry ([.ref h0, .int i, .ref o]) (n := 4) (Nat.le_of_ble_eq_true rfl)
  rw [lg_entry_eq]
  generalize (lg_sl ([.ref h0, .int i, .ref o]) ++ List.replicate (4 - (lg_sl ([.ref h0, .int i, .ref o])).length) Slot.unset).toArray = ls at hl ⊢
  have hl : lv_has ls 4 [(0, .ref h0), (1, .int i), (2, .ref o)] := hl
  refine lv_aload_n hx hb dL_out_0 rfl (lv_at hl 2 rfl) ?_
  refine lv_iconst (v := 0) hx hb dL_out_1 (by decide) ?_
  refine lv_aload_n hx hb dL_out_2 rfl (lv_at hl 0 rfl) ?_
  refine lv_iload_n hx hb dL_out_3 rfl (lv_at hl 1 rfl) ?_
  have hPc := hP.sub (ws' := [(h0, .inr (15, [w1, w2, w3, w4, w5, w6, w7, w8, w9, w10, w11, .ref ou, w12, w13, w14])), (ou, .inr (4, [w15, w16, .int 0]))]) [0, 1] rfl
  have hDc := hD.sub (ws' := [(h0, .inr (15, [w1, w2, w3, w4, w5, w6, w7, w8, w9, w10, w11, .ref ou, w12, w13, w14])), (ou, .inr (4, [w15, w16, .int 0]))]) [0, 1] (by decide) rfl
  have hFc := va_free (wc := [(h0, .inr (15, [w1, w2, w3, w4, w5, w6, w7, w8, w9, w10, w11, .ref ou, w12, w13, w14])), (ou, .inr (4, [w15, w16, .int 0]))]) hD hS hA [0, 1] rfl
  refine vx_calli (vx_runV (As := [.int i]) (rest := [.int 0, .ref o]) ⟨hx, hb, hml, hown, hts⟩ (c_X11_out l hl0 D y s.heap.size h0 ou w1 w2 w3 w4 w5 w6 w7 w8 w9 w10 w11 w12 w13 w14 w15 w16 i) (cwV 1 hts gv_c_L_out_c_X11_out_44 rfl rfl rfl (by decide +kernel) ⟨(Nat.le_of_ble_eq_true rfl), (Nat.le_of_ble_eq_true rfl)⟩) (zB.preV hPc hDc hK hN hE hO hT hG hS hFc (List.forall_mem_cons.mpr ⟨List.mem_of_getElem? (i := 0) rfl, (List.forall_mem_cons.mpr ⟨List.mem_of_getElem? (i := 1) rfl, (List.forall_mem_cons.mpr ⟨List.mem_of_getElem? (i := 2) rfl, (List.forall_mem_cons.mpr ⟨List.mem_of_getElem? (i := 3) rfl, (List.forall_mem_cons.mpr ⟨List.mem_of_getElem? (i := 4) rfl, (fun _ h => nomatch h)⟩)⟩)⟩)⟩)⟩) (fun _ h => nomatch h) (fun _ h => h) (fun _ h => nomatch h) (va_recv hK hPc (ci := 15) (q0 := 0) rfl rfl)) rfl rfl hl.1 rfl (lv_room (Nat.le_of_ble_eq_true rfl)) dL_out_4 ⟨(Nat.le_of_ble_eq_true rfl), (Nat.le_of_ble_eq_true rfl)⟩) hS (fun q _ h => hFc q h) hFc (fun q _ h => hFc q h) (fun E ce q9 u t H1 locs ht hvm _ hBX hz1 hk1 hS hce hcv hcl => ?_) (fun r u t H1 locs ht hvm hw hB hz1 hk1 hS => hw.elim)
  have hBX : E = "java/lang/ArrayIndexOutOfBoundsException" := hBX
  subst hBX
  obtain ⟨hP, hD⟩ := va_join (wr := [(o, .inl (y 2, 1, .inr (.inl gf)))]) (w1 := []) hP hD [0, 1] [2] rfl rfl (by decide) (by decide) hk1 hFc (fun k q h => by simp at h) ⟨fun i j p q h => by simp at h, fun k q h => by simp at h⟩
  generalize H1 = H at hP hS hce ⊢
  have hP : va_P D vwCl [(o, .inl (y 2, 1, .inr (.inl gf)))] H := hP
  have hD : va_D A [(o, .inl (y 2, 1, .inr (.inl gf)))] := hD
  refine vx_catch hown [] ⟨0, 9, 12, 47⟩ [] htab (fun z h => nomatch h) (by decide) (by decide) (hts (.classLink RL 47 "java/lang/ArrayIndexOutOfBoundsException") (by decide +kernel)) (va_Nw.use rfl (hN (.castable "java/lang/ArrayIndexOutOfBoundsException" "java/lang/ArrayIndexOutOfBoundsException") (List.mem_of_getElem? (i := 4) rfl)).2) hce hcv hcl ?_
  refine W.eq (g2 := F0 m 12 ls [.ref q9]) rfl ?_
  refine lv_astore_n (lv' := [(3, .ref q9), (0, .ref h0), (1, .int i), (2, .ref o)]) hx hb dL_out_12 rfl hl (by decide) rfl (fun ls hl => ?_)
  refine lv_iconst (v := 1) hx hb dL_out_13 (by decide) ?_
  have hP9 := hP.sub (ws' := [(o, .inl (y 2, 1, .inr (.inl gf)))]) [0] rfl
  have hD9 := hD.sub (ws' := [(o, .inl (y 2, 1, .inr (.inl gf)))]) [0] (by decide) rfl
  refine W.widen (k := 1) (n := 6) (Nat.le_of_ble_eq_true rfl) (Nat.le_of_ble_eq_true rfl) ?_
  exact W.iret (v := 1) hx hb hr (fun t ht hW => ⟨⟨1, (), rfl, rfl, by rw [ht]; exact hP9, hD9⟩, hS.F ht⟩) hS.2.2 dL_out_14
def wz_c_L_look_y : List Cond := .codeWith yL_look cL_look 5 (some .int) [(0, 9, 12, 13)] :: ([.methodLink RL 7 yX11_look, .instanceMethod yX11_look, .selects RX11 yX11_look yX11_look, .initialized RX11] ++ (wz_c_X11_look_y ++ ([])))
set_option maxRecDepth 100000 in
theorem gz_c_L_look_y_c_X11_look_y : GoodIn wz_c_L_look_y wz_c_X11_look_y := goodIn_sub (fun w h => List.mem_cons_of_mem _ (List.mem_append_right _ (List.mem_append_left _ h))) (by decide +kernel)
set_option maxRecDepth 100000 in
theorem gv_c_L_look_y_c_X11_look_y_7 : GoodIn wz_c_L_look_y (wsV RL 7 RX11 yX11_look wz_c_X11_look_y) := goodIn_app (goodIn_of _ (by decide +kernel)) gz_c_L_look_y_c_X11_look_y
set_option maxHeartbeats 4000000 in
set_option maxRecDepth 100000 in
theorem c_L_look_y (l : Launch) (D : va_G) (y : Nat → ClassId) (sz : Nat) (h0 : Nat) (le : Nat) (to : Nat) (tr : Nat) (pk : Nat) (bb : Nat) (w1 : Value) (w2 : Value) (w3 : Value) (w4 : Value) (w5 : Value) (w6 : Value) (w7 : Value) (w8 : Value) (w9 : Value) (w10 : Value) (w11 : Value) (w12 : Value) (w13 : Value) (w14 : Value) (w15 : Value) (w16 : Value) (w17 : Value) (w18 : Value) (w19 : Value) (w20 : Value) (w21 : Value) (o : Nat) (gf : Nat → Int64) (tm : Int64) (h1 : ¬ lg_cmp tm 0 < 0) (h2 : ¬ 0 < lg_cmp tm 4294967295) : Met l yL_look wz_c_L_look_y ({ frames := 5, cells := 0, slots := 0, locals := 113 }) (va_Pc [.ref h0, .long tm, .ref o] (zB D y [(h0, .inr (15, [.ref bb, .ref to, w1, w2, .ref le, .ref pk, w3, w4, w5, w6, w7, w8, w9, w10, w11])), (le, .inr (14, [w12, w13, w14])), (to, .inr (4, [.ref tr, .int 0, .int 0])), (pk, .inr (8, [w15, w16, w17, w18, w19, w20])), (bb, .inr (4, [w21, .int 0, .int 0])), (o, .inl (y 2, 1, .inr (.inl gf)))] sz [] [] [] [])) (va_Qi (fun (r : Int32) (_ : Unit) => r = 0) (fun _ t => va_P D vwCl [(h0, .inr (15, [.ref bb, .ref to, w1, w2, .ref le, .ref pk, w3, w4, w5, w6, w7, w8, w9, w10, w11])), (le, .inr (14, [.ref tr, .int 0, .int 0])), (to, .inr (4, [.ref tr, .int 0, .int 0])), (pk, .inr (8, [w15, w16, .ref bb, .int 0, .int 0, w20])), (bb, .inr (4, [w21, .int 0, .int 0])), (o, .inl (y 2, 1, .inr (.inl (vp_updL gf (0 : Int32).toNatClampNeg (-1)))))] t.heap ∧ va_D (va_A [(h0, .inr (15, [.ref bb, .ref to, w1, w2, .ref le, .ref pk, w3, w4, w5, w6, w7, w8, w9, w10, w11])), (le, .inr (14, [w12, w13, w14])), (to, .inr (4, [.ref tr, .int 0, .int 0])), (pk, .inr (8, [w15, w16, w17, w18, w19, w20])), (bb, .inr (4, [w21, .int 0, .int 0])), (o, .inl (y 2, 1, .inr (.inl gf)))] sz) [(h0, .inr (15, [.ref bb, .ref to, w1, w2, .ref le, .ref pk, w3, w4, w5, w6, w7, w8, w9, w10, w11])), (le, .inr (14, [.ref tr, .int 0, .int 0])), (to, .inr (4, [.ref tr, .int 0, .int 0])), (pk, .inr (8, [w15, w16, .ref bb, .int 0, .int 0, w20])), (bb, .inr (4, [w21, .int 0, .int 0])), (o, .inl (y 2, 1, .inr (.inl (vp_updL gf (0 : Int32).toNatClampNeg (-1)))))]) (va_A [(h0, .inr (15, [.ref bb, .ref to, w1, w2, .ref le, .ref pk, w3, w4, w5, w6, w7, w8, w9, w10, w11])), (le, .inr (14, [w12, w13, w14])), (to, .inr (4, [.ref tr, .int 0, .int 0])), (pk, .inr (8, [w15, w16, w17, w18, w19, w20])), (bb, .inr (4, [w21, .int 0, .int 0])), (o, .inl (y 2, 1, .inr (.inl gf)))] sz)) 0 0 (va_A [(h0, .inr (15, [.ref bb, .ref to, w1, w2, .ref le, .ref pk, w3, w4, w5, w6, w7, w8, w9, w10, w11])), (le, .inr (14, [w12, w13, w14])), (to, .inr (4, [.ref tr, .int 0, .int 0])), (pk, .inr (8, [w15, w16, w17, w18, w19, w20])), (bb, .inr (4, [w21, .int 0, .int 0])), (o, .inl (y 2, 1, .inr (.inl gf)))] sz) := by
  refine zz_ofWH (hh := [(0, 9, 12, 13)]) (cc := cL_look) (maxL := 5) (ret := (some .int)) (by decide) rfl ?_
  intro p e s m args below meth c s₁ B hml htab hv
  obtain ⟨rfl, hsz, hP, hK, hD0, hN, hE, hO, hT, hG⟩ := hv
  have hx := B.exec
  have hb := B.bytes
  have hr := B.returns
  have hts := atoms_spec (ws := wz_c_L_look_y) B.pre
  have hown : s.vm.findClass RL = some m.cls := findClass_of_methodNamed B.named
  have hlocks := B.notSynchronized
  subst hsz
  have hD := hD0.self (sz := s.heap.size)
  generalize hAe : va_A [(h0, .inr (15, [.ref bb, .ref to, w1, w2, .ref le, .ref pk, w3, w4, w5, w6, w7, w8, w9, w10, w11])), (le, .inr (14, [w12, w13, w14])), (to, .inr (4, [.ref tr, .int 0, .int 0])), (pk, .inr (8, [w15, w16, w17, w18, w19, w20])), (bb, .inr (4, [w21, .int 0, .int 0])), (o, .inl (y 2, 1, .inr (.inl gf)))] s.heap.size = A at hD hE hT hG ⊢
  have hA : ∀ q : Nat, s.heap.size ≤ q → A q := fun q h => by rw [← hAe]; exact Or.inr h
  have hS : va_S A s.heap s.heap [] := va_S.rf
  have hl := lv_entry ([.ref h0, .long tm, .ref o]) (n := 5) (Nat.le_of_ble_eq_true rfl)
  rw [lg_entry_eq]
  generalize (lg_sl ([.ref h0, .long tm, .ref o]) ++ List.replicate (5 - (lg_sl ([.ref h0, .long tm, .ref o])).length) Slot.unset).toArray = ls at hl ⊢
  have hl : lv_has ls 5 [(0, .ref h0), (1, .long tm), (3, .ref o)] := hl
  refine lv_aload_n hx hb dL_look_0 rfl (lv_at hl 2 rfl) ?_
  refine lv_iconst (v := 0) hx hb dL_look_1 (by decide) ?_
  refine lv_aload_n hx hb dL_look_2 rfl (lv_at hl 0 rfl) ?_
  refine lv_lload_n hx hb dL_look_3 rfl (lv_at hl 1 rfl) ?_
  have hPc := hP.sub (ws' := [(h0, .inr (15, [.ref bb, .ref to, w1, w2, .ref le, .ref pk, w3, w4, w5, w6, w7, w8, w9, w10, w11])), (le, .inr (14, [w12, w13, w14])), (to, .inr (4, [.ref tr, .int 0, .int 0])), (pk, .inr (8, [w15, w16, w17, w18, w19, w20])), (bb, .inr (4, [w21, .int 0, .int 0]))]) [0, 1, 2, 3, 4] rfl
  have hDc := hD.sub (ws' := [(h0, .inr (15, [.ref bb, .ref to, w1, w2, .ref le, .ref pk, w3, w4, w5, w6, w7, w8, w9, w10, w11])), (le, .inr (14, [w12, w13, w14])), (to, .inr (4, [.ref tr, .int 0, .int 0])), (pk, .inr (8, [w15, w16, w17, w18, w19, w20])), (bb, .inr (4, [w21, .int 0, .int 0]))]) [0, 1, 2, 3, 4] (by decide) rfl
  have hFc := va_free (wc := [(h0, .inr (15, [.ref bb, .ref to, w1, w2, .ref le, .ref pk, w3, w4, w5, w6, w7, w8, w9, w10, w11])), (le, .inr (14, [w12, w13, w14])), (to, .inr (4, [.ref tr, .int 0, .int 0])), (pk, .inr (8, [w15, w16, w17, w18, w19, w20])), (bb, .inr (4, [w21, .int 0, .int 0]))]) hD hS hA [0, 1, 2, 3, 4] rfl
  refine va_calli (va_runV (As := [.long tm]) (rest := [.int 0, .ref o]) ⟨hx, hb, hml, hown, hts⟩ (c_X11_look_y l D y s.heap.size h0 le to tr pk bb w1 w2 w3 w4 w5 w6 w7 w8 w9 w10 w11 w12 w13 w14 w15 w16 w17 w18 w19 w20 w21 tm h1 h2) (cwV 1 hts gv_c_L_look_y_c_X11_look_y_7 rfl rfl rfl (by decide +kernel) ⟨(Nat.le_of_ble_eq_true rfl), (Nat.le_of_ble_eq_true rfl)⟩) (zB.preV hPc hDc hK hN hE hO hT hG hS hFc (fun _ h => nomatch h) (fun _ h => nomatch h) (fun _ h => nomatch h) (fun _ h => nomatch h) (va_recv hK hPc (ci := 15) (q0 := 0) rfl rfl)) rfl rfl hl.1 rfl (lv_room (Nat.le_of_ble_eq_true rfl)) dL_look_4 ⟨(Nat.le_of_ble_eq_true rfl), (Nat.le_of_ble_eq_true rfl)⟩) hS (fun q _ h => hFc q h) hFc (fun r1 u t H1 locs ht hvm hw hB hz1 hk1 hS => ?_)
  obtain ⟨hP1, hD1⟩ := hB
  rw [ht] at hP1
  obtain ⟨hP, hD⟩ := va_join (wr := [(o, .inl (y 2, 1, .inr (.inl gf)))]) (w1 := [(h0, .inr (15, [.ref bb, .ref to, w1, w2, .ref le, .ref pk, w3, w4, w5, w6, w7, w8, w9, w10, w11])), (le, .inr (14, [.ref tr, .int 0, .int 0])), (to, .inr (4, [.ref tr, .int 0, .int 0])), (pk, .inr (8, [w15, w16, .ref bb, .int 0, .int 0, w20])), (bb, .inr (4, [w21, .int 0, .int 0]))]) hP hD [0, 1, 2, 3, 4] [5] rfl rfl (by decide) (by decide) hk1 hFc hP1 hD1
  generalize H1 = H at hP hS ⊢
  have hP : va_P D vwCl [(o, .inl (y 2, 1, .inr (.inl gf))), (h0, .inr (15, [.ref bb, .ref to, w1, w2, .ref le, .ref pk, w3, w4, w5, w6, w7, w8, w9, w10, w11])), (le, .inr (14, [.ref tr, .int 0, .int 0])), (to, .inr (4, [.ref tr, .int 0, .int 0])), (pk, .inr (8, [w15, w16, .ref bb, .int 0, .int 0, w20])), (bb, .inr (4, [w21, .int 0, .int 0]))] H := hP
  have hD : va_D A [(o, .inl (y 2, 1, .inr (.inl gf))), (h0, .inr (15, [.ref bb, .ref to, w1, w2, .ref le, .ref pk, w3, w4, w5, w6, w7, w8, w9, w10, w11])), (le, .inr (14, [.ref tr, .int 0, .int 0])), (to, .inr (4, [.ref tr, .int 0, .int 0])), (pk, .inr (8, [w15, w16, .ref bb, .int 0, .int 0, w20])), (bb, .inr (4, [w21, .int 0, .int 0]))] := hD
  have hw : r1 = -1 := hw
  subst hw
  refine lv_i2l (v := -1) hx hb dL_look_7 (by decide +kernel) ?_
  refine va_last hx hb hK hP hD hS 0 2 rfl rfl (by unfold vp_in; decide) dL_look_8 (fun H locs hP hD hS => ?_)
  have hP : va_P D vwCl [(o, .inl (y 2, 1, .inr (.inl (vp_updL gf (0 : Int32).toNatClampNeg (-1))))), (h0, .inr (15, [.ref bb, .ref to, w1, w2, .ref le, .ref pk, w3, w4, w5, w6, w7, w8, w9, w10, w11])), (le, .inr (14, [.ref tr, .int 0, .int 0])), (to, .inr (4, [.ref tr, .int 0, .int 0])), (pk, .inr (8, [w15, w16, .ref bb, .int 0, .int 0, w20])), (bb, .inr (4, [w21, .int 0, .int 0]))] H := hP
  have hD : va_D A [(o, .inl (y 2, 1, .inr (.inl (vp_updL gf (0 : Int32).toNatClampNeg (-1))))), (h0, .inr (15, [.ref bb, .ref to, w1, w2, .ref le, .ref pk, w3, w4, w5, w6, w7, w8, w9, w10, w11])), (le, .inr (14, [.ref tr, .int 0, .int 0])), (to, .inr (4, [.ref tr, .int 0, .int 0])), (pk, .inr (8, [w15, w16, .ref bb, .int 0, .int 0, w20])), (bb, .inr (4, [w21, .int 0, .int 0]))] := hD
  refine lv_goto (tgt := 16) hx hb dL_look_9 (by decide) ?_
  refine lv_iconst (v := 0) hx hb dL_look_16 (by decide) ?_
  have hP9 := hP.sub (ws' := [(h0, .inr (15, [.ref bb, .ref to, w1, w2, .ref le, .ref pk, w3, w4, w5, w6, w7, w8, w9, w10, w11])), (le, .inr (14, [.ref tr, .int 0, .int 0])), (to, .inr (4, [.ref tr, .int 0, .int 0])), (pk, .inr (8, [w15, w16, .ref bb, .int 0, .int 0, w20])), (bb, .inr (4, [w21, .int 0, .int 0])), (o, .inl (y 2, 1, .inr (.inl (vp_updL gf (0 : Int32).toNatClampNeg (-1)))))]) [1, 2, 3, 4, 5, 0] rfl
  have hD9 := hD.sub (ws' := [(h0, .inr (15, [.ref bb, .ref to, w1, w2, .ref le, .ref pk, w3, w4, w5, w6, w7, w8, w9, w10, w11])), (le, .inr (14, [.ref tr, .int 0, .int 0])), (to, .inr (4, [.ref tr, .int 0, .int 0])), (pk, .inr (8, [w15, w16, .ref bb, .int 0, .int 0, w20])), (bb, .inr (4, [w21, .int 0, .int 0])), (o, .inl (y 2, 1, .inr (.inl (vp_updL gf (0 : Int32).toNatClampNeg (-1)))))]) [1, 2, 3, 4, 5, 0] (by decide) rfl
  refine W.widen (k := 0) (n := 0) (Nat.le_of_ble_eq_true rfl) (Nat.le_of_ble_eq_true rfl) ?_
  exact W.iret (v := 0) hx hb hr (fun t ht hW => ⟨⟨0, (), rfl, rfl, by rw [ht]; exact hP9, hD9⟩, hS.F ht⟩) hS.2.2 dL_look_17
def wz_c_L_look_n : List Cond := .codeWith yL_look cL_look 5 (some .int) [(0, 9, 12, 13)] :: ([.methodLink RL 7 yX11_look, .instanceMethod yX11_look, .selects RX11 yX11_look yX11_look, .initialized RX11, .classLink RL 13 "java/lang/IllegalArgumentException"] ++ (wz_c_X11_look_n ++ ([])))
set_option maxRecDepth 100000 in
theorem gz_c_L_look_n_c_X11_look_n : GoodIn wz_c_L_look_n wz_c_X11_look_n := goodIn_sub (fun w h => List.mem_cons_of_mem _ (List.mem_append_right _ (List.mem_append_left _ h))) (by decide +kernel)
set_option maxRecDepth 100000 in
theorem gv_c_L_look_n_c_X11_look_n_7 : GoodIn wz_c_L_look_n (wsV RL 7 RX11 yX11_look wz_c_X11_look_n) := goodIn_app (goodIn_of _ (by decide +kernel)) gz_c_L_look_n_c_X11_look_n
set_option maxHeartbeats 4000000 in
set_option maxRecDepth 100000 in
theorem c_L_look_n (l : Launch) (hl0 : l.stackTraces = false) (D : va_G) (y : Nat → ClassId) (sz : Nat) (h0 : Nat) (w1 : Value) (w2 : Value) (w3 : Value) (w4 : Value) (w5 : Value) (w6 : Value) (w7 : Value) (w8 : Value) (w9 : Value) (w10 : Value) (w11 : Value) (w12 : Value) (w13 : Value) (w14 : Value) (w15 : Value) (o : Nat) (gf : Nat → Int64) (tm : Int64) (h1 : lg_cmp tm 0 < 0) : Met l yL_look wz_c_L_look_n ({ frames := 7, cells := 1, slots := 6, locals := 105 }) (va_Pc [.ref h0, .long tm, .ref o] (zB D y [(h0, .inr (15, [w1, w2, w3, w4, w5, w6, w7, w8, w9, w10, w11, w12, w13, w14, w15])), (o, .inl (y 2, 1, .inr (.inl gf)))] sz [.declares (Bundle.init0 "java/lang/RuntimeException"), .declares (Bundle.init0 "java/lang/Exception"), .declares (Bundle.init0 "java/lang/Throwable"), .castable "java/lang/IllegalArgumentException" "java/lang/IllegalArgumentException"] [] zTh [])) (va_Qi (fun (r : Int32) (_ : Unit) => r = 1) (fun _ t => va_P D vwCl [(o, .inl (y 2, 1, .inr (.inl gf)))] t.heap ∧ va_D (va_A [(h0, .inr (15, [w1, w2, w3, w4, w5, w6, w7, w8, w9, w10, w11, w12, w13, w14, w15])), (o, .inl (y 2, 1, .inr (.inl gf)))] sz) [(o, .inl (y 2, 1, .inr (.inl gf)))]) (va_A [(h0, .inr (15, [w1, w2, w3, w4, w5, w6, w7, w8, w9, w10, w11, w12, w13, w14, w15])), (o, .inl (y 2, 1, .inr (.inl gf)))] sz)) 1 6 (va_A [(h0, .inr (15, [w1, w2, w3, w4, w5, w6, w7, w8, w9, w10, w11, w12, w13, w14, w15])), (o, .inl (y 2, 1, .inr (.inl gf)))] sz) := by
  refine zz_ofWH (hh := [(0, 9, 12, 13)]) (cc := cL_look) (maxL := 5) (ret := (some .int)) (by decide) rfl ?_
  intro p e s m args below meth c s₁ B hml htab hv
  obtain ⟨rfl, hsz, hP, hK, hD0, hN, hE, hO, hT, hG⟩ := hv
  have hx := B.exec
  have hb := B.bytes
  have hr := B.returns
  have hts := atoms_spec (ws := wz_c_L_look_n) B.pre
  have hown : s.vm.findClass RL = some m.cls := findClass_of_methodNamed B.named
  have hlocks := B.notSynchronized
  subst hsz
  have hD := hD0.self (sz := s.heap.size)
  generalize hAe : va_A [(h0, .inr (15, [w1, w2, w3, w4, w5, w6, w7, w8, w9, w10, w11, w12, w13, w14, w15])), (o, .inl (y 2, 1, .inr (.inl gf)))] s.heap.size = A at hD hE hT hG ⊢
  have hA : ∀ q : Nat, s.heap.size ≤ q → A q := fun q h => by rw [← hAe]; exact Or.inr h
  have hS : va_S A s.heap s.heap [] := va_S.rf
  have hl := lv_entry ([.ref h0, .long tm, .ref o]) (n := 5) (Nat.le_of_ble_eq_true rfl)
  rw [lg_entry_eq]
  generalize (lg_sl ([.ref h0, .long tm, .ref o]) ++ List.replicate (5 - (lg_sl ([.ref h0, .long tm, .ref o])).length) Slot.unset).toArray = ls at hl ⊢
  have hl : lv_has ls 5 [(0, .ref h0), (1, .long tm), (3, .ref o)] := hl
  refine lv_aload_n hx hb dL_look_0 rfl (lv_at hl 2 rfl) ?_
  refine lv_iconst (v := 0) hx hb dL_look_1 (by decide) ?_
  refine lv_aload_n hx hb dL_look_2 rfl (lv_at hl 0 rfl) ?_
  refine lv_lload_n hx hb dL_look_3 rfl (lv_at hl 1 rfl) ?_
  have hPc := hP.sub (ws' := [(h0, .inr (15, [w1, w2, w3, w4, w5, w6, w7, w8, w9, w10, w11, w12, w13, w14, w15]))]) [0] rfl
  have hDc := hD.sub (ws' := [(h0, .inr (15, [w1, w2, w3, w4, w5, w6, w7, w8, w9, w10, w11, w12, w13, w14, w15]))]) [0] (by decide) rfl
  have hFc := va_free (wc := [(h0, .inr (15, [w1, w2, w3, w4, w5, w6, w7, w8, w9, w10, w11, w12, w13, w14, w15]))]) hD hS hA [0] rfl
  refine vx_calli (vx_runV (As := [.long tm]) (rest := [.int 0, .ref o]) ⟨hx, hb, hml, hown, hts⟩ (c_X11_look_n l hl0 D y s.heap.size h0 w1 w2 w3 w4 w5 w6 w7 w8 w9 w10 w11 w12 w13 w14 w15 tm h1) (cwV 1 hts gv_c_L_look_n_c_X11_look_n_7 rfl rfl rfl (by decide +kernel) ⟨(Nat.le_of_ble_eq_true rfl), (Nat.le_of_ble_eq_true rfl)⟩) (zB.preV hPc hDc hK hN hE hO hT hG hS hFc (List.forall_mem_cons.mpr ⟨List.mem_of_getElem? (i := 0) rfl, (List.forall_mem_cons.mpr ⟨List.mem_of_getElem? (i := 1) rfl, (List.forall_mem_cons.mpr ⟨List.mem_of_getElem? (i := 2) rfl, (List.forall_mem_cons.mpr ⟨List.mem_of_getElem? (i := 3) rfl, (fun _ h => nomatch h)⟩)⟩)⟩)⟩) (fun _ h => nomatch h) (fun _ h => h) (fun _ h => nomatch h) (va_recv hK hPc (ci := 15) (q0 := 0) rfl rfl)) rfl rfl hl.1 rfl (lv_room (Nat.le_of_ble_eq_true rfl)) dL_look_4 ⟨(Nat.le_of_ble_eq_true rfl), (Nat.le_of_ble_eq_true rfl)⟩) hS (fun q _ h => hFc q h) hFc (fun q _ h => hFc q h) (fun E ce q9 u t H1 locs ht hvm _ hBX hz1 hk1 hS hce hcv hcl => ?_) (fun r u t H1 locs ht hvm hw hB hz1 hk1 hS => hw.elim)
  have hBX : E = "java/lang/IllegalArgumentException" := hBX
  subst hBX
  obtain ⟨hP, hD⟩ := va_join (wr := [(o, .inl (y 2, 1, .inr (.inl gf)))]) (w1 := []) hP hD [0] [1] rfl rfl (by decide) (by decide) hk1 hFc (fun k q h => by simp at h) ⟨fun i j p q h => by simp at h, fun k q h => by simp at h⟩
  generalize H1 = H at hP hS hce ⊢
  have hP : va_P D vwCl [(o, .inl (y 2, 1, .inr (.inl gf)))] H := hP
  have hD : va_D A [(o, .inl (y 2, 1, .inr (.inl gf)))] := hD
  refine vx_catch hown [] ⟨0, 9, 12, 13⟩ [] htab (fun z h => nomatch h) (by decide) (by decide) (hts (.classLink RL 13 "java/lang/IllegalArgumentException") (by decide +kernel)) (va_Nw.use rfl (hN (.castable "java/lang/IllegalArgumentException" "java/lang/IllegalArgumentException") (List.mem_of_getElem? (i := 3) rfl)).2) hce hcv hcl ?_
  refine W.eq (g2 := F0 m 12 ls [.ref q9]) rfl ?_
  refine lv_astore (lv' := [(4, .ref q9), (0, .ref h0), (1, .long tm), (3, .ref o)]) hx hb dL_look_12 hl (by decide) rfl (fun ls hl => ?_)
  refine lv_iconst (v := 1) hx hb dL_look_14 (by decide) ?_
  have hP9 := hP.sub (ws' := [(o, .inl (y 2, 1, .inr (.inl gf)))]) [0] rfl
  have hD9 := hD.sub (ws' := [(o, .inl (y 2, 1, .inr (.inl gf)))]) [0] (by decide) rfl
  refine W.widen (k := 1) (n := 6) (Nat.le_of_ble_eq_true rfl) (Nat.le_of_ble_eq_true rfl) ?_
  exact W.iret (v := 1) hx hb hr (fun t ht hW => ⟨⟨1, (), rfl, rfl, by rw [ht]; exact hP9, hD9⟩, hS.F ht⟩) hS.2.2 dL_look_15
def wz_c_L_look_m : List Cond := .codeWith yL_look cL_look 5 (some .int) [(0, 9, 12, 13)] :: ([.methodLink RL 7 yX11_look, .instanceMethod yX11_look, .selects RX11 yX11_look yX11_look, .initialized RX11, .classLink RL 13 "java/lang/IllegalArgumentException"] ++ (wz_c_X11_look_m ++ ([])))
set_option maxRecDepth 100000 in
theorem gz_c_L_look_m_c_X11_look_m : GoodIn wz_c_L_look_m wz_c_X11_look_m := goodIn_sub (fun w h => List.mem_cons_of_mem _ (List.mem_append_right _ (List.mem_append_left _ h))) (by decide +kernel)
set_option maxRecDepth 100000 in
theorem gv_c_L_look_m_c_X11_look_m_7 : GoodIn wz_c_L_look_m (wsV RL 7 RX11 yX11_look wz_c_X11_look_m) := goodIn_app (goodIn_of _ (by decide +kernel)) gz_c_L_look_m_c_X11_look_m
set_option maxHeartbeats 4000000 in
set_option maxRecDepth 100000 in
theorem c_L_look_m (l : Launch) (hl0 : l.stackTraces = false) (D : va_G) (y : Nat → ClassId) (sz : Nat) (h0 : Nat) (w1 : Value) (w2 : Value) (w3 : Value) (w4 : Value) (w5 : Value) (w6 : Value) (w7 : Value) (w8 : Value) (w9 : Value) (w10 : Value) (w11 : Value) (w12 : Value) (w13 : Value) (w14 : Value) (w15 : Value) (o : Nat) (gf : Nat → Int64) (tm : Int64) (h1 : ¬ lg_cmp tm 0 < 0) (h2 : 0 < lg_cmp tm 4294967295) : Met l yL_look wz_c_L_look_m ({ frames := 7, cells := 1, slots := 6, locals := 105 }) (va_Pc [.ref h0, .long tm, .ref o] (zB D y [(h0, .inr (15, [w1, w2, w3, w4, w5, w6, w7, w8, w9, w10, w11, w12, w13, w14, w15])), (o, .inl (y 2, 1, .inr (.inl gf)))] sz [.declares (Bundle.init0 "java/lang/RuntimeException"), .declares (Bundle.init0 "java/lang/Exception"), .declares (Bundle.init0 "java/lang/Throwable"), .castable "java/lang/IllegalArgumentException" "java/lang/IllegalArgumentException"] [] zTh [])) (va_Qi (fun (r : Int32) (_ : Unit) => r = 1) (fun _ t => va_P D vwCl [(o, .inl (y 2, 1, .inr (.inl gf)))] t.heap ∧ va_D (va_A [(h0, .inr (15, [w1, w2, w3, w4, w5, w6, w7, w8, w9, w10, w11, w12, w13, w14, w15])), (o, .inl (y 2, 1, .inr (.inl gf)))] sz) [(o, .inl (y 2, 1, .inr (.inl gf)))]) (va_A [(h0, .inr (15, [w1, w2, w3, w4, w5, w6, w7, w8, w9, w10, w11, w12, w13, w14, w15])), (o, .inl (y 2, 1, .inr (.inl gf)))] sz)) 1 6 (va_A [(h0, .inr (15, [w1, w2, w3, w4, w5, w6, w7, w8, w9, w10, w11, w12, w13, w14, w15])), (o, .inl (y 2, 1, .inr (.inl gf)))] sz) := by
  refine zz_ofWH (hh := [(0, 9, 12, 13)]) (cc := cL_look) (maxL := 5) (ret := (some .int)) (by decide) rfl ?_
  intro p e s m args below meth c s₁ B hml htab hv
  obtain ⟨rfl, hsz, hP, hK, hD0, hN, hE, hO, hT, hG⟩ := hv
  have hx := B.exec
  have hb := B.bytes
  have hr := B.returns
  have hts := atoms_spec (ws := wz_c_L_look_m) B.pre
  have hown : s.vm.findClass RL = some m.cls := findClass_of_methodNamed B.named
  have hlocks := B.notSynchronized
  subst hsz
  have hD := hD0.self (sz := s.heap.size)
  generalize hAe : va_A [(h0, .inr (15, [w1, w2, w3, w4, w5, w6, w7, w8, w9, w10, w11, w12, w13, w14, w15])), (o, .inl (y 2, 1, .inr (.inl gf)))] s.heap.size = A at hD hE hT hG ⊢
  have hA : ∀ q : Nat, s.heap.size ≤ q → A q := fun q h => by rw [← hAe]; exact Or.inr h
  have hS : va_S A s.heap s.heap [] := va_S.rf
  have hl := lv_entry ([.ref h0, .long tm, .ref o]) (n := 5) (Nat.le_of_ble_eq_true rfl)
  rw [lg_entry_eq]
  generalize (lg_sl ([.ref h0, .long tm, .ref o]) ++ List.replicate (5 - (lg_sl ([.ref h0, .long tm, .ref o])).length) Slot.unset).toArray = ls at hl ⊢
  have hl : lv_has ls 5 [(0, .ref h0), (1, .long tm), (3, .ref o)] := hl
  refine lv_aload_n hx hb dL_look_0 rfl (lv_at hl 2 rfl) ?_
  refine lv_iconst (v := 0) hx hb dL_look_1 (by decide) ?_
  refine lv_aload_n hx hb dL_look_2 rfl (lv_at hl 0 rfl) ?_
  refine lv_lload_n hx hb dL_look_3 rfl (lv_at hl 1 rfl) ?_
  have hPc := hP.sub (ws' := [(h0, .inr (15, [w1, w2, w3, w4, w5, w6, w7, w8, w9, w10, w11, w12, w13, w14, w15]))]) [0] rfl
  have hDc := hD.sub (ws' := [(h0, .inr (15, [w1, w2, w3, w4, w5, w6, w7, w8, w9, w10, w11, w12, w13, w14, w15]))]) [0] (by decide) rfl
  have hFc := va_free (wc := [(h0, .inr (15, [w1, w2, w3, w4, w5, w6, w7, w8, w9, w10, w11, w12, w13, w14, w15]))]) hD hS hA [0] rfl
  refine vx_calli (vx_runV (As := [.long tm]) (rest := [.int 0, .ref o]) ⟨hx, hb, hml, hown, hts⟩ (c_X11_look_m l hl0 D y s.heap.size h0 w1 w2 w3 w4 w5 w6 w7 w8 w9 w10 w11 w12 w13 w14 w15 tm h1 h2) (cwV 1 hts gv_c_L_look_m_c_X11_look_m_7 rfl rfl rfl (by decide +kernel) ⟨(Nat.le_of_ble_eq_true rfl), (Nat.le_of_ble_eq_true rfl)⟩) (zB.preV hPc hDc hK hN hE hO hT hG hS hFc (List.forall_mem_cons.mpr ⟨List.mem_of_getElem? (i := 0) rfl, (List.forall_mem_cons.mpr ⟨List.mem_of_getElem? (i := 1) rfl, (List.forall_mem_cons.mpr ⟨List.mem_of_getElem? (i := 2) rfl, (List.forall_mem_cons.mpr ⟨List.mem_of_getElem? (i := 3) rfl, (fun _ h => nomatch h)⟩)⟩)⟩)⟩) (fun _ h => nomatch h) (fun _ h => h) (fun _ h => nomatch h) (va_recv hK hPc (ci := 15) (q0 := 0) rfl rfl)) rfl rfl hl.1 rfl (lv_room (Nat.le_of_ble_eq_true rfl)) dL_look_4 ⟨(Nat.le_of_ble_eq_true rfl), (Nat.le_of_ble_eq_true rfl)⟩) hS (fun q _ h => hFc q h) hFc (fun q _ h => hFc q h) (fun E ce q9 u t H1 locs ht hvm _ hBX hz1 hk1 hS hce hcv hcl => ?_) (fun r u t H1 locs ht hvm hw hB hz1 hk1 hS => hw.elim)
  have hBX : E = "java/lang/IllegalArgumentException" := hBX
  subst hBX
  obtain ⟨hP, hD⟩ := va_join (wr := [(o, .inl (y 2, 1, .inr (.inl gf)))]) (w1 := []) hP hD [0] [1] rfl rfl (by decide) (by decide) hk1 hFc (fun k q h => by simp at h) ⟨fun i j p q h => by simp at h, fun k q h => by simp at h⟩
  generalize H1 = H at hP hS hce ⊢
  have hP : va_P D vwCl [(o, .inl (y 2, 1, .inr (.inl gf)))] H := hP
  have hD : va_D A [(o, .inl (y 2, 1, .inr (.inl gf)))] := hD
  refine vx_catch hown [] ⟨0, 9, 12, 13⟩ [] htab (fun z h => nomatch h) (by decide) (by decide) (hts (.classLink RL 13 "java/lang/IllegalArgumentException") (by decide +kernel)) (va_Nw.use rfl (hN (.castable "java/lang/IllegalArgumentException" "java/lang/IllegalArgumentException") (List.mem_of_getElem? (i := 3) rfl)).2) hce hcv hcl ?_
  refine W.eq (g2 := F0 m 12 ls [.ref q9]) rfl ?_
  refine lv_astore (lv' := [(4, .ref q9), (0, .ref h0), (1, .long tm), (3, .ref o)]) hx hb dL_look_12 hl (by decide) rfl (fun ls hl => ?_)
  refine lv_iconst (v := 1) hx hb dL_look_14 (by decide) ?_
  have hP9 := hP.sub (ws' := [(o, .inl (y 2, 1, .inr (.inl gf)))]) [0] rfl
  have hD9 := hD.sub (ws' := [(o, .inl (y 2, 1, .inr (.inl gf)))]) [0] (by decide) rfl
  refine W.widen (k := 1) (n := 6) (Nat.le_of_ble_eq_true rfl) (Nat.le_of_ble_eq_true rfl) ?_
  exact W.iret (v := 1) hx hb hr (fun t ht hW => ⟨⟨1, (), rfl, rfl, by rw [ht]; exact hP9, hD9⟩, hS.F ht⟩) hS.2.2 dL_look_15

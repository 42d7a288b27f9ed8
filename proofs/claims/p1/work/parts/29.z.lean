def wz_c_L_hash_1 : List Cond := .codeWith yL_hash cL_hash 5 (some .int) [(0, 10, 13, 13), (0, 10, 17, 19)] :: ([.methodLink RL 52 yX11_hash, .instanceMethod yX11_hash, .selects RX11 yX11_hash yX11_hash, .initialized RX11] ++ (wz_c_X11_hash_1 ++ ([])))
set_option maxRecDepth 100000 in
theorem gz_c_L_hash_1_c_X11_hash_1 : GoodIn wz_c_L_hash_1 wz_c_X11_hash_1 := goodIn_sub (fun w h => List.mem_cons_of_mem _ (List.mem_append_right _ (List.mem_append_left _ h))) (by decide +kernel)
set_option maxRecDepth 100000 in
theorem gv_c_L_hash_1_c_X11_hash_1_52 : GoodIn wz_c_L_hash_1 (wsV RL 52 RX11 yX11_hash wz_c_X11_hash_1) := goodIn_app (goodIn_of _ (by decide +kernel)) gz_c_L_hash_1_c_X11_hash_1
set_option maxHeartbeats 4000000 in
set_option maxRecDepth 100000 in
theorem c_L_hash_1 (l : Launch) (D : va_G) (y : Nat → ClassId) (sz : Nat) (h0 : Nat) (dg : Nat) (to : Nat) (st : Nat) (wd : Nat) (w1 : Value) (w2 : Value) (w3 : Value) (w4 : Value) (w5 : Value) (w6 : Value) (w7 : Value) (w8 : Value) (w9 : Value) (w10 : Value) (w11 : Value) (w12 : Value) (w13 : Value) (w14 : Value) (o : Nat) (j : Nat) (f : Nat → Int32) (g : Nat → Int32) (gf : Nat → Int64) (e1 : Nat) (hj : j < 20) : Met l yL_hash wz_c_L_hash_1 ({ frames := 4, cells := 0, slots := 0, locals := 97 }) (va_Pc [.ref h0, .int 1, .int (nI j), .ref o] (zB D y [(h0, .inr (15, [w1, .ref to, w2, w3, w4, w5, w6, .ref dg, w7, w8, w9, w10, w11, .int 0, w12])), (dg, .inr (5, [.ref st, .ref wd, w13])), (to, .inr (4, [w14, .int 0, .int 0])), (st, .inl (y 1, 8, .inl f)), (wd, .inl (y 1, 80, .inl g)), (o, .inl (y 2, 1, .inr (.inl gf)))] sz [] [("SignetRing$Digest", "START_FIRST", "[I", .ref e1)] [] [.inl (e1, 8, tS1)])) (va_Qi (fun (r : Int32) (_ : Unit) => r = 0) (fun _ t => va_P D vwCl [(h0, .inr (15, [w1, .ref to, w2, w3, w4, w5, w6, .ref dg, w7, w8, w9, w10, w11, .int 1, w12])), (dg, .inr (5, [.ref st, .ref wd, .int 0])), (to, .inr (4, [w14, .int 0, .int 0])), (st, .inl (y 1, 8, .inl (zf tD1 5 (zf tS1 8 f)))), (wd, .inl (y 1, 80, .inl (zf tW1 80 g))), (o, .inl (y 2, 1, .inr (.inl (vp_updL gf (0 : Int32).toNatClampNeg ((tO1 j).toInt64)))))] t.heap ∧ va_D (va_A [(h0, .inr (15, [w1, .ref to, w2, w3, w4, w5, w6, .ref dg, w7, w8, w9, w10, w11, .int 0, w12])), (dg, .inr (5, [.ref st, .ref wd, w13])), (to, .inr (4, [w14, .int 0, .int 0])), (st, .inl (y 1, 8, .inl f)), (wd, .inl (y 1, 80, .inl g)), (o, .inl (y 2, 1, .inr (.inl gf)))] sz) [(h0, .inr (15, [w1, .ref to, w2, w3, w4, w5, w6, .ref dg, w7, w8, w9, w10, w11, .int 1, w12])), (dg, .inr (5, [.ref st, .ref wd, .int 0])), (to, .inr (4, [w14, .int 0, .int 0])), (st, .inl (y 1, 8, .inl (zf tD1 5 (zf tS1 8 f)))), (wd, .inl (y 1, 80, .inl (zf tW1 80 g))), (o, .inl (y 2, 1, .inr (.inl (vp_updL gf (0 : Int32).toNatClampNeg ((tO1 j).toInt64)))))]) (va_A [(h0, .inr (15, [w1, .ref to, w2, w3, w4, w5, w6, .ref dg, w7, w8, w9, w10, w11, .int 0, w12])), (dg, .inr (5, [.ref st, .ref wd, w13])), (to, .inr (4, [w14, .int 0, .int 0])), (st, .inl (y 1, 8, .inl f)), (wd, .inl (y 1, 80, .inl g)), (o, .inl (y 2, 1, .inr (.inl gf)))] sz)) 0 0 (va_A [(h0, .inr (15, [w1, .ref to, w2, w3, w4, w5, w6, .ref dg, w7, w8, w9, w10, w11, .int 0, w12])), (dg, .inr (5, [.ref st, .ref wd, w13])), (to, .inr (4, [w14, .int 0, .int 0])), (st, .inl (y 1, 8, .inl f)), (wd, .inl (y 1, 80, .inl g)), (o, .inl (y 2, 1, .inr (.inl gf)))] sz) := by
  refine zz_ofWH (hh := [(0, 10, 13, 13), (0, 10, 17, 19)]) (cc := cL_hash) (maxL := 5) (ret := (some .int)) (by decide) rfl ?_
  intro p e s m args below meth c s₁ B hml htab hv
  obtain ⟨rfl, hsz, hP, hK, hD0, hN, hE, hO, hT, hG⟩ := hv
  have hx := B.exec
  have hb := B.bytes
  have hr := B.returns
  have hts := atoms_spec (ws := wz_c_L_hash_1) B.pre
  have hown : s.vm.findClass RL = some m.cls := findClass_of_methodNamed B.named
  have hlocks := B.notSynchronized
  subst hsz
  have hD := hD0.self (sz := s.heap.size)
  generalize hAe : va_A [(h0, .inr (15, [w1, .ref to, w2, w3, w4, w5, w6, .ref dg, w7, w8, w9, w10, w11, .int 0, w12])), (dg, .inr (5, [.ref st, .ref wd, w13])), (to, .inr (4, [w14, .int 0, .int 0])), (st, .inl (y 1, 8, .inl f)), (wd, .inl (y 1, 80, .inl g)), (o, .inl (y 2, 1, .inr (.inl gf)))] s.heap.size = A at hD hE hT hG ⊢
  have hA : ∀ q : Nat, s.heap.size ≤ q → A q := fun q h => by rw [← hAe]; exact Or.inr h
  have hS : va_S A s.heap s.heap [] := va_S.rf
  have hl := lv_entry ([.ref h0, .int 1, .int (nI j), .ref o]) (n := 5) (Nat.le_of_ble_eq_true rfl)
  rw [lg_entry_eq]
  generalize (lg_sl ([.ref h0, .int 1, .int (nI j), .ref o]) ++ List.replicate (5 - (lg_sl ([.ref h0, .int 1, .int (nI j), .ref o])).length) Slot.unset).toArray = ls at hl ⊢
  have hl : lv_has ls 5 [(0, .ref h0), (1, .int 1), (2, .int (nI j)), (3, .ref o)] := hl
  refine lv_aload_n hx hb dL_hash_0 rfl (lv_at hl 3 rfl) ?_
  refine lv_iconst (v := 0) hx hb dL_hash_1 (by decide) ?_
  refine lv_aload_n hx hb dL_hash_2 rfl (lv_at hl 0 rfl) ?_
  refine lv_iload_n hx hb dL_hash_3 rfl (lv_at hl 1 rfl) ?_
  refine lv_iload_n hx hb dL_hash_4 rfl (lv_at hl 2 rfl) ?_
  have hPc := hP.sub (ws' := [(h0, .inr (15, [w1, .ref to, w2, w3, w4, w5, w6, .ref dg, w7, w8, w9, w10, w11, .int 0, w12])), (dg, .inr (5, [.ref st, .ref wd, w13])), (to, .inr (4, [w14, .int 0, .int 0])), (st, .inl (y 1, 8, .inl f)), (wd, .inl (y 1, 80, .inl g))]) [0, 1, 2, 3, 4] rfl
  have hDc := hD.sub (ws' := [(h0, .inr (15, [w1, .ref to, w2, w3, w4, w5, w6, .ref dg, w7, w8, w9, w10, w11, .int 0, w12])), (dg, .inr (5, [.ref st, .ref wd, w13])), (to, .inr (4, [w14, .int 0, .int 0])), (st, .inl (y 1, 8, .inl f)), (wd, .inl (y 1, 80, .inl g))]) [0, 1, 2, 3, 4] (by decide) rfl
  have hFc := va_free (wc := [(h0, .inr (15, [w1, .ref to, w2, w3, w4, w5, w6, .ref dg, w7, w8, w9, w10, w11, .int 0, w12])), (dg, .inr (5, [.ref st, .ref wd, w13])), (to, .inr (4, [w14, .int 0, .int 0])), (st, .inl (y 1, 8, .inl f)), (wd, .inl (y 1, 80, .inl g))]) hD hS hA [0, 1, 2, 3, 4] rfl
  refine va_calli (va_runV (As := [.int 1, .int (nI j)]) (rest := [.int 0, .ref o]) ⟨hx, hb, hml, hown, hts⟩ (c_X11_hash_1 l D y s.heap.size h0 dg to st wd w1 w2 w3 w4 w5 w6 w7 w8 w9 w10 w11 w12 w13 w14 j f g e1 (by omega)) (cwV 2 hts gv_c_L_hash_1_c_X11_hash_1_52 rfl rfl rfl (by decide +kernel) ⟨(Nat.le_of_ble_eq_true rfl), (Nat.le_of_ble_eq_true rfl)⟩) (zB.preV hPc hDc hK hN hE hO hT hG hS hFc (fun _ h => nomatch h) (List.forall_mem_cons.mpr ⟨List.mem_of_getElem? (i := 0) rfl, (fun _ h => nomatch h)⟩) (fun _ h => nomatch h) (List.forall_mem_cons.mpr ⟨List.mem_of_getElem? (i := 0) rfl, (fun _ h => nomatch h)⟩) (va_recv hK hPc (ci := 15) (q0 := 0) rfl rfl)) rfl rfl hl.1 rfl (lv_room (Nat.le_of_ble_eq_true rfl)) dL_hash_5 ⟨(Nat.le_of_ble_eq_true rfl), (Nat.le_of_ble_eq_true rfl)⟩) hS (fun q _ h => hFc q h) hFc (fun r1 u t H1 locs ht hvm hw hB hz1 hk1 hS => ?_)
  obtain ⟨hP1, hD1⟩ := hB
  rw [ht] at hP1
  obtain ⟨hP, hD⟩ := va_join (wr := [(o, .inl (y 2, 1, .inr (.inl gf)))]) (w1 := [(h0, .inr (15, [w1, .ref to, w2, w3, w4, w5, w6, .ref dg, w7, w8, w9, w10, w11, .int 1, w12])), (dg, .inr (5, [.ref st, .ref wd, .int 0])), (to, .inr (4, [w14, .int 0, .int 0])), (st, .inl (y 1, 8, .inl (zf tD1 5 (zf tS1 8 f)))), (wd, .inl (y 1, 80, .inl (zf tW1 80 g)))]) hP hD [0, 1, 2, 3, 4] [5] rfl rfl (by decide) (by decide) hk1 hFc hP1 hD1
  generalize H1 = H at hP hS ⊢
  have hP : va_P D vwCl [(o, .inl (y 2, 1, .inr (.inl gf))), (h0, .inr (15, [w1, .ref to, w2, w3, w4, w5, w6, .ref dg, w7, w8, w9, w10, w11, .int 1, w12])), (dg, .inr (5, [.ref st, .ref wd, .int 0])), (to, .inr (4, [w14, .int 0, .int 0])), (st, .inl (y 1, 8, .inl (zf tD1 5 (zf tS1 8 f)))), (wd, .inl (y 1, 80, .inl (zf tW1 80 g)))] H := hP
  have hD : va_D A [(o, .inl (y 2, 1, .inr (.inl gf))), (h0, .inr (15, [w1, .ref to, w2, w3, w4, w5, w6, .ref dg, w7, w8, w9, w10, w11, .int 1, w12])), (dg, .inr (5, [.ref st, .ref wd, .int 0])), (to, .inr (4, [w14, .int 0, .int 0])), (st, .inl (y 1, 8, .inl (zf tD1 5 (zf tS1 8 f)))), (wd, .inl (y 1, 80, .inl (zf tW1 80 g)))] := hD
  have hw : r1 = tO1 j := hw
  subst hw
  refine lv_i2l (v := (tO1 j).toInt64) hx hb dL_hash_8 rfl ?_
  refine va_last hx hb hK hP hD hS 0 2 rfl rfl (by unfold vp_in; decide) dL_hash_9 (fun H locs hP hD hS => ?_)
  have hP : va_P D vwCl [(o, .inl (y 2, 1, .inr (.inl (vp_updL gf (0 : Int32).toNatClampNeg ((tO1 j).toInt64))))), (h0, .inr (15, [w1, .ref to, w2, w3, w4, w5, w6, .ref dg, w7, w8, w9, w10, w11, .int 1, w12])), (dg, .inr (5, [.ref st, .ref wd, .int 0])), (to, .inr (4, [w14, .int 0, .int 0])), (st, .inl (y 1, 8, .inl (zf tD1 5 (zf tS1 8 f)))), (wd, .inl (y 1, 80, .inl (zf tW1 80 g)))] H := hP
  have hD : va_D A [(o, .inl (y 2, 1, .inr (.inl (vp_updL gf (0 : Int32).toNatClampNeg ((tO1 j).toInt64))))), (h0, .inr (15, [w1, .ref to, w2, w3, w4, w5, w6, .ref dg, w7, w8, w9, w10, w11, .int 1, w12])), (dg, .inr (5, [.ref st, .ref wd, .int 0])), (to, .inr (4, [w14, .int 0, .int 0])), (st, .inl (y 1, 8, .inl (zf tD1 5 (zf tS1 8 f)))), (wd, .inl (y 1, 80, .inl (zf tW1 80 g)))] := hD
  refine lv_goto (tgt := 21) hx hb dL_hash_10 (by decide) ?_
  refine lv_iconst (v := 0) hx hb dL_hash_21 (by decide) ?_
  have hP9 := hP.sub (ws' := [(h0, .inr (15, [w1, .ref to, w2, w3, w4, w5, w6, .ref dg, w7, w8, w9, w10, w11, .int 1, w12])), (dg, .inr (5, [.ref st, .ref wd, .int 0])), (to, .inr (4, [w14, .int 0, .int 0])), (st, .inl (y 1, 8, .inl (zf tD1 5 (zf tS1 8 f)))), (wd, .inl (y 1, 80, .inl (zf tW1 80 g))), (o, .inl (y 2, 1, .inr (.inl (vp_updL gf (0 : Int32).toNatClampNeg ((tO1 j).toInt64)))))]) [1, 2, 3, 4, 5, 0] rfl
  have hD9 := hD.sub (ws' := [(h0, .inr (15, [w1, .ref to, w2, w3, w4, w5, w6, .ref dg, w7, w8, w9, w10, w11, .int 1, w12])), (dg, .inr (5, [.ref st, .ref wd, .int 0])), (to, .inr (4, [w14, .int 0, .int 0])), (st, .inl (y 1, 8, .inl (zf tD1 5 (zf tS1 8 f)))), (wd, .inl (y 1, 80, .inl (zf tW1 80 g))), (o, .inl (y 2, 1, .inr (.inl (vp_updL gf (0 : Int32).toNatClampNeg ((tO1 j).toInt64)))))]) [1, 2, 3, 4, 5, 0] (by decide) rfl
  refine W.widen (k := 0) (n := 0) (Nat.le_of_ble_eq_true rfl) (Nat.le_of_ble_eq_true rfl) ?_
  exact W.iret (v := 0) hx hb hr (fun t ht hW => ⟨⟨0, (), rfl, rfl, by rw [ht]; exact hP9, hD9⟩, hS.F ht⟩) hS.2.2 dL_hash_22
def wz_c_L_hash_1lo : List Cond := .codeWith yL_hash cL_hash 5 (some .int) [(0, 10, 13, 13), (0, 10, 17, 19)] :: ([.methodLink RL 52 yX11_hash, .instanceMethod yX11_hash, .selects RX11 yX11_hash yX11_hash, .initialized RX11, .classLink RL 13 "java/lang/IllegalArgumentException", .classLink RL 19 "java/lang/IndexOutOfBoundsException"] ++ (wz_c_X11_hash_1lo ++ ([])))
set_option maxRecDepth 100000 in
theorem gz_c_L_hash_1lo_c_X11_hash_1lo : GoodIn wz_c_L_hash_1lo wz_c_X11_hash_1lo := goodIn_sub (fun w h => List.mem_cons_of_mem _ (List.mem_append_right _ (List.mem_append_left _ h))) (by decide +kernel)
set_option maxRecDepth 100000 in
theorem gv_c_L_hash_1lo_c_X11_hash_1lo_52 : GoodIn wz_c_L_hash_1lo (wsV RL 52 RX11 yX11_hash wz_c_X11_hash_1lo) := goodIn_app (goodIn_of _ (by decide +kernel)) gz_c_L_hash_1lo_c_X11_hash_1lo
set_option maxHeartbeats 4000000 in
set_option maxRecDepth 100000 in
theorem c_L_hash_1lo (l : Launch) (hl0 : l.stackTraces = false) (D : va_G) (y : Nat → ClassId) (sz : Nat) (h0 : Nat) (w1 : Value) (w2 : Value) (w3 : Value) (w4 : Value) (w5 : Value) (w6 : Value) (w7 : Value) (w8 : Value) (w9 : Value) (w10 : Value) (w11 : Value) (w12 : Value) (w13 : Value) (w14 : Value) (w15 : Value) (o : Nat) (gf : Nat → Int64) (i : Int32) (h1 : i < 0) : Met l yL_hash wz_c_L_hash_1lo ({ frames := 7, cells := 1, slots := 6, locals := 103 }) (va_Pc [.ref h0, .int 1, .int i, .ref o] (zB D y [(h0, .inr (15, [w1, w2, w3, w4, w5, w6, w7, w8, w9, w10, w11, w12, w13, w14, w15])), (o, .inl (y 2, 1, .inr (.inl gf)))] sz [.declares (Bundle.init0 "java/lang/RuntimeException"), .declares (Bundle.init0 "java/lang/Exception"), .declares (Bundle.init0 "java/lang/Throwable"), .castable "java/lang/IndexOutOfBoundsException" "java/lang/IndexOutOfBoundsException"] [] zTh [.inr (.inr (.inr (.inl ("java/lang/IndexOutOfBoundsException", "java/lang/IllegalArgumentException"))))])) (va_Qi (fun (r : Int32) (_ : Unit) => r = 2) (fun _ t => va_P D vwCl [(o, .inl (y 2, 1, .inr (.inl gf)))] t.heap ∧ va_D (va_A [(h0, .inr (15, [w1, w2, w3, w4, w5, w6, w7, w8, w9, w10, w11, w12, w13, w14, w15])), (o, .inl (y 2, 1, .inr (.inl gf)))] sz) [(o, .inl (y 2, 1, .inr (.inl gf)))]) (va_A [(h0, .inr (15, [w1, w2, w3, w4, w5, w6, w7, w8, w9, w10, w11, w12, w13, w14, w15])), (o, .inl (y 2, 1, .inr (.inl gf)))] sz)) 1 6 (va_A [(h0, .inr (15, [w1, w2, w3, w4, w5, w6, w7, w8, w9, w10, w11, w12, w13, w14, w15])), (o, .inl (y 2, 1, .inr (.inl gf)))] sz) := by
  refine zz_ofWH (hh := [(0, 10, 13, 13), (0, 10, 17, 19)]) (cc := cL_hash) (maxL := 5) (ret := (some .int)) (by decide) rfl ?_
  intro p e s m args below meth c s₁ B hml htab hv
  obtain ⟨rfl, hsz, hP, hK, hD0, hN, hE, hO, hT, hG⟩ := hv
  have hx := B.exec
  have hb := B.bytes
  have hr := B.returns
  have hts := atoms_spec (ws := wz_c_L_hash_1lo) B.pre
  have hown : s.vm.findClass RL = some m.cls := findClass_of_methodNamed B.named
  have hlocks := B.notSynchronized
  subst hsz
  have hD := hD0.self (sz := s.heap.size)
  generalize hAe : va_A [(h0, .inr (15, [w1, w2, w3, w4, w5, w6, w7, w8, w9, w10, w11, w12, w13, w14, w15])), (o, .inl (y 2, 1, .inr (.inl gf)))] s.heap.size = A at hD hE hT hG ⊢
  have hA : ∀ q : Nat, s.heap.size ≤ q → A q := fun q h => by rw [← hAe]; exact Or.inr h
  have hS : va_S A s.heap s.heap [] := va_S.rf
  have hl := lv_entry ([.ref h0, .int 1, .int i, .ref o]) (n := 5) (Nat.le_of_ble_eq_true rfl)
  rw [lg_entry_eq]
  generalize (lg_sl ([.ref h0, .int 1, .int i, .ref o]) ++ List.replicate (5 - (lg_sl ([.ref h0, .int 1, .int i, .ref o])).length) Slot.unset).toArray = ls at hl ⊢
  have hl : lv_has ls 5 [(0, .ref h0), (1, .int 1), (2, .int i), (3, .ref o)] := hl
  refine lv_aload_n hx hb dL_hash_0 rfl (lv_at hl 3 rfl) ?_
  refine lv_iconst (v := 0) hx hb dL_hash_1 (by decide) ?_
  refine lv_aload_n hx hb dL_hash_2 rfl (lv_at hl 0 rfl) ?_
  refine lv_iload_n hx hb dL_hash_3 rfl (lv_at hl 1 rfl) ?_
  refine lv_iload_n hx hb dL_hash_4 rfl (lv_at hl 2 rfl) ?_
  have hPc := hP.sub (ws' := [(h0, .inr (15, [w1, w2, w3, w4, w5, w6, w7, w8, w9, w10, w11, w12, w13, w14, w15]))]) [0] rfl
  have hDc := hD.sub (ws' := [(h0, .inr (15, [w1, w2, w3, w4, w5, w6, w7, w8, w9, w10, w11, w12, w13, w14, w15]))]) [0] (by decide) rfl
  have hFc := va_free (wc := [(h0, .inr (15, [w1, w2, w3, w4, w5, w6, w7, w8, w9, w10, w11, w12, w13, w14, w15]))]) hD hS hA [0] rfl
  refine vx_calli (vx_runV (As := [.int 1, .int i]) (rest := [.int 0, .ref o]) ⟨hx, hb, hml, hown, hts⟩ (c_X11_hash_1lo l hl0 D y s.heap.size h0 w1 w2 w3 w4 w5 w6 w7 w8 w9 w10 w11 w12 w13 w14 w15 i h1) (cwV 2 hts gv_c_L_hash_1lo_c_X11_hash_1lo_52 rfl rfl rfl (by decide +kernel) ⟨(Nat.le_of_ble_eq_true rfl), (Nat.le_of_ble_eq_true rfl)⟩) (zB.preV hPc hDc hK hN hE hO hT hG hS hFc (List.forall_mem_cons.mpr ⟨List.mem_of_getElem? (i := 0) rfl, (List.forall_mem_cons.mpr ⟨List.mem_of_getElem? (i := 1) rfl, (List.forall_mem_cons.mpr ⟨List.mem_of_getElem? (i := 2) rfl, (List.forall_mem_cons.mpr ⟨List.mem_of_getElem? (i := 3) rfl, (fun _ h => nomatch h)⟩)⟩)⟩)⟩) (fun _ h => nomatch h) (fun _ h => h) (fun _ h => nomatch h) (va_recv hK hPc (ci := 15) (q0 := 0) rfl rfl)) rfl rfl hl.1 rfl (lv_room (Nat.le_of_ble_eq_true rfl)) dL_hash_5 ⟨(Nat.le_of_ble_eq_true rfl), (Nat.le_of_ble_eq_true rfl)⟩) hS (fun q _ h => hFc q h) hFc (fun q _ h => hFc q h) (fun E ce q9 u t H1 locs ht hvm _ hBX hz1 hk1 hS hce hcv hcl => ?_) (fun r u t H1 locs ht hvm hw hB hz1 hk1 hS => hw.elim)
  have hBX : E = "java/lang/IndexOutOfBoundsException" := hBX
  subst hBX
  obtain ⟨hP, hD⟩ := va_join (wr := [(o, .inl (y 2, 1, .inr (.inl gf)))]) (w1 := []) hP hD [0] [1] rfl rfl (by decide) (by decide) hk1 hFc (fun k q h => by simp at h) ⟨fun i j p q h => by simp at h, fun k q h => by simp at h⟩
  generalize H1 = H at hP hS hce ⊢
  have hP : va_P D vwCl [(o, .inl (y 2, 1, .inr (.inl gf)))] H := hP
  have hD : va_D A [(o, .inl (y 2, 1, .inr (.inl gf)))] := hD
  refine vx_catch hown [⟨0, 10, 13, 13⟩] ⟨0, 10, 17, 19⟩ [] htab (List.forall_mem_cons.mpr ⟨Or.inr ⟨by decide, "java/lang/IllegalArgumentException", (hts (.classLink RL 13 "java/lang/IllegalArgumentException") (by decide +kernel)), (show va_Nc "java/lang/IndexOutOfBoundsException" "java/lang/IllegalArgumentException" s from (hG (.inr (.inr (.inr (.inl ("java/lang/IndexOutOfBoundsException", "java/lang/IllegalArgumentException"))))) (List.mem_of_getElem? (i := 0) rfl)))⟩, fun z h => nomatch h⟩) (by decide) (by decide) (hts (.classLink RL 19 "java/lang/IndexOutOfBoundsException") (by decide +kernel)) (va_Nw.use rfl (hN (.castable "java/lang/IndexOutOfBoundsException" "java/lang/IndexOutOfBoundsException") (List.mem_of_getElem? (i := 3) rfl)).2) hce hcv hcl ?_
  refine W.eq (g2 := F0 m 17 ls [.ref q9]) rfl ?_
  refine lv_astore (lv' := [(4, .ref q9), (0, .ref h0), (1, .int 1), (2, .int i), (3, .ref o)]) hx hb dL_hash_17 hl (by decide) rfl (fun ls hl => ?_)
  refine lv_iconst (v := 2) hx hb dL_hash_19 (by decide) ?_
  have hP9 := hP.sub (ws' := [(o, .inl (y 2, 1, .inr (.inl gf)))]) [0] rfl
  have hD9 := hD.sub (ws' := [(o, .inl (y 2, 1, .inr (.inl gf)))]) [0] (by decide) rfl
  refine W.widen (k := 1) (n := 6) (Nat.le_of_ble_eq_true rfl) (Nat.le_of_ble_eq_true rfl) ?_
  exact W.iret (v := 2) hx hb hr (fun t ht hW => ⟨⟨2, (), rfl, rfl, by rw [ht]; exact hP9, hD9⟩, hS.F ht⟩) hS.2.2 dL_hash_20
def wz_c_L_hash_1hi : List Cond := .codeWith yL_hash cL_hash 5 (some .int) [(0, 10, 13, 13), (0, 10, 17, 19)] :: ([.methodLink RL 52 yX11_hash, .instanceMethod yX11_hash, .selects RX11 yX11_hash yX11_hash, .initialized RX11, .classLink RL 13 "java/lang/IllegalArgumentException", .classLink RL 19 "java/lang/IndexOutOfBoundsException"] ++ (wz_c_X11_hash_1hi ++ ([])))
set_option maxRecDepth 100000 in
theorem gz_c_L_hash_1hi_c_X11_hash_1hi : GoodIn wz_c_L_hash_1hi wz_c_X11_hash_1hi := goodIn_sub (fun w h => List.mem_cons_of_mem _ (List.mem_append_right _ (List.mem_append_left _ h))) (by decide +kernel)
set_option maxRecDepth 100000 in
theorem gv_c_L_hash_1hi_c_X11_hash_1hi_52 : GoodIn wz_c_L_hash_1hi (wsV RL 52 RX11 yX11_hash wz_c_X11_hash_1hi) := goodIn_app (goodIn_of _ (by decide +kernel)) gz_c_L_hash_1hi_c_X11_hash_1hi
set_option maxHeartbeats 4000000 in
set_option maxRecDepth 100000 in
theorem c_L_hash_1hi (l : Launch) (hl0 : l.stackTraces = false) (D : va_G) (y : Nat → ClassId) (sz : Nat) (h0 : Nat) (w1 : Value) (w2 : Value) (w3 : Value) (w4 : Value) (w5 : Value) (w6 : Value) (w7 : Value) (w8 : Value) (w9 : Value) (w10 : Value) (w11 : Value) (w12 : Value) (w13 : Value) (w14 : Value) (w15 : Value) (o : Nat) (gf : Nat → Int64) (i : Int32) (h1 : ¬ i < 0) (h2 : ¬ i < 20) : Met l yL_hash wz_c_L_hash_1hi ({ frames := 7, cells := 1, slots := 6, locals := 103 }) (va_Pc [.ref h0, .int 1, .int i, .ref o] (zB D y [(h0, .inr (15, [w1, w2, w3, w4, w5, w6, w7, w8, w9, w10, w11, w12, w13, w14, w15])), (o, .inl (y 2, 1, .inr (.inl gf)))] sz [.declares (Bundle.init0 "java/lang/RuntimeException"), .declares (Bundle.init0 "java/lang/Exception"), .declares (Bundle.init0 "java/lang/Throwable"), .castable "java/lang/IndexOutOfBoundsException" "java/lang/IndexOutOfBoundsException"] [] zTh [.inr (.inr (.inr (.inl ("java/lang/IndexOutOfBoundsException", "java/lang/IllegalArgumentException"))))])) (va_Qi (fun (r : Int32) (_ : Unit) => r = 2) (fun _ t => va_P D vwCl [(o, .inl (y 2, 1, .inr (.inl gf)))] t.heap ∧ va_D (va_A [(h0, .inr (15, [w1, w2, w3, w4, w5, w6, w7, w8, w9, w10, w11, w12, w13, w14, w15])), (o, .inl (y 2, 1, .inr (.inl gf)))] sz) [(o, .inl (y 2, 1, .inr (.inl gf)))]) (va_A [(h0, .inr (15, [w1, w2, w3, w4, w5, w6, w7, w8, w9, w10, w11, w12, w13, w14, w15])), (o, .inl (y 2, 1, .inr (.inl gf)))] sz)) 1 6 (va_A [(h0, .inr (15, [w1, w2, w3, w4, w5, w6, w7, w8, w9, w10, w11, w12, w13, w14, w15])), (o, .inl (y 2, 1, .inr (.inl gf)))] sz) := by
  refine zz_ofWH (hh := [(0, 10, 13, 13), (0, 10, 17, 19)]) (cc := cL_hash) (maxL := 5) (ret := (some .int)) (by decide) rfl ?_
  intro p e s m args below meth c s₁ B hml htab hv
  obtain ⟨rfl, hsz, hP, hK, hD0, hN, hE, hO, hT, hG⟩ := hv
  have hx := B.exec
  have hb := B.bytes
  have hr := B.returns
  have hts := atoms_spec (ws := wz_c_L_hash_1hi) B.pre
  have hown : s.vm.findClass RL = some m.cls := findClass_of_methodNamed B.named
  have hlocks := B.notSynchronized
  subst hsz
  have hD := hD0.self (sz := s.heap.size)
  generalize hAe : va_A [(h0, .inr (15, [w1, w2, w3, w4, w5, w6, w7, w8, w9, w10, w11, w12, w13, w14, w15])), (o, .inl (y 2, 1, .inr (.inl gf)))] s.heap.size = A at hD hE hT hG ⊢
  have hA : ∀ q : Nat, s.heap.size ≤ q → A q := fun q h => by rw [← hAe]; exact Or.inr h
  have hS : va_S A s.heap s.heap [] := va_S.rf
  have hl := lv_entry ([.ref h0, .int 1, .int i, .ref o]) (n := 5) (Nat.le_of_ble_eq_true rfl)
  rw [lg_entry_eq]
  generalize (lg_sl ([.ref h0, .int 1, .int i, .ref o]) ++ List.replicate (5 - (lg_sl ([.ref h0, .int 1, .int i, .ref o])).length) Slot.unset).toArray = ls at hl ⊢
  have hl : lv_has ls 5 [(0, .ref h0), (1, .int 1), (2, .int i), (3, .ref o)] := hl
  refine lv_aload_n hx hb dL_hash_0 rfl (lv_at hl 3 rfl) ?_
  refine lv_iconst (v := 0) hx hb dL_hash_1 (by decide) ?_
  refine lv_aload_n hx hb dL_hash_2 rfl (lv_at hl 0 rfl) ?_
  refine lv_iload_n hx hb dL_hash_3 rfl (lv_at hl 1 rfl) ?_
  refine lv_iload_n hx hb dL_hash_4 rfl (lv_at hl 2 rfl) ?_
  have hPc := hP.sub (ws' := [(h0, .inr (15, [w1, w2, w3, w4, w5, w6, w7, w8, w9, w10, w11, w12, w13, w14, w15]))]) [0] rfl
  have hDc := hD.sub (ws' := [(h0, .inr (15, [w1, w2, w3, w4, w5, w6, w7, w8, w9, w10, w11, w12, w13, w14, w15]))]) [0] (by decide) rfl
  have hFc := va_free (wc := [(h0, .inr (15, [w1, w2, w3, w4, w5, w6, w7, w8, w9, w10, w11, w12, w13, w14, w15]))]) hD hS hA [0] rfl
  refine vx_calli (vx_runV (As := [.int 1, .int i]) (rest := [.int 0, .ref o]) ⟨hx, hb, hml, hown, hts⟩ (c_X11_hash_1hi l hl0 D y s.heap.size h0 w1 w2 w3 w4 w5 w6 w7 w8 w9 w10 w11 w12 w13 w14 w15 i h1 h2) (cwV 2 hts gv_c_L_hash_1hi_c_X11_hash_1hi_52 rfl rfl rfl (by decide +kernel) ⟨(Nat.le_of_ble_eq_true rfl), (Nat.le_of_ble_eq_true rfl)⟩) (zB.preV hPc hDc hK hN hE hO hT hG hS hFc (List.forall_mem_cons.mpr ⟨List.mem_of_getElem? (i := 0) rfl, (List.forall_mem_cons.mpr ⟨List.mem_of_getElem? (i := 1) rfl, (List.forall_mem_cons.mpr ⟨List.mem_of_getElem? (i := 2) rfl, (List.forall_mem_cons.mpr ⟨List.mem_of_getElem? (i := 3) rfl, (fun _ h => nomatch h)⟩)⟩)⟩)⟩) (fun _ h => nomatch h) (fun _ h => h) (fun _ h => nomatch h) (va_recv hK hPc (ci := 15) (q0 := 0) rfl rfl)) rfl rfl hl.1 rfl (lv_room (Nat.le_of_ble_eq_true rfl)) dL_hash_5 ⟨(Nat.le_of_ble_eq_true rfl), (Nat.le_of_ble_eq_true rfl)⟩) hS (fun q _ h => hFc q h) hFc (fun q _ h => hFc q h) (fun E ce q9 u t H1 locs ht hvm _ hBX hz1 hk1 hS hce hcv hcl => ?_) (fun r u t H1 locs ht hvm hw hB hz1 hk1 hS => hw.elim)
  have hBX : E = "java/lang/IndexOutOfBoundsException" := hBX
  subst hBX
  obtain ⟨hP, hD⟩ := va_join (wr := [(o, .inl (y 2, 1, .inr (.inl gf)))]) (w1 := []) hP hD [0] [1] rfl rfl (by decide) (by decide) hk1 hFc (fun k q h => by simp at h) ⟨fun i j p q h => by simp at h, fun k q h => by simp at h⟩
  generalize H1 = H at hP hS hce ⊢
  have hP : va_P D vwCl [(o, .inl (y 2, 1, .inr (.inl gf)))] H := hP
  have hD : va_D A [(o, .inl (y 2, 1, .inr (.inl gf)))] := hD
  refine vx_catch hown [⟨0, 10, 13, 13⟩] ⟨0, 10, 17, 19⟩ [] htab (List.forall_mem_cons.mpr ⟨Or.inr ⟨by decide, "java/lang/IllegalArgumentException", (hts (.classLink RL 13 "java/lang/IllegalArgumentException") (by decide +kernel)), (show va_Nc "java/lang/IndexOutOfBoundsException" "java/lang/IllegalArgumentException" s from (hG (.inr (.inr (.inr (.inl ("java/lang/IndexOutOfBoundsException", "java/lang/IllegalArgumentException"))))) (List.mem_of_getElem? (i := 0) rfl)))⟩, fun z h => nomatch h⟩) (by decide) (by decide) (hts (.classLink RL 19 "java/lang/IndexOutOfBoundsException") (by decide +kernel)) (va_Nw.use rfl (hN (.castable "java/lang/IndexOutOfBoundsException" "java/lang/IndexOutOfBoundsException") (List.mem_of_getElem? (i := 3) rfl)).2) hce hcv hcl ?_
  refine W.eq (g2 := F0 m 17 ls [.ref q9]) rfl ?_
  refine lv_astore (lv' := [(4, .ref q9), (0, .ref h0), (1, .int 1), (2, .int i), (3, .ref o)]) hx hb dL_hash_17 hl (by decide) rfl (fun ls hl => ?_)
  refine lv_iconst (v := 2) hx hb dL_hash_19 (by decide) ?_
  have hP9 := hP.sub (ws' := [(o, .inl (y 2, 1, .inr (.inl gf)))]) [0] rfl
  have hD9 := hD.sub (ws' := [(o, .inl (y 2, 1, .inr (.inl gf)))]) [0] (by decide) rfl
  refine W.widen (k := 1) (n := 6) (Nat.le_of_ble_eq_true rfl) (Nat.le_of_ble_eq_true rfl) ?_
  exact W.iret (v := 2) hx hb hr (fun t ht hW => ⟨⟨2, (), rfl, rfl, by rw [ht]; exact hP9, hD9⟩, hS.F ht⟩) hS.2.2 dL_hash_20
def wz_c_L_hash_2 : List Cond := .codeWith yL_hash cL_hash 5 (some .int) [(0, 10, 13, 13), (0, 10, 17, 19)] :: ([.methodLink RL 52 yX11_hash, .instanceMethod yX11_hash, .selects RX11 yX11_hash yX11_hash, .initialized RX11] ++ (wz_c_X11_hash_2 ++ ([])))
set_option maxRecDepth 100000 in
theorem gz_c_L_hash_2_c_X11_hash_2 : GoodIn wz_c_L_hash_2 wz_c_X11_hash_2 := goodIn_sub (fun w h => List.mem_cons_of_mem _ (List.mem_append_right _ (List.mem_append_left _ h))) (by decide +kernel)
set_option maxRecDepth 100000 in
theorem gv_c_L_hash_2_c_X11_hash_2_52 : GoodIn wz_c_L_hash_2 (wsV RL 52 RX11 yX11_hash wz_c_X11_hash_2) := goodIn_app (goodIn_of _ (by decide +kernel)) gz_c_L_hash_2_c_X11_hash_2
set_option maxHeartbeats 4000000 in
set_option maxRecDepth 100000 in
theorem c_L_hash_2 (l : Launch) (D : va_G) (y : Nat → ClassId) (sz : Nat) (h0 : Nat) (dg : Nat) (to : Nat) (st : Nat) (wd : Nat) (w1 : Value) (w2 : Value) (w3 : Value) (w4 : Value) (w5 : Value) (w6 : Value) (w7 : Value) (w8 : Value) (w9 : Value) (w10 : Value) (w11 : Value) (w12 : Value) (w13 : Value) (w14 : Value) (o : Nat) (j : Nat) (f : Nat → Int32) (g : Nat → Int32) (gf : Nat → Int64) (e2 : Nat) (e3 : Nat) (hj : j < 32) : Met l yL_hash wz_c_L_hash_2 ({ frames := 4, cells := 0, slots := 0, locals := 97 }) (va_Pc [.ref h0, .int 2, .int (nI j), .ref o] (zB D y [(h0, .inr (15, [w1, .ref to, w2, w3, w4, w5, w6, .ref dg, w7, w8, w9, w10, w11, .int 0, w12])), (dg, .inr (5, [.ref st, .ref wd, w13])), (to, .inr (4, [w14, .int 0, .int 0])), (st, .inl (y 1, 8, .inl f)), (wd, .inl (y 1, 80, .inl g)), (o, .inl (y 2, 1, .inr (.inl gf)))] sz [] [("SignetRing$Digest", "START_SECOND", "[I", .ref e2), ("SignetRing$Digest", "ROUNDS", "[I", .ref e3)] [] [.inl (e2, 8, tS2), .inl (e3, 64, tK)])) (va_Qi (fun (r : Int32) (_ : Unit) => r = 0) (fun _ t => va_P D vwCl [(h0, .inr (15, [w1, .ref to, w2, w3, w4, w5, w6, .ref dg, w7, w8, w9, w10, w11, .int 2, w12])), (dg, .inr (5, [.ref st, .ref wd, .int 1])), (to, .inr (4, [w14, .int 0, .int 0])), (st, .inl (y 1, 8, .inl (zf tD2 8 (zf tS2 8 f)))), (wd, .inl (y 1, 80, .inl (zf tW2 64 g))), (o, .inl (y 2, 1, .inr (.inl (vp_updL gf (0 : Int32).toNatClampNeg ((tO2 j).toInt64)))))] t.heap ∧ va_D (va_A [(h0, .inr (15, [w1, .ref to, w2, w3, w4, w5, w6, .ref dg, w7, w8, w9, w10, w11, .int 0, w12])), (dg, .inr (5, [.ref st, .ref wd, w13])), (to, .inr (4, [w14, .int 0, .int 0])), (st, .inl (y 1, 8, .inl f)), (wd, .inl (y 1, 80, .inl g)), (o, .inl (y 2, 1, .inr (.inl gf)))] sz) [(h0, .inr (15, [w1, .ref to, w2, w3, w4, w5, w6, .ref dg, w7, w8, w9, w10, w11, .int 2, w12])), (dg, .inr (5, [.ref st, .ref wd, .int 1])), (to, .inr (4, [w14, .int 0, .int 0])), (st, .inl (y 1, 8, .inl (zf tD2 8 (zf tS2 8 f)))), (wd, .inl (y 1, 80, .inl (zf tW2 64 g))), (o, .inl (y 2, 1, .inr (.inl (vp_updL gf (0 : Int32).toNatClampNeg ((tO2 j).toInt64)))))]) (va_A [(h0, .inr (15, [w1, .ref to, w2, w3, w4, w5, w6, .ref dg, w7, w8, w9, w10, w11, .int 0, w12])), (dg, .inr (5, [.ref st, .ref wd, w13])), (to, .inr (4, [w14, .int 0, .int 0])), (st, .inl (y 1, 8, .inl f)), (wd, .inl (y 1, 80, .inl g)), (o, .inl (y 2, 1, .inr (.inl gf)))] sz)) 0 0 (va_A [(h0, .inr (15, [w1, .ref to, w2, w3, w4, w5, w6, .ref dg, w7, w8, w9, w10, w11, .int 0, w12])), (dg, .inr (5, [.ref st, .ref wd, w13])), (to, .inr (4, [w14, .int 0, .int 0])), (st, .inl (y 1, 8, .inl f)), (wd, .inl (y 1, 80, .inl g)), (o, .inl (y 2, 1, .inr (.inl gf)))] sz) := by
  refine zz_ofWH (hh := [(0, 10, 13, 13), (0, 10, 17, 19)]) (cc := cL_hash) (maxL := 5) (ret := (some .int)) (by decide) rfl ?_
  intro p e s m args below meth c s₁ B hml htab hv
  obtain ⟨rfl, hsz, hP, hK, hD0, hN, hE, hO, hT, hG⟩ := hv
  have hx := B.exec
  have hb := B.bytes
  have hr := B.returns
  have hts := atoms_spec (ws := wz_c_L_hash_2) B.pre
  have hown : s.vm.findClass RL = some m.cls := findClass_of_methodNamed B.named
  have hlocks := B.notSynchronized
  subst hsz
  have hD := hD0.self (sz := s.heap.size)
  generalize hAe : va_A [(h0, .inr (15, [w1, .ref to, w2, w3, w4, w5, w6, .ref dg, w7, w8, w9, w10, w11, .int 0, w12])), (dg, .inr (5, [.ref st, .ref wd, w13])), (to, .inr (4, [w14, .int 0, .int 0])), (st, .inl (y 1, 8, .inl f)), (wd, .inl (y 1, 80, .inl g)), (o, .inl (y 2, 1, .inr (.inl gf)))] s.heap.size = A at hD hE hT hG ⊢
  have hA : ∀ q : Nat, s.heap.size ≤ q → A q := fun q h => by rw [← hAe]; exact Or.inr h
  have hS : va_S A s.heap s.heap [] := va_S.rf
  have hl := lv_entry ([.ref h0, .int 2, .int (nI j), .ref o]) (n := 5) (Nat.le_of_ble_eq_true rfl)
  rw [lg_entry_eq]
  generalize (lg_sl ([.ref h0, .int 2, .int (nI j), .ref o]) ++ List.replicate (5 - (lg_sl ([.ref h0, .int 2, .int (nI j), .ref o])).length) Slot.unset).toArray = ls at hl ⊢
  have hl : lv_has ls 5 [(0, .ref h0), (1, .int 2), (2, .int (nI j)), (3, .ref o)] := hl
  refine lv_aload_n hx hb dL_hash_0 rfl (lv_at hl 3 rfl) ?_
  refine lv_iconst (v := 0) hx hb dL_hash_1 (by decide) ?_
  refine lv_aload_n hx hb dL_hash_2 rfl (lv_at hl 0 rfl) ?_
  refine lv_iload_n hx hb dL_hash_3 rfl (lv_at hl 1 rfl) ?_
  refine lv_iload_n hx hb dL_hash_4 rfl (lv_at hl 2 rfl) ?_
  have hPc := hP.sub (ws' := [(h0, .inr (15, [w1, .ref to, w2, w3, w4, w5, w6, .ref dg, w7, w8, w9, w10, w11, .int 0, w12])), (dg, .inr (5, [.ref st, .ref wd, w13])), (to, .inr (4, [w14, .int 0, .int 0])), (st, .inl (y 1, 8, .inl f)), (wd, .inl (y 1, 80, .inl g))]) [0, 1, 2, 3, 4] rfl
  have hDc := hD.sub (ws' := [(h0, .inr (15, [w1, .ref to, w2, w3, w4, w5, w6, .ref dg, w7, w8, w9, w10, w11, .int 0, w12])), (dg, .inr (5, [.ref st, .ref wd, w13])), (to, .inr (4, [w14, .int 0, .int 0])), (st, .inl (y 1, 8, .inl f)), (wd, .inl (y 1, 80, .inl g))]) [0, 1, 2, 3, 4] (by decide) rfl
  have hFc := va_free (wc := [(h0, .inr (15, [w1, .ref to, w2, w3, w4, w5, w6, .ref dg, w7, w8, w9, w10, w11, .int 0, w12])), (dg, .inr (5, [.ref st, .ref wd, w13])), (to, .inr (4, [w14, .int 0, .int 0])), (st, .inl (y 1, 8, .inl f)), (wd, .inl (y 1, 80, .inl g))]) hD hS hA [0, 1, 2, 3, 4] rfl
  refine va_calli (va_runV (As := [.int 2, .int (nI j)]) (rest := [.int 0, .ref o]) ⟨hx, hb, hml, hown, hts⟩ (c_X11_hash_2 l D y s.heap.size h0 dg to st wd w1 w2 w3 w4 w5 w6 w7 w8 w9 w10 w11 w12 w13 w14 j f g e2 e3 (by omega)) (cwV 2 hts gv_c_L_hash_2_c_X11_hash_2_52 rfl rfl rfl (by decide +kernel) ⟨(Nat.le_of_ble_eq_true rfl), (Nat.le_of_ble_eq_true rfl)⟩) (zB.preV hPc hDc hK hN hE hO hT hG hS hFc (fun _ h => nomatch h) (List.forall_mem_cons.mpr ⟨List.mem_of_getElem? (i := 0) rfl, (List.forall_mem_cons.mpr ⟨List.mem_of_getElem? (i := 1) rfl, (fun _ h => nomatch h)⟩)⟩) (fun _ h => nomatch h) (List.forall_mem_cons.mpr ⟨List.mem_of_getElem? (i := 0) rfl, (List.forall_mem_cons.mpr ⟨List.mem_of_getElem? (i := 1) rfl, (fun _ h => nomatch h)⟩)⟩) (va_recv hK hPc (ci := 15) (q0 := 0) rfl rfl)) rfl rfl hl.1 rfl (lv_room (Nat.le_of_ble_eq_true rfl)) dL_hash_5 ⟨(Nat.le_of_ble_eq_true rfl), (Nat.le_of_ble_eq_true rfl)⟩) hS (fun q _ h => hFc q h) hFc (fun r1 u t H1 locs ht hvm hw hB hz1 hk1 hS => ?_)
  obtain ⟨hP1, hD1⟩ := hB
  rw [ht] at hP1
  obtain ⟨hP, hD⟩ := va_join (wr := [(o, .inl (y 2, 1, .inr (.inl gf)))]) (w1 := [(h0, .inr (15, [w1, .ref to, w2, w3, w4, w5, w6, .ref dg, w7, w8, w9, w10, w11, .int 2, w12])), (dg, .inr (5, [.ref st, .ref wd, .int 1])), (to, .inr (4, [w14, .int 0, .int 0])), (st, .inl (y 1, 8, .inl (zf tD2 8 (zf tS2 8 f)))), (wd, .inl (y 1, 80, .inl (zf tW2 64 g)))]) hP hD [0, 1, 2, 3, 4] [5] rfl rfl (by decide) (by decide) hk1 hFc hP1 hD1
  generalize H1 = H at hP hS ⊢
  have hP : va_P D vwCl [(o, .inl (y 2, 1, .inr (.inl gf))), (h0, .inr (15, [w1, .ref to, w2, w3, w4, w5, w6, .ref dg, w7, w8, w9, w10, w11, .int 2, w12])), (dg, .inr (5, [.ref st, .ref wd, .int 1])), (to, .inr (4, [w14, .int 0, .int 0])), (st, .inl (y 1, 8, .inl (zf tD2 8 (zf tS2 8 f)))), (wd, .inl (y 1, 80, .inl (zf tW2 64 g)))] H := hP
  have hD : va_D A [(o, .inl (y 2, 1, .inr (.inl gf))), (h0, .inr (15, [w1, .ref to, w2, w3, w4, w5, w6, .ref dg, w7, w8, w9, w10, w11, .int 2, w12])), (dg, .inr (5, [.ref st, .ref wd, .int 1])), (to, .inr (4, [w14, .int 0, .int 0])), (st, .inl (y 1, 8, .inl (zf tD2 8 (zf tS2 8 f)))), (wd, .inl (y 1, 80, .inl (zf tW2 64 g)))] := hD
  have hw : r1 = tO2 j := hw
  subst hw
  refine lv_i2l (v := (tO2 j).toInt64) hx hb dL_hash_8 rfl ?_
  refine va_last hx hb hK hP hD hS 0 2 rfl rfl (by unfold vp_in; decide) dL_hash_9 (fun H locs hP hD hS => ?_)
  have hP : va_P D vwCl [(o, .inl (y 2, 1, .inr (.inl (vp_updL gf (0 : Int32).toNatClampNeg ((tO2 j).toInt64))))), (h0, .inr (15, [w1, .ref to, w2, w3, w4, w5, w6, .ref dg, w7, w8, w9, w10, w11, .int 2, w12])), (dg, .inr (5, [.ref st, .ref wd, .int 1])), (to, .inr (4, [w14, .int 0, .int 0])), (st, .inl (y 1, 8, .inl (zf tD2 8 (zf tS2 8 f)))), (wd, .inl (y 1, 80, .inl (zf tW2 64 g)))] H := hP
  have hD : va_D A [(o, .inl (y 2, 1, .inr (.inl (vp_updL gf (0 : Int32).toNatClampNeg ((tO2 j).toInt64))))), (h0, .inr (15, [w1, .ref to, w2, w3, w4, w5, w6, .ref dg, w7, w8, w9, w10, w11, .int 2, w12])), (dg, .inr (5, [.ref st, .ref wd, .int 1])), (to, .inr (4, [w14, .int 0, .int 0])), (st, .inl (y 1, 8, .inl (zf tD2 8 (zf tS2 8 f)))), (wd, .inl (y 1, 80, .inl (zf tW2 64 g)))] := hD
  refine lv_goto (tgt := 21) hx hb dL_hash_10 (by decide) ?_
  refine lv_iconst (v := 0) hx hb dL_hash_21 (by decide) ?_
  have hP9 := hP.sub (ws' := [(h0, .inr (15, [w1, .ref to, w2, w3, w4, w5, w6, .ref dg, w7, w8, w9, w10, w11, .int 2, w12])), (dg, .inr (5, [.ref st, .ref wd, .int 1])), (to, .inr (4, [w14, .int 0, .int 0])), (st, .inl (y 1, 8, .inl (zf tD2 8 (zf tS2 8 f)))), (wd, .inl (y 1, 80, .inl (zf tW2 64 g))), (o, .inl (y 2, 1, .inr (.inl (vp_updL gf (0 : Int32).toNatClampNeg ((tO2 j).toInt64)))))]) [1, 2, 3, 4, 5, 0] rfl
  have hD9 := hD.sub (ws' := [(h0, .inr (15, [w1, .ref to, w2, w3, w4, w5, w6, .ref dg, w7, w8, w9, w10, w11, .int 2, w12])), (dg, .inr (5, [.ref st, .ref wd, .int 1])), (to, .inr (4, [w14, .int 0, .int 0])), (st, .inl (y 1, 8, .inl (zf tD2 8 (zf tS2 8 f)))), (wd, .inl (y 1, 80, .inl (zf tW2 64 g))), (o, .inl (y 2, 1, .inr (.inl (vp_updL gf (0 : Int32).toNatClampNeg ((tO2 j).toInt64)))))]) [1, 2, 3, 4, 5, 0] (by decide) rfl
  refine W.widen (k := 0) (n := 0) (Nat.le_of_ble_eq_true rfl) (Nat.le_of_ble_eq_true rfl) ?_
  exact W.iret (v := 0) hx hb hr (fun t ht hW => ⟨⟨0, (), rfl, rfl, by rw [ht]; exact hP9, hD9⟩, hS.F ht⟩) hS.2.2 dL_hash_22
def wz_c_L_hash_2lo : List Cond := .codeWith yL_hash cL_hash 5 (some .int) [(0, 10, 13, 13), (0, 10, 17, 19)] :: ([.methodLink RL 52 yX11_hash, .instanceMethod yX11_hash, .selects RX11 yX11_hash yX11_hash, .initialized RX11, .classLink RL 13 "java/lang/IllegalArgumentException", .classLink RL 19 "java/lang/IndexOutOfBoundsException"] ++ (wz_c_X11_hash_2lo ++ ([])))
set_option maxRecDepth 100000 in
theorem gz_c_L_hash_2lo_c_X11_hash_2lo : GoodIn wz_c_L_hash_2lo wz_c_X11_hash_2lo := goodIn_sub (fun w h => List.mem_cons_of_mem _ (List.mem_append_right _ (List.mem_append_left _ h))) (by decide +kernel)
set_option maxRecDepth 100000 in
theorem gv_c_L_hash_2lo_c_X11_hash_2lo_52 : GoodIn wz_c_L_hash_2lo (wsV RL 52 RX11 yX11_hash wz_c_X11_hash_2lo) := goodIn_app (goodIn_of _ (by decide +kernel)) gz_c_L_hash_2lo_c_X11_hash_2lo
set_option maxHeartbeats 4000000 in
set_option maxRecDepth 100000 in
theorem c_L_hash_2lo (l : Launch) (hl0 : l.stackTraces = false) (D : va_G) (y : Nat → ClassId) (sz : Nat) (h0 : Nat) (w1 : Value) (w2 : Value) (w3 : Value) (w4 : Value) (w5 : Value) (w6 : Value) (w7 : Value) (w8 : Value) (w9 : Value) (w10 : Value) (w11 : Value) (w12 : Value) (w13 : Value) (w14 : Value) (w15 : Value) (o : Nat) (gf : Nat → Int64) (i : Int32) (h1 : i < 0) : Met l yL_hash wz_c_L_hash_2lo ({ frames := 7, cells := 1, slots := 6, locals := 103 }) (va_Pc [.ref h0, .int 2, .int i, .ref o] (zB D y [(h0, .inr (15, [w1, w2, w3, w4, w5, w6, w7, w8, w9, w10, w11, w12, w13, w14, w15])), (o, .inl (y 2, 1, .inr (.inl gf)))] sz [.declares (Bundle.init0 "java/lang/RuntimeException"), .declares (Bundle.init0 "java/lang/Exception"), .declares (Bundle.init0 "java/lang/Throwable"), .castable "java/lang/IndexOutOfBoundsException" "java/lang/IndexOutOfBoundsException"] [] zTh [.inr (.inr (.inr (.inl ("java/lang/IndexOutOfBoundsException", "java/lang/IllegalArgumentException"))))])) (va_Qi (fun (r : Int32) (_ : Unit) => r = 2) (fun _ t => va_P D vwCl [(o, .inl (y 2, 1, .inr (.inl gf)))] t.heap ∧ va_D (va_A [(h0, .inr (15, [w1, w2, w3, w4, w5, w6, w7, w8, w9, w10, w11, w12, w13, w14, w15])), (o, .inl (y 2, 1, .inr (.inl gf)))] sz) [(o, .inl (y 2, 1, .inr (.inl gf)))]) (va_A [(h0, .inr (15, [w1, w2, w3, w4, w5, w6, w7, w8, w9, w10, w11, w12, w13, w14, w15])), (o, .inl (y 2, 1, .inr (.inl gf)))] sz)) 1 6 (va_A [(h0, .inr (15, [w1, w2, w3, w4, w5, w6, w7, w8, w9, w10, w11, w12, w13, w14, w15])), (o, .inl (y 2, 1, .inr (.inl gf)))] sz) := by
  refine zz_ofWH (hh := [(0, 10, 13, 13), (0, 10, 17, 19)]) (cc := cL_hash) (maxL := 5) (ret := (some .int)) (by decide) rfl ?_
  intro p e s m args below meth c s₁ B hml htab hv
  obtain ⟨rfl, hsz, hP, hK, hD0, hN, hE, hO, hT, hG⟩ := hv
  have hx := B.exec
  have hb := B.bytes
  have hr := B.returns
  have hts := atoms_spec (ws := wz_c_L_hash_2lo) B.pre
  have hown : s.vm.findClass RL = some m.cls := findClass_of_methodNamed B.named
  have hlocks := B.notSynchronized
  subst hsz
  have hD := hD0.self (sz := s.heap.size)
  generalize hAe : va_A [(h0, .inr (15, [w1, w2, w3, w4, w5, w6, w7, w8, w9, w10, w11, w12, w13, w14, w15])), (o, .inl (y 2, 1, .inr (.inl gf)))] s.heap.size = A at hD hE hT hG ⊢
  have hA : ∀ q : Nat, s.heap.size ≤ q → A q := fun q h => by rw [← hAe]; exact Or.inr h
  have hS : va_S A s.heap s.heap [] := va_S.rf
  have hl := lv_entry ([.ref h0, .int 2, .int i, .ref o]) (n := 5) (Nat.le_of_ble_eq_true rfl)
  rw [lg_entry_eq]
  generalize (lg_sl ([.ref h0, .int 2, .int i, .ref o]) ++ List.replicate (5 - (lg_sl ([.ref h0, .int 2, .int i, .ref o])).length) Slot.unset).toArray = ls at hl ⊢
  have hl : lv_has ls 5 [(0, .ref h0), (1, .int 2), (2, .int i), (3, .ref o)] := hl
  refine lv_aload_n hx hb dL_hash_0 rfl (lv_at hl 3 rfl) ?_
  refine lv_iconst (v := 0) hx hb dL_hash_1 (by decide) ?_
  refine lv_aload_n hx hb dL_hash_2 rfl (lv_at hl 0 rfl) ?_
  refine lv_iload_n hx hb dL_hash_3 rfl (lv_at hl 1 rfl) ?_
  refine lv_iload_n hx hb dL_hash_4 rfl (lv_at hl 2 rfl) ?_
  have hPc := hP.sub (ws' := [(h0, .inr (15, [w1, w2, w3, w4, w5, w6, w7, w8, w9, w10, w11, w12, w13, w14, w15]))]) [0] rfl
  have hDc := hD.sub (ws' := [(h0, .inr (15, [w1, w2, w3, w4, w5, w6, w7, w8, w9, w10, w11, w12, w13, w14, w15]))]) [0] (by decide) rfl
  have hFc := va_free (wc := [(h0, .inr (15, [w1, w2, w3, w4, w5, w6, w7, w8, w9, w10, w11, w12, w13, w14, w15]))]) hD hS hA [0] rfl
  refine vx_calli (vx_runV (As := [.int 2, .int i]) (rest := [.int 0, .ref o]) ⟨hx, hb, hml, hown, hts⟩ (c_X11_hash_2lo l hl0 D y s.heap.size h0 w1 w2 w3 w4 w5 w6 w7 w8 w9 w10 w11 w12 w13 w14 w15 i h1) (cwV 2 hts gv_c_L_hash_2lo_c_X11_hash_2lo_52 rfl rfl rfl (by decide +kernel) ⟨(Nat.le_of_ble_eq_true rfl), (Nat.le_of_ble_eq_true rfl)⟩) (zB.preV hPc hDc hK hN hE hO hT hG hS hFc (List.forall_mem_cons.mpr ⟨List.mem_of_getElem? (i := 0) rfl, (List.forall_mem_cons.mpr ⟨List.mem_of_getElem? (i := 1) rfl, (List.forall_mem_cons.mpr ⟨List.mem_of_getElem? (i := 2) rfl, (List.forall_mem_cons.mpr ⟨List.mem_of_getElem? (i := 3) rfl, (fun _ h => nomatch h)⟩)⟩)⟩)⟩) (fun _ h => nomatch h) (fun _ h => h) (fun _ h => nomatch h) (va_recv hK hPc (ci := 15) (q0 := 0) rfl rfl)) rfl rfl hl.1 rfl (lv_room (Nat.le_of_ble_eq_true rfl)) dL_hash_5 ⟨(Nat.le_of_ble_eq_true rfl), (Nat.le_of_ble_eq_true rfl)⟩) hS (fun q _ h => hFc q h) hFc (fun q _ h => hFc q h) (fun E ce q9 u t H1 locs ht hvm _ hBX hz1 hk1 hS hce hcv hcl => ?_) (fun r u t H1 locs ht hvm hw hB hz1 hk1 hS => hw.elim)
  have hBX : E = "java/lang/IndexOutOfBoundsException" := hBX
  subst hBX
  obtain ⟨hP, hD⟩ := va_join (wr := [(o, .inl (y 2, 1, .inr (.inl gf)))]) (w1 := []) hP hD [0] [1] rfl rfl (by decide) (by decide) hk1 hFc (fun k q h => by simp at h) ⟨fun i j p q h => by simp at h, fun k q h => by simp at h⟩
  generalize H1 = H at hP hS hce ⊢
  have hP : va_P D vwCl [(o, .inl (y 2, 1, .inr (.inl gf)))] H := hP
  have hD : va_D A [(o, .inl (y 2, 1, .inr (.inl gf)))] := hD
  refine vx_catch hown [⟨0, 10, 13, 13⟩] ⟨0, 10, 17, 19⟩ [] htab (List.forall_mem_cons.mpr ⟨Or.inr ⟨by decide, "java/lang/IllegalArgumentException", (hts (.classLink RL 13 "java/lang/IllegalArgumentException") (by decide +kernel)), (show va_Nc "java/lang/IndexOutOfBoundsException" "java/lang/IllegalArgumentException" s from (hG (.inr (.inr (.inr (.inl ("java/lang/IndexOutOfBoundsException", "java/lang/IllegalArgumentException"))))) (List.mem_of_getElem? (i := 0) rfl)))⟩, fun z h => nomatch h⟩) (by decide) (by decide) (hts (.classLink RL 19 "java/lang/IndexOutOfBoundsException") (by decide +kernel)) (va_Nw.use rfl (hN (.castable "java/lang/IndexOutOfBoundsException" "java/lang/IndexOutOfBoundsException") (List.mem_of_getElem? (i := 3) rfl)).2) hce hcv hcl ?_
  refine W.eq (g2 := F0 m 17 ls [.ref q9]) rfl ?_
  refine lv_astore (lv' := [(4, .ref q9), (0, .ref h0), (1, .int 2), (2, .int i), (3, .ref o)]) hx hb dL_hash_17 hl (by decide) rfl (fun ls hl => ?_)
  refine lv_iconst (v := 2) hx hb dL_hash_19 (by decide) ?_
  have hP9 := hP.sub (ws' := [(o, .inl (y 2, 1, .inr (.inl gf)))]) [0] rfl
  have hD9 := hD.sub (ws' := [(o, .inl (y 2, 1, .inr (.inl gf)))]) [0] (by decide) rfl
  refine W.widen (k := 1) (n := 6) (Nat.le_of_ble_eq_true rfl) (Nat.le_of_ble_eq_true rfl) ?_
  exact W.iret (v := 2) hx hb hr (fun t ht hW => ⟨⟨2, (), rfl, rfl, by rw [ht]; exact hP9, hD9⟩, hS.F ht⟩) hS.2.2 dL_hash_20
def wz_c_L_hash_2hi : List Cond := .codeWith yL_hash cL_hash 5 (some .int) [(0, 10, 13, 13), (0, 10, 17, 19)] :: ([.methodLink RL 52 yX11_hash, .instanceMethod yX11_hash, .selects RX11 yX11_hash yX11_hash, .initialized RX11, .classLink RL 13 "java/lang/IllegalArgumentException", .classLink RL 19 "java/lang/IndexOutOfBoundsException"] ++ (wz_c_X11_hash_2hi ++ ([])))
set_option maxRecDepth 100000 in
theorem gz_c_L_hash_2hi_c_X11_hash_2hi : GoodIn wz_c_L_hash_2hi wz_c_X11_hash_2hi := goodIn_sub (fun w h => List.mem_cons_of_mem _ (List.mem_append_right _ (List.mem_append_left _ h))) (by decide +kernel)
set_option maxRecDepth 100000 in
theorem gv_c_L_hash_2hi_c_X11_hash_2hi_52 : GoodIn wz_c_L_hash_2hi (wsV RL 52 RX11 yX11_hash wz_c_X11_hash_2hi) := goodIn_app (goodIn_of _ (by decide +kernel)) gz_c_L_hash_2hi_c_X11_hash_2hi
set_option maxHeartbeats 4000000 in
set_option maxRecDepth 100000 in
theorem c_L_hash_2hi (l : Launch) (hl0 : l.stackTraces = false) (D : va_G) (y : Nat → ClassId) (sz : Nat) (h0 : Nat) (w1 : Value) (w2 : Value) (w3 : Value) (w4 : Value) (w5 : Value) (w6 : Value) (w7 : Value) (w8 : Value) (w9 : Value) (w10 : Value) (w11 : Value) (w12 : Value) (w13 : Value) (w14 : Value) (w15 : Value) (o : Nat) (gf : Nat → Int64) (i : Int32) (h1 : ¬ i < 0) (h2 : ¬ i < 32) : Met l yL_hash wz_c_L_hash_2hi ({ frames := 7, cells := 1, slots := 6, locals := 103 }) (va_Pc [.ref h0, .int 2, .int i, .ref o] (zB D y [(h0, .inr (15, [w1, w2, w3, w4, w5, w6, w7, w8, w9, w10, w11, w12, w13, w14, w15])), (o, .inl (y 2, 1, .inr (.inl gf)))] sz [.declares (Bundle.init0 "java/lang/RuntimeException"), .declares (Bundle.init0 "java/lang/Exception"), .declares (Bundle.init0 "java/lang/Throwable"), .castable "java/lang/IndexOutOfBoundsException" "java/lang/IndexOutOfBoundsException"] [] zTh [.inr (.inr (.inr (.inl ("java/lang/IndexOutOfBoundsException", "java/lang/IllegalArgumentException"))))])) (va_Qi (fun (r : Int32) (_ : Unit) => r = 2) (fun _ t => va_P D vwCl [(o, .inl (y 2, 1, .inr (.inl gf)))] t.heap ∧ va_D (va_A [(h0, .inr (15, [w1, w2, w3, w4, w5, w6, w7, w8, w9, w10, w11, w12, w13, w14, w15])), (o, .inl (y 2, 1, .inr (.inl gf)))] sz) [(o, .inl (y 2, 1, .inr (.inl gf)))]) (va_A [(h0, .inr (15, [w1, w2, w3, w4, w5, w6, w7, w8, w9, w10, w11, w12, w13, w14, w15])), (o, .inl (y 2, 1, .inr (.inl gf)))] sz)) 1 6 (va_A [(h0, .inr (15, [w1, w2, w3, w4, w5, w6, w7, w8, w9, w10, w11, w12, w13, w14, w15])), (o, .inl (y 2, 1, .inr (.inl gf)))] sz) := by
  refine zz_ofWH (hh := [(0, 10, 13, 13), (0, 10, 17, 19)]) (cc := cL_hash) (maxL := 5) (ret := (some .int)) (by decide) rfl ?_
  intro p e s m args below meth c s₁ B hml htab hv
  obtain ⟨rfl, hsz, hP, hK, hD0, hN, hE, hO, hT, hG⟩ := hv
  have hx := B.exec
  have hb := B.bytes
  have hr := B.returns
  have hts := atoms_spec (ws := wz_c_L_hash_2hi) B.pre
  have hown : s.vm.findClass RL = some m.cls := findClass_of_methodNamed B.named
  have hlocks := B.notSynchronized
  subst hsz
  have hD := hD0.self (sz := s.heap.size)
  generalize hAe : va_A [(h0, .inr (15, [w1, w2, w3, w4, w5, w6, w7, w8, w9, w10, w11, w12, w13, w14, w15])), (o, .inl (y 2, 1, .inr (.inl gf)))] s.heap.size = A at hD hE hT hG ⊢
  have hA : ∀ q : Nat, s.heap.size ≤ q → A q := fun q h => by rw [← hAe]; exact Or.inr h
  have hS : va_S A s.heap s.heap [] := va_S.rf
  have hl := lv_entry ([.ref h0, .int 2, .int i, .ref o]) (n := 5) (Nat.le_of_ble_eq_true rfl)
  rw [lg_entry_eq]
  generalize (lg_sl ([.ref h0, .int 2, .int i, .ref o]) ++ List.replicate (5 - (lg_sl ([.ref h0, .int 2, .int i, .ref o])).length) Slot.unset).toArray = ls at hl ⊢
  have hl : lv_has ls 5 [(0, .ref h0), (1, .int 2), (2, .int i), (3, .ref o)] := hl
  refine lv_aload_n hx hb dL_hash_0 rfl (lv_at hl 3 rfl) ?_
  refine lv_iconst (v := 0) hx hb dL_hash_1 (by decide) ?_
  refine lv_aload_n hx hb dL_hash_2 rfl (lv_at hl 0 rfl) ?_
  refine lv_iload_n hx hb dL_hash_3 rfl (lv_at hl 1 rfl) ?_
  refine lv_iload_n hx hb dL_hash_4 rfl (lv_at hl 2 rfl) ?_
  have hPc := hP.sub (ws' := [(h0, .inr (15, [w1, w2, w3, w4, w5, w6, w7, w8, w9, w10, w11, w12, w13, w14, w15]))]) [0] rfl
  have hDc := hD.sub (ws' := [(h0, .inr (15, [w1, w2, w3, w4, w5, w6, w7, w8, w9, w10, w11, w12, w13, w14, w15]))]) [0] (by decide) rfl
  have hFc := va_free (wc := [(h0, .inr (15, [w1, w2, w3, w4, w5, w6, w7, w8, w9, w10, w11, w12, w13, w14, w15]))]) hD hS hA [0] rfl
  refine vx_calli (vx_runV (As := [.int 2, .int i]) (rest := [.int 0, .ref o]) ⟨hx, hb, hml, hown, hts⟩ (c_X11_hash_2hi l hl0 D y s.heap.size h0 w1 w2 w3 w4 w5 w6 w7 w8 w9 w10 w11 w12 w13 w14 w15 i h1 h2) (cwV 2 hts gv_c_L_hash_2hi_c_X11_hash_2hi_52 rfl rfl rfl (by decide +kernel) ⟨(Nat.le_of_ble_eq_true rfl), (Nat.le_of_ble_eq_true rfl)⟩) (zB.preV hPc hDc hK hN hE hO hT hG hS hFc (List.forall_mem_cons.mpr ⟨List.mem_of_getElem? (i := 0) rfl, (List.forall_mem_cons.mpr ⟨List.mem_of_getElem? (i := 1) rfl, (List.forall_mem_cons.mpr ⟨List.mem_of_getElem? (i := 2) rfl, (List.forall_mem_cons.mpr ⟨List.mem_of_getElem? (i := 3) rfl, (fun _ h => nomatch h)⟩)⟩)⟩)⟩) (fun _ h => nomatch h) (fun _ h => h) (fun _ h => nomatch h) (va_recv hK hPc (ci := 15) (q0 := 0) rfl rfl)) rfl rfl hl.1 rfl (lv_room (Nat.le_of_ble_eq_true rfl)) dL_hash_5 ⟨(Nat.le_of_ble_eq_true rfl), (Nat.le_of_ble_eq_true rfl)⟩) hS (fun q _ h => hFc q h) hFc (fun q _ h => hFc q h) (fun E ce q9 u t H1 locs ht hvm _ hBX hz1 hk1 hS hce hcv hcl => ?_) (fun r u t H1 locs ht hvm hw hB hz1 hk1 hS => hw.elim)
  have hBX : E = "java/lang/IndexOutOfBoundsException" := hBX
  subst hBX
  obtain ⟨hP, hD⟩ := va_join (wr := [(o, .inl (y 2, 1, .inr (.inl gf)))]) (w1 := []) hP hD [0] [1] rfl rfl (by decide) (by decide) hk1 hFc (fun k q h => by simp at h) ⟨fun i j p q h => by simp at h, fun k q h => by simp at h⟩
  generalize H1 = H at hP hS hce ⊢
  have hP : va_P D vwCl [(o, .inl (y 2, 1, .inr (.inl gf)))] H := hP
  have hD : va_D A [(o, .inl (y 2, 1, .inr (.inl gf)))] := hD
  refine vx_catch hown [⟨0, 10, 13, 13⟩] ⟨0, 10, 17, 19⟩ [] htab (List.forall_mem_cons.mpr ⟨Or.inr ⟨by decide, "java/lang/IllegalArgumentException", (hts (.classLink RL 13 "java/lang/IllegalArgumentException") (by decide +kernel)), (show va_Nc "java/lang/IndexOutOfBoundsException" "java/lang/IllegalArgumentException" s from (hG (.inr (.inr (.inr (.inl ("java/lang/IndexOutOfBoundsException", "java/lang/IllegalArgumentException"))))) (List.mem_of_getElem? (i := 0) rfl)))⟩, fun z h => nomatch h⟩) (by decide) (by decide) (hts (.classLink RL 19 "java/lang/IndexOutOfBoundsException") (by decide +kernel)) (va_Nw.use rfl (hN (.castable "java/lang/IndexOutOfBoundsException" "java/lang/IndexOutOfBoundsException") (List.mem_of_getElem? (i := 3) rfl)).2) hce hcv hcl ?_
  refine W.eq (g2 := F0 m 17 ls [.ref q9]) rfl ?_
  refine lv_astore (lv' := [(4, .ref q9), (0, .ref h0), (1, .int 2), (2, .int i), (3, .ref o)]) hx hb dL_hash_17 hl (by decide) rfl (fun ls hl => ?_)
  refine lv_iconst (v := 2) hx hb dL_hash_19 (by decide) ?_
  have hP9 := hP.sub (ws' := [(o, .inl (y 2, 1, .inr (.inl gf)))]) [0] rfl
  have hD9 := hD.sub (ws' := [(o, .inl (y 2, 1, .inr (.inl gf)))]) [0] (by decide) rfl
  refine W.widen (k := 1) (n := 6) (Nat.le_of_ble_eq_true rfl) (Nat.le_of_ble_eq_true rfl) ?_
  exact W.iret (v := 2) hx hb hr (fun t ht hW => ⟨⟨2, (), rfl, rfl, by rw [ht]; exact hP9, hD9⟩, hS.F ht⟩) hS.2.2 dL_hash_20
def wz_c_L_hash_w : List Cond := .codeWith yL_hash cL_hash 5 (some .int) [(0, 10, 13, 13), (0, 10, 17, 19)] :: ([.methodLink RL 52 yX11_hash, .instanceMethod yX11_hash, .selects RX11 yX11_hash yX11_hash, .initialized RX11, .classLink RL 13 "java/lang/IllegalArgumentException"] ++ (wz_c_X11_hash_w ++ ([])))
set_option maxRecDepth 100000 in
theorem gz_c_L_hash_w_c_X11_hash_w : GoodIn wz_c_L_hash_w wz_c_X11_hash_w := goodIn_sub (fun w h => List.mem_cons_of_mem _ (List.mem_append_right _ (List.mem_append_left _ h))) (by decide +kernel)
set_option maxRecDepth 100000 in
theorem gv_c_L_hash_w_c_X11_hash_w_52 : GoodIn wz_c_L_hash_w (wsV RL 52 RX11 yX11_hash wz_c_X11_hash_w) := goodIn_app (goodIn_of _ (by decide +kernel)) gz_c_L_hash_w_c_X11_hash_w
set_option maxHeartbeats 4000000 in
set_option maxRecDepth 100000 in
theorem c_L_hash_w (l : Launch) (hl0 : l.stackTraces = false) (D : va_G) (y : Nat → ClassId) (sz : Nat) (h0 : Nat) (w1 : Value) (w2 : Value) (w3 : Value) (w4 : Value) (w5 : Value) (w6 : Value) (w7 : Value) (w8 : Value) (w9 : Value) (w10 : Value) (w11 : Value) (w12 : Value) (w13 : Value) (w14 : Value) (w15 : Value) (o : Nat) (gf : Nat → Int64) (w : Int32) (i : Int32) (h1 : ¬ w = 1) (h2 : ¬ w = 2) : Met l yL_hash wz_c_L_hash_w ({ frames := 7, cells := 1, slots := 6, locals := 103 }) (va_Pc [.ref h0, .int w, .int i, .ref o] (zB D y [(h0, .inr (15, [w1, w2, w3, w4, w5, w6, w7, w8, w9, w10, w11, w12, w13, w14, w15])), (o, .inl (y 2, 1, .inr (.inl gf)))] sz [.declares (Bundle.init0 "java/lang/RuntimeException"), .declares (Bundle.init0 "java/lang/Exception"), .declares (Bundle.init0 "java/lang/Throwable"), .castable "java/lang/IllegalArgumentException" "java/lang/IllegalArgumentException"] [] zTh [])) (va_Qi (fun (r : Int32) (_ : Unit) => r = 1) (fun _ t => va_P D vwCl [(o, .inl (y 2, 1, .inr (.inl gf)))] t.heap ∧ va_D (va_A [(h0, .inr (15, [w1, w2, w3, w4, w5, w6, w7, w8, w9, w10, w11, w12, w13, w14, w15])), (o, .inl (y 2, 1, .inr (.inl gf)))] sz) [(o, .inl (y 2, 1, .inr (.inl gf)))]) (va_A [(h0, .inr (15, [w1, w2, w3, w4, w5, w6, w7, w8, w9, w10, w11, w12, w13, w14, w15])), (o, .inl (y 2, 1, .inr (.inl gf)))] sz)) 1 6 (va_A [(h0, .inr (15, [w1, w2, w3, w4, w5, w6, w7, w8, w9, w10, w11, w12, w13, w14, w15])), (o, .inl (y 2, 1, .inr (.inl gf)))] sz) := by
  refine zz_ofWH (hh := [(0, 10, 13, 13), (0, 10, 17, 19)]) (cc := cL_hash) (maxL := 5) (ret := (some .int)) (by decide) rfl ?_
  intro p e s m args below meth c s₁ B hml htab hv
  obtain ⟨rfl, hsz, hP, hK, hD0, hN, hE, hO, hT, hG⟩ := hv
  have hx := B.exec
  have hb := B.bytes
  have hr := B.returns
  have hts := atoms_spec (ws := wz_c_L_hash_w) B.pre
  have hown : s.vm.findClass RL = some m.cls := findClass_of_methodNamed B.named
  have hlocks := B.notSynchronized
  subst hsz
  have hD := hD0.self (sz := s.heap.size)
  generalize hAe : va_A [(h0, .inr (15, [w1, w2, w3, w4, w5, w6, w7, w8, w9, w10, w11, w12, w13, w14, w15])), (o, .inl (y 2, 1, .inr (.inl gf)))] s.heap.size = A at hD hE hT hG ⊢
  have hA : ∀ q : Nat, s.heap.size ≤ q → A q := fun q h => by rw [← hAe]; exact Or.inr h
  have hS : va_S A s.heap s.heap [] := va_S.rf
  have hl := lv_entry ([.ref h0, .int w, .int i, .ref o]) (n := 5) (Nat.le_of_ble_eq_true rfl)
  rw [lg_entry_eq]
  generalize (lg_sl ([.ref h0, .int w, .int i, .ref o]) ++ List.replicate (5 - (lg_sl ([.ref h0, .int w, .int i, .ref o])).length) Slot.unset).toArray = ls at hl ⊢
  have hl : lv_has ls 5 [(0, .ref h0), (1, .int w), (2, .int i), (3, .ref o)] := hl
  refine lv_aload_n hx hb dL_hash_0 rfl (lv_at hl 3 rfl) ?_
  refine lv_iconst (v := 0) hx hb dL_hash_1 (by decide) ?_
  refine lv_aload_n hx hb dL_hash_2 rfl (lv_at hl 0 rfl) ?_
  refine lv_iload_n hx hb dL_hash_3 rfl (lv_at hl 1 rfl) ?_
  refine lv_iload_n hx hb dL_hash_4 rfl (lv_at hl 2 rfl) ?_
  have hPc := hP.sub (ws' := [(h0, .inr (15, [w1, w2, w3, w4, w5, w6, w7, w8, w9, w10, w11, w12, w13, w14, w15]))]) [0] rfl
  have hDc := hD.sub (ws' := [(h0, .inr (15, [w1, w2, w3, w4, w5, w6, w7, w8, w9, w10, w11, w12, w13, w14, w15]))]) [0] (by decide) rfl
  have hFc := va_free (wc := [(h0, .inr (15, [w1, w2, w3, w4, w5, w6, w7, w8, w9, w10, w11, w12, w13, w14, w15]))]) hD hS hA [0] rfl
  refine vx_calli (vx_runV (As := [.int w, .int i]) (rest := [.int 0, .ref o]) ⟨hx, hb, hml, hown, hts⟩ (c_X11_hash_w l hl0 D y s.heap.size h0 w1 w2 w3 w4 w5 w6 w7 w8 w9 w10 w11 w12 w13 w14 w15 w i h1 h2) (cwV 2 hts gv_c_L_hash_w_c_X11_hash_w_52 rfl rfl rfl (by decide +kernel) ⟨(Nat.le_of_ble_eq_true rfl), (Nat.le_of_ble_eq_true rfl)⟩) (zB.preV hPc hDc hK hN hE hO hT hG hS hFc (List.forall_mem_cons.mpr ⟨List.mem_of_getElem? (i := 0) rfl, (List.forall_mem_cons.mpr ⟨List.mem_of_getElem? (i := 1) rfl, (List.forall_mem_cons.mpr ⟨List.mem_of_getElem? (i := 2) rfl, (List.forall_mem_cons.mpr ⟨List.mem_of_getElem? (i := 3) rfl, (fun _ h => nomatch h)⟩)⟩)⟩)⟩) (fun _ h => nomatch h) (fun _ h => h) (fun _ h => nomatch h) (va_recv hK hPc (ci := 15) (q0 := 0) rfl rfl)) rfl rfl hl.1 rfl (lv_room (Nat.le_of_ble_eq_true rfl)) dL_hash_5 ⟨(Nat.le_of_ble_eq_true rfl), (Nat.le_of_ble_eq_true rfl)⟩) hS (fun q _ h => hFc q h) hFc (fun q _ h => hFc q h) (fun E ce q9 u t H1 locs ht hvm _ hBX hz1 hk1 hS hce hcv hcl => ?_) (fun r u t H1 locs ht hvm hw hB hz1 hk1 hS => hw.elim)
  have hBX : E = "java/lang/IllegalArgumentException" := hBX
  subst hBX
  obtain ⟨hP, hD⟩ := va_join (wr := [(o, .inl (y 2, 1, .inr (.inl gf)))]) (w1 := []) hP hD [0] [1] rfl rfl (by decide) (by decide) hk1 hFc (fun k q h => by simp at h) ⟨fun i j p q h => by simp at h, fun k q h => by simp at h⟩
  generalize H1 = H at hP hS hce ⊢
  have hP : va_P D vwCl [(o, .inl (y 2, 1, .inr (.inl gf)))] H := hP
  have hD : va_D A [(o, .inl (y 2, 1, .inr (.inl gf)))] := hD
  refine vx_catch hown [] ⟨0, 10, 13, 13⟩ [⟨0, 10, 17, 19⟩] htab (fun z h => nomatch h) (by decide) (by decide) (hts (.classLink RL 13 "java/lang/IllegalArgumentException") (by decide +kernel)) (va_Nw.use rfl (hN (.castable "java/lang/IllegalArgumentException" "java/lang/IllegalArgumentException") (List.mem_of_getElem? (i := 3) rfl)).2) hce hcv hcl ?_
  refine W.eq (g2 := F0 m 13 ls [.ref q9]) rfl ?_
  refine lv_astore (lv' := [(4, .ref q9), (0, .ref h0), (1, .int w), (2, .int i), (3, .ref o)]) hx hb dL_hash_13 hl (by decide) rfl (fun ls hl => ?_)
  refine lv_iconst (v := 1) hx hb dL_hash_15 (by decide) ?_
  have hP9 := hP.sub (ws' := [(o, .inl (y 2, 1, .inr (.inl gf)))]) [0] rfl
  have hD9 := hD.sub (ws' := [(o, .inl (y 2, 1, .inr (.inl gf)))]) [0] (by decide) rfl
  refine W.widen (k := 1) (n := 6) (Nat.le_of_ble_eq_true rfl) (Nat.le_of_ble_eq_true rfl) ?_
  exact W.iret (v := 1) hx hb hr (fun t ht hW => ⟨⟨1, (), rfl, rfl, by rw [ht]; exact hP9, hD9⟩, hS.F ht⟩) hS.2.2 dL_hash_16
def wz_c_L_armor_0 : List Cond := .codeWith yL_armor cL_armor 4 (some .int) [(0, 9, 12, 13), (0, 9, 15, 42)] :: ([.methodLink RL 39 yX11_armor, .instanceMethod yX11_armor, .selects RX11 yX11_armor yX11_armor, .initialized RX11] ++ (wz_c_X11_armor_0 ++ ([])))
set_option maxRecDepth 100000 in
theorem gz_c_L_armor_0_c_X11_armor_0 : GoodIn wz_c_L_armor_0 wz_c_X11_armor_0 := goodIn_sub (fun w h => List.mem_cons_of_mem _ (List.mem_append_right _ (List.mem_append_left _ h))) (by decide +kernel)
set_option maxRecDepth 100000 in
theorem gv_c_L_armor_0_c_X11_armor_0_39 : GoodIn wz_c_L_armor_0 (wsV RL 39 RX11 yX11_armor wz_c_X11_armor_0) := goodIn_app (goodIn_of _ (by decide +kernel)) gz_c_L_armor_0_c_X11_armor_0
set_option maxHeartbeats 4000000 in
set_option maxRecDepth 100000 in
theorem c_L_armor_0 (l : Launch) (D : va_G) (y : Nat → ClassId) (sz : Nat) (h0 : Nat) (ou : Nat) (sp : Nat) (sr : Nat) (w1 : Value) (w2 : Value) (w3 : Value) (w4 : Value) (w5 : Value) (w6 : Value) (w7 : Value) (w8 : Value) (w9 : Value) (w10 : Value) (w11 : Value) (w12 : Value) (w13 : Value) (w14 : Value) (w15 : Value) (w16 : Value) (w17 : Value) (o : Nat) (g : Nat → Int32) (gf : Nat → Int64) (sa0 : Nat) (st0 : Nat) (sa1 : Nat) (st1 : Nat) (sa4 : Nat) (st4 : Nat) (sa5 : Nat) (st5 : Nat) : Met l yL_armor wz_c_L_armor_0 ({ frames := 7, cells := 0, slots := 0, locals := 152 }) (va_Pc [.ref h0, .int 0, .ref o] (zB D y [(h0, .inr (15, [w1, w2, w3, w4, w5, w6, w7, w8, w9, w10, w11, .ref ou, .ref sp, w12, w13])), (ou, .inr (4, [w14, w15, .int 0])), (sp, .inr (4, [.ref sr, w16, w17])), (sr, .inl (y 0, 1024, .inl g)), (o, .inl (y 2, 1, .inr (.inl gf)))] sz [] [("java/lang/String", "COMPACT_STRINGS", "Z", .int 1)] [] [.inr (.inl (sa0, st0, 11, zs0)), .inr (.inr (.inl (RX9, 82, "-----BEGIN ", sa0))), .inr (.inr (.inr (.inr ("jdk/internal/util/Preconditions", "SIOOBE_FORMATTER", "Ljava/util/function/BiFunction;")))), .inr (.inl (sa1, st1, 11, zs1)), .inr (.inr (.inl (RX9, 24, "SEALED KEYS", sa1))), .inr (.inl (sa4, st4, 5, zs4)), .inr (.inr (.inl (RX9, 80, "-----", sa4))), .inr (.inl (sa5, st5, 9, zs5)), .inr (.inr (.inl (RX9, 113, "-----END ", sa5)))])) (va_Qi (fun (r : Int32) (_ : Unit) => r = 0) (fun _ t => ∃ fz0 : Nat → Int32, va_P D vwCl [(h0, .inr (15, [w1, w2, w3, w4, w5, w6, w7, w8, w9, w10, w11, .ref sp, .ref ou, w12, w13])), (ou, .inr (4, [w14, w15, .int 0])), (sp, .inr (4, [.ref sr, w16, .int (nI 61)])), (sr, .inl (y 0, 1024, .inl fz0)), (o, .inl (y 2, 1, .inr (.inl (vp_updL gf (0 : Int32).toNatClampNeg 61))))] t.heap ∧ va_D (va_A [(h0, .inr (15, [w1, w2, w3, w4, w5, w6, w7, w8, w9, w10, w11, .ref ou, .ref sp, w12, w13])), (ou, .inr (4, [w14, w15, .int 0])), (sp, .inr (4, [.ref sr, w16, w17])), (sr, .inl (y 0, 1024, .inl g)), (o, .inl (y 2, 1, .inr (.inl gf)))] sz) [(h0, .inr (15, [w1, w2, w3, w4, w5, w6, w7, w8, w9, w10, w11, .ref sp, .ref ou, w12, w13])), (ou, .inr (4, [w14, w15, .int 0])), (sp, .inr (4, [.ref sr, w16, .int (nI 61)])), (sr, .inl (y 0, 1024, .inl fz0)), (o, .inl (y 2, 1, .inr (.inl (vp_updL gf (0 : Int32).toNatClampNeg 61))))]) (va_A [(h0, .inr (15, [w1, w2, w3, w4, w5, w6, w7, w8, w9, w10, w11, .ref ou, .ref sp, w12, w13])), (ou, .inr (4, [w14, w15, .int 0])), (sp, .inr (4, [.ref sr, w16, w17])), (sr, .inl (y 0, 1024, .inl g)), (o, .inl (y 2, 1, .inr (.inl gf)))] sz)) 0 0 (va_A [(h0, .inr (15, [w1, w2, w3, w4, w5, w6, w7, w8, w9, w10, w11, .ref ou, .ref sp, w12, w13])), (ou, .inr (4, [w14, w15, .int 0])), (sp, .inr (4, [.ref sr, w16, w17])), (sr, .inl (y 0, 1024, .inl g)), (o, .inl (y 2, 1, .inr (.inl gf)))] sz) := by
  refine zz_ofWH (hh := [(0, 9, 12, 13), (0, 9, 15, 42)]) (cc := cL_armor) (maxL := 4) (ret := (some .int)) (by decide) rfl ?_
  intro p e s m args below meth c s₁ B hml htab hv
  obtain ⟨rfl, hsz, hP, hK, hD0, hN, hE, hO, hT, hG⟩ := hv
  have hx := B.exec
  have hb := B.bytes
  have hr := B.returns
  have hts := atoms_spec (ws := wz_c_L_armor_0) B.pre
  have hown : s.vm.findClass RL = some m.cls := findClass_of_methodNamed B.named
  have hlocks := B.notSynchronized
  subst hsz
  have hD := hD0.self (sz := s.heap.size)
  generalize hAe : va_A [(h0, .inr (15, [w1, w2, w3, w4, w5, w6, w7, w8, w9, w10, w11, .ref ou, .ref sp, w12, w13])), (ou, .inr (4, [w14, w15, .int 0])), (sp, .inr (4, [.ref sr, w16, w17])), (sr, .inl (y 0, 1024, .inl g)), (o, .inl (y 2, 1, .inr (.inl gf)))] s.heap.size = A at hD hE hT hG ⊢
  have hA : ∀ q : Nat, s.heap.size ≤ q → A q := fun q h => by rw [← hAe]; exact Or.inr h
  have hS : va_S A s.heap s.heap [] := va_S.rf
  have hl := lv_entry ([.ref h0, .int 0, .ref o]) (n := 4) (Nat.le_of_ble_eq_true rfl)
  rw [lg_entry_eq]
  generalize (lg_sl ([.ref h0, .int 0, .ref o]) ++ List.replicate (4 - (lg_sl ([.ref h0, .int 0, .ref o])).length) Slot.unset).toArray = ls at hl ⊢
  have hl : lv_has ls 4 [(0, .ref h0), (1, .int 0), (2, .ref o)] := hl
  refine lv_aload_n hx hb dL_armor_0 rfl (lv_at hl 2 rfl) ?_
  refine lv_iconst (v := 0) hx hb dL_armor_1 (by decide) ?_
  refine lv_aload_n hx hb dL_armor_2 rfl (lv_at hl 0 rfl) ?_
  refine lv_iload_n hx hb dL_armor_3 rfl (lv_at hl 1 rfl) ?_
  have hPc := hP.sub (ws' := [(h0, .inr (15, [w1, w2, w3, w4, w5, w6, w7, w8, w9, w10, w11, .ref ou, .ref sp, w12, w13])), (ou, .inr (4, [w14, w15, .int 0])), (sp, .inr (4, [.ref sr, w16, w17])), (sr, .inl (y 0, 1024, .inl g))]) [0, 1, 2, 3] rfl
  have hDc := hD.sub (ws' := [(h0, .inr (15, [w1, w2, w3, w4, w5, w6, w7, w8, w9, w10, w11, .ref ou, .ref sp, w12, w13])), (ou, .inr (4, [w14, w15, .int 0])), (sp, .inr (4, [.ref sr, w16, w17])), (sr, .inl (y 0, 1024, .inl g))]) [0, 1, 2, 3] (by decide) rfl
  have hFc := va_free (wc := [(h0, .inr (15, [w1, w2, w3, w4, w5, w6, w7, w8, w9, w10, w11, .ref ou, .ref sp, w12, w13])), (ou, .inr (4, [w14, w15, .int 0])), (sp, .inr (4, [.ref sr, w16, w17])), (sr, .inl (y 0, 1024, .inl g))]) hD hS hA [0, 1, 2, 3] rfl
  refine va_calli (va_runV (As := [.int 0]) (rest := [.int 0, .ref o]) ⟨hx, hb, hml, hown, hts⟩ (c_X11_armor_0 l D y s.heap.size h0 ou sp sr w1 w2 w3 w4 w5 w6 w7 w8 w9 w10 w11 w12 w13 w14 w15 w16 w17 g sa0 st0 sa1 st1 sa4 st4 sa5 st5) (cwV 1 hts gv_c_L_armor_0_c_X11_armor_0_39 rfl rfl rfl (by decide +kernel) ⟨(Nat.le_of_ble_eq_true rfl), (Nat.le_of_ble_eq_true rfl)⟩) (zB.preV hPc hDc hK hN hE hO hT hG hS hFc (fun _ h => nomatch h) (List.forall_mem_cons.mpr ⟨List.mem_of_getElem? (i := 0) rfl, (fun _ h => nomatch h)⟩) (fun _ h => nomatch h) (List.forall_mem_cons.mpr ⟨List.mem_of_getElem? (i := 0) rfl, (List.forall_mem_cons.mpr ⟨List.mem_of_getElem? (i := 1) rfl, (List.forall_mem_cons.mpr ⟨List.mem_of_getElem? (i := 2) rfl, (List.forall_mem_cons.mpr ⟨List.mem_of_getElem? (i := 3) rfl, (List.forall_mem_cons.mpr ⟨List.mem_of_getElem? (i := 4) rfl, (List.forall_mem_cons.mpr ⟨List.mem_of_getElem? (i := 5) rfl, (List.forall_mem_cons.mpr ⟨List.mem_of_getElem? (i := 6) rfl, (List.forall_mem_cons.mpr ⟨List.mem_of_getElem? (i := 7) rfl, (List.forall_mem_cons.mpr ⟨List.mem_of_getElem? (i := 8) rfl, (fun _ h => nomatch h)⟩)⟩)⟩)⟩)⟩)⟩)⟩)⟩)⟩) (va_recv hK hPc (ci := 15) (q0 := 0) rfl rfl)) rfl rfl hl.1 rfl (lv_room (Nat.le_of_ble_eq_true rfl)) dL_armor_4 ⟨(Nat.le_of_ble_eq_true rfl), (Nat.le_of_ble_eq_true rfl)⟩) hS (fun q _ h => hFc q h) hFc (fun r1 u t H1 locs ht hvm hw hB hz1 hk1 hS => ?_)
  obtain ⟨f2, hP1, hD1⟩ := hB
  rw [ht] at hP1
  obtain ⟨hP, hD⟩ := va_join (wr := [(o, .inl (y 2, 1, .inr (.inl gf)))]) (w1 := [(h0, .inr (15, [w1, w2, w3, w4, w5, w6, w7, w8, w9, w10, w11, .ref sp, .ref ou, w12, w13])), (ou, .inr (4, [w14, w15, .int 0])), (sp, .inr (4, [.ref sr, w16, .int (nI 61)])), (sr, .inl (y 0, 1024, .inl f2))]) hP hD [0, 1, 2, 3] [4] rfl rfl (by decide) (by decide) hk1 hFc hP1 hD1
  generalize H1 = H at hP hS ⊢
  have hP : va_P D vwCl [(o, .inl (y 2, 1, .inr (.inl gf))), (h0, .inr (15, [w1, w2, w3, w4, w5, w6, w7, w8, w9, w10, w11, .ref sp, .ref ou, w12, w13])), (ou, .inr (4, [w14, w15, .int 0])), (sp, .inr (4, [.ref sr, w16, .int (nI 61)])), (sr, .inl (y 0, 1024, .inl f2))] H := hP
  have hD : va_D A [(o, .inl (y 2, 1, .inr (.inl gf))), (h0, .inr (15, [w1, w2, w3, w4, w5, w6, w7, w8, w9, w10, w11, .ref sp, .ref ou, w12, w13])), (ou, .inr (4, [w14, w15, .int 0])), (sp, .inr (4, [.ref sr, w16, .int (nI 61)])), (sr, .inl (y 0, 1024, .inl f2))] := hD
  have hw : r1 = nI 61 := hw
  subst hw
  refine lv_i2l (v := 61) hx hb dL_armor_7 (by decide +kernel) ?_
  refine va_last hx hb hK hP hD hS 0 2 rfl rfl (by unfold vp_in; decide) dL_armor_8 (fun H locs hP hD hS => ?_)
  have hP : va_P D vwCl [(o, .inl (y 2, 1, .inr (.inl (vp_updL gf (0 : Int32).toNatClampNeg 61)))), (h0, .inr (15, [w1, w2, w3, w4, w5, w6, w7, w8, w9, w10, w11, .ref sp, .ref ou, w12, w13])), (ou, .inr (4, [w14, w15, .int 0])), (sp, .inr (4, [.ref sr, w16, .int (nI 61)])), (sr, .inl (y 0, 1024, .inl f2))] H := hP
  have hD : va_D A [(o, .inl (y 2, 1, .inr (.inl (vp_updL gf (0 : Int32).toNatClampNeg 61)))), (h0, .inr (15, [w1, w2, w3, w4, w5, w6, w7, w8, w9, w10, w11, .ref sp, .ref ou, w12, w13])), (ou, .inr (4, [w14, w15, .int 0])), (sp, .inr (4, [.ref sr, w16, .int (nI 61)])), (sr, .inl (y 0, 1024, .inl f2))] := hD
  refine lv_goto (tgt := 18) hx hb dL_armor_9 (by decide) ?_
  refine lv_iconst (v := 0) hx hb dL_armor_18 (by decide) ?_
  have hP9 := hP.sub (ws' := [(h0, .inr (15, [w1, w2, w3, w4, w5, w6, w7, w8, w9, w10, w11, .ref sp, .ref ou, w12, w13])), (ou, .inr (4, [w14, w15, .int 0])), (sp, .inr (4, [.ref sr, w16, .int (nI 61)])), (sr, .inl (y 0, 1024, .inl f2)), (o, .inl (y 2, 1, .inr (.inl (vp_updL gf (0 : Int32).toNatClampNeg 61))))]) [1, 2, 3, 4, 0] rfl
  have hD9 := hD.sub (ws' := [(h0, .inr (15, [w1, w2, w3, w4, w5, w6, w7, w8, w9, w10, w11, .ref sp, .ref ou, w12, w13])), (ou, .inr (4, [w14, w15, .int 0])), (sp, .inr (4, [.ref sr, w16, .int (nI 61)])), (sr, .inl (y 0, 1024, .inl f2)), (o, .inl (y 2, 1, .inr (.inl (vp_updL gf (0 : Int32).toNatClampNeg 61))))]) [1, 2, 3, 4, 0] (by decide) rfl
  refine W.widen (k := 0) (n := 0) (Nat.le_of_ble_eq_true rfl) (Nat.le_of_ble_eq_true rfl) ?_
  exact W.iret (v := 0) hx hb hr (fun t ht hW => ⟨⟨0, (), rfl, rfl, f2, by rw [ht]; exact hP9, hD9⟩, hS.F ht⟩) hS.2.2 dL_armor_19
def wz_c_L_armor_1 : List Cond := .codeWith yL_armor cL_armor 4 (some .int) [(0, 9, 12, 13), (0, 9, 15, 42)] :: ([.methodLink RL 39 yX11_armor, .instanceMethod yX11_armor, .selects RX11 yX11_armor yX11_armor, .initialized RX11] ++ (wz_c_X11_armor_1 ++ ([])))
set_option maxRecDepth 100000 in
theorem gz_c_L_armor_1_c_X11_armor_1 : GoodIn wz_c_L_armor_1 wz_c_X11_armor_1 := goodIn_sub (fun w h => List.mem_cons_of_mem _ (List.mem_append_right _ (List.mem_append_left _ h))) (by decide +kernel)
set_option maxRecDepth 100000 in
theorem gv_c_L_armor_1_c_X11_armor_1_39 : GoodIn wz_c_L_armor_1 (wsV RL 39 RX11 yX11_armor wz_c_X11_armor_1) := goodIn_app (goodIn_of _ (by decide +kernel)) gz_c_L_armor_1_c_X11_armor_1
set_option maxHeartbeats 4000000 in
set_option maxRecDepth 100000 in
theorem c_L_armor_1 (l : Launch) (D : va_G) (y : Nat → ClassId) (sz : Nat) (h0 : Nat) (ou : Nat) (sp : Nat) (sr : Nat) (w1 : Value) (w2 : Value) (w3 : Value) (w4 : Value) (w5 : Value) (w6 : Value) (w7 : Value) (w8 : Value) (w9 : Value) (w10 : Value) (w11 : Value) (w12 : Value) (w13 : Value) (w14 : Value) (w15 : Value) (w16 : Value) (w17 : Value) (o : Nat) (g : Nat → Int32) (gf : Nat → Int64) (sa0 : Nat) (st0 : Nat) (sa2 : Nat) (st2 : Nat) (sa4 : Nat) (st4 : Nat) (sa5 : Nat) (st5 : Nat) : Met l yL_armor wz_c_L_armor_1 ({ frames := 7, cells := 0, slots := 0, locals := 152 }) (va_Pc [.ref h0, .int 1, .ref o] (zB D y [(h0, .inr (15, [w1, w2, w3, w4, w5, w6, w7, w8, w9, w10, w11, .ref ou, .ref sp, w12, w13])), (ou, .inr (4, [w14, w15, .int 0])), (sp, .inr (4, [.ref sr, w16, w17])), (sr, .inl (y 0, 1024, .inl g)), (o, .inl (y 2, 1, .inr (.inl gf)))] sz [] [("java/lang/String", "COMPACT_STRINGS", "Z", .int 1)] [] [.inr (.inl (sa0, st0, 11, zs0)), .inr (.inr (.inl (RX9, 82, "-----BEGIN ", sa0))), .inr (.inr (.inr (.inr ("jdk/internal/util/Preconditions", "SIOOBE_FORMATTER", "Ljava/util/function/BiFunction;")))), .inr (.inl (sa2, st2, 4, zs2)), .inr (.inr (.inl (RX9, 26, "SEAL", sa2))), .inr (.inl (sa4, st4, 5, zs4)), .inr (.inr (.inl (RX9, 80, "-----", sa4))), .inr (.inl (sa5, st5, 9, zs5)), .inr (.inr (.inl (RX9, 113, "-----END ", sa5)))])) (va_Qi (fun (r : Int32) (_ : Unit) => r = 0) (fun _ t => ∃ fz0 : Nat → Int32, va_P D vwCl [(h0, .inr (15, [w1, w2, w3, w4, w5, w6, w7, w8, w9, w10, w11, .ref sp, .ref ou, w12, w13])), (ou, .inr (4, [w14, w15, .int 0])), (sp, .inr (4, [.ref sr, w16, .int (nI 47)])), (sr, .inl (y 0, 1024, .inl fz0)), (o, .inl (y 2, 1, .inr (.inl (vp_updL gf (0 : Int32).toNatClampNeg 47))))] t.heap ∧ va_D (va_A [(h0, .inr (15, [w1, w2, w3, w4, w5, w6, w7, w8, w9, w10, w11, .ref ou, .ref sp, w12, w13])), (ou, .inr (4, [w14, w15, .int 0])), (sp, .inr (4, [.ref sr, w16, w17])), (sr, .inl (y 0, 1024, .inl g)), (o, .inl (y 2, 1, .inr (.inl gf)))] sz) [(h0, .inr (15, [w1, w2, w3, w4, w5, w6, w7, w8, w9, w10, w11, .ref sp, .ref ou, w12, w13])), (ou, .inr (4, [w14, w15, .int 0])), (sp, .inr (4, [.ref sr, w16, .int (nI 47)])), (sr, .inl (y 0, 1024, .inl fz0)), (o, .inl (y 2, 1, .inr (.inl (vp_updL gf (0 : Int32).toNatClampNeg 47))))]) (va_A [(h0, .inr (15, [w1, w2, w3, w4, w5, w6, w7, w8, w9, w10, w11, .ref ou, .ref sp, w12, w13])), (ou, .inr (4, [w14, w15, .int 0])), (sp, .inr (4, [.ref sr, w16, w17])), (sr, .inl (y 0, 1024, .inl g)), (o, .inl (y 2, 1, .inr (.inl gf)))] sz)) 0 0 (va_A [(h0, .inr (15, [w1, w2, w3, w4, w5, w6, w7, w8, w9, w10, w11, .ref ou, .ref sp, w12, w13])), (ou, .inr (4, [w14, w15, .int 0])), (sp, .inr (4, [.ref sr, w16, w17])), (sr, .inl (y 0, 1024, .inl g)), (o, .inl (y 2, 1, .inr (.inl gf)))] sz) := by
  refine zz_ofWH (hh := [(0, 9, 12, 13), (0, 9, 15, 42)]) (cc := cL_armor) (maxL := 4) (ret := (some .int)) (by decide) rfl ?_
  intro p e s m args below meth c s₁ B hml htab hv
  obtain ⟨rfl, hsz, hP, hK, hD0, hN, hE, hO, hT, hG⟩ := hv
  have hx := B.exec
  have hb := B.bytes
  have hr := B.returns
  have hts := atoms_spec (ws := wz_c_L_armor_1) B.pre
  have hown : s.vm.findClass RL = some m.cls := findClass_of_methodNamed B.named
  have hlocks := B.notSynchronized
  subst hsz
  have hD := hD0.self (sz := s.heap.size)
  generalize hAe : va_A [(h0, .inr (15, [w1, w2, w3, w4, w5, w6, w7, w8, w9, w10, w11, .ref ou, .ref sp, w12, w13])), (ou, .inr (4, [w14, w15, .int 0])), (sp, .inr (4, [.ref sr, w16, w17])), (sr, .inl (y 0, 1024, .inl g)), (o, .inl (y 2, 1, .inr (.inl gf)))] s.heap.size = A at hD hE hT hG ⊢
  have hA : ∀ q : Nat, s.heap.size ≤ q → A q := fun q h => by rw [← hAe]; exact Or.inr h
  have hS : va_S A s.heap s.heap [] := va_S.rf
  have hl := lv_entry ([.ref h0, .int 1, .ref o]) (n := 4) (Nat.le_of_ble_eq_true rfl)
  rw [lg_entry_eq]
  generalize (lg_sl ([.ref h0, .int 1, .ref o]) ++ List.replicate (4 - (lg_sl ([.ref h0, .int 1, .ref o])).length) Slot.unset).toArray = ls at hl ⊢
  have hl : lv_has ls 4 [(0, .ref h0), (1, .int 1), (2, .ref o)] := hl
  refine lv_aload_n hx hb dL_armor_0 rfl (lv_at hl 2 rfl) ?_
  refine lv_iconst (v := 0) hx hb dL_armor_1 (by decide) ?_
  refine lv_aload_n hx hb dL_armor_2 rfl (lv_at hl 0 rfl) ?_
  refine lv_iload_n hx hb dL_armor_3 rfl (lv_at hl 1 rfl) ?_
  have hPc := hP.sub (ws' := [(h0, .inr (15, [w1, w2, w3, w4, w5, w6, w7, w8, w9, w10, w11, .ref ou, .ref sp, w12, w13])), (ou, .inr (4, [w14, w15, .int 0])), (sp, .inr (4, [.ref sr, w16, w17])), (sr, .inl (y 0, 1024, .inl g))]) [0, 1, 2, 3] rfl
  have hDc := hD.sub (ws' := [(h0, .inr (15, [w1, w2, w3, w4, w5, w6, w7, w8, w9, w10, w11, .ref ou, .ref sp, w12, w13])), (ou, .inr (4, [w14, w15, .int 0])), (sp, .inr (4, [.ref sr, w16, w17])), (sr, .inl (y 0, 1024, .inl g))]) [0, 1, 2, 3] (by decide) rfl
  have hFc := va_free (wc := [(h0, .inr (15, [w1, w2, w3, w4, w5, w6, w7, w8, w9, w10, w11, .ref ou, .ref sp, w12, w13])), (ou, .inr (4, [w14, w15, .int 0])), (sp, .inr (4, [.ref sr, w16, w17])), (sr, .inl (y 0, 1024, .inl g))]) hD hS hA [0, 1, 2, 3] rfl
  refine va_calli (va_runV (As := [.int 1]) (rest := [.int 0, .ref o]) ⟨hx, hb, hml, hown, hts⟩ (c_X11_armor_1 l D y s.heap.size h0 ou sp sr w1 w2 w3 w4 w5 w6 w7 w8 w9 w10 w11 w12 w13 w14 w15 w16 w17 g sa0 st0 sa2 st2 sa4 st4 sa5 st5) (cwV 1 hts gv_c_L_armor_1_c_X11_armor_1_39 rfl rfl rfl (by decide +kernel) ⟨(Nat.le_of_ble_eq_true rfl), (Nat.le_of_ble_eq_true rfl)⟩) (zB.preV hPc hDc hK hN hE hO hT hG hS hFc (fun _ h => nomatch h) (List.forall_mem_cons.mpr ⟨List.mem_of_getElem? (i := 0) rfl, (fun _ h => nomatch h)⟩) (fun _ h => nomatch h) (List.forall_mem_cons.mpr ⟨List.mem_of_getElem? (i := 0) rfl, (List.forall_mem_cons.mpr ⟨List.mem_of_getElem? (i := 1) rfl, (List.forall_mem_cons.mpr ⟨List.mem_of_getElem? (i := 2) rfl, (List.forall_mem_cons.mpr ⟨List.mem_of_getElem? (i := 3) rfl, (List.forall_mem_cons.mpr ⟨List.mem_of_getElem? (i := 4) rfl, (List.forall_mem_cons.mpr ⟨List.mem_of_getElem? (i := 5) rfl, (List.forall_mem_cons.mpr ⟨List.mem_of_getElem? (i := 6) rfl, (List.forall_mem_cons.mpr ⟨List.mem_of_getElem? (i := 7) rfl, (List.forall_mem_cons.mpr ⟨List.mem_of_getElem? (i := 8) rfl, (fun _ h => nomatch h)⟩)⟩)⟩)⟩)⟩)⟩)⟩)⟩)⟩) (va_recv hK hPc (ci := 15) (q0 := 0) rfl rfl)) rfl rfl hl.1 rfl (lv_room (Nat.le_of_ble_eq_true rfl)) dL_armor_4 ⟨(Nat.le_of_ble_eq_true rfl), (Nat.le_of_ble_eq_true rfl)⟩) hS (fun q _ h => hFc q h) hFc (fun r1 u t H1 locs ht hvm hw hB hz1 hk1 hS => ?_)
  obtain ⟨f2, hP1, hD1⟩ := hB
  rw [ht] at hP1
  obtain ⟨hP, hD⟩ := va_join (wr := [(o, .inl (y 2, 1, .inr (.inl gf)))]) (w1 := [(h0, .inr (15, [w1, w2, w3, w4, w5, w6, w7, w8, w9, w10, w11, .ref sp, .ref ou, w12, w13])), (ou, .inr (4, [w14, w15, .int 0])), (sp, .inr (4, [.ref sr, w16, .int (nI 47)])), (sr, .inl (y 0, 1024, .inl f2))]) hP hD [0, 1, 2, 3] [4] rfl rfl (by decide) (by decide) hk1 hFc hP1 hD1
  generalize H1 = H at hP hS ⊢
  have hP : va_P D vwCl [(o, .inl (y 2, 1, .inr (.inl gf))), (h0, .inr (15, [w1, w2, w3, w4, w5, w6, w7, w8, w9, w10, w11, .ref sp, .ref ou, w12, w13])), (ou, .inr (4, [w14, w15, .int 0])), (sp, .inr (4, [.ref sr, w16, .int (nI 47)])), (sr, .inl (y 0, 1024, .inl f2))] H := hP
  have hD : va_D A [(o, .inl (y 2, 1, .inr (.inl gf))), (h0, .inr (15, [w1, w2, w3, w4, w5, w6, w7, w8, w9, w10, w11, .ref sp, .ref ou, w12, w13])), (ou, .inr (4, [w14, w15, .int 0])), (sp, .inr (4, [.ref sr, w16, .int (nI 47)])), (sr, .inl (y 0, 1024, .inl f2))] := hD
  have hw : r1 = nI 47 := hw
  subst hw
  refine lv_i2l (v := 47) hx hb dL_armor_7 (by decide +kernel) ?_
  refine va_last hx hb hK hP hD hS 0 2 rfl rfl (by unfold vp_in; decide) dL_armor_8 (fun H locs hP hD hS => ?_)
  have hP : va_P D vwCl [(o, .inl (y 2, 1, .inr (.inl (vp_updL gf (0 : Int32).toNatClampNeg 47)))), (h0, .inr (15, [w1, w2, w3, w4, w5, w6, w7, w8, w9, w10, w11, .ref sp, .ref ou, w12, w13])), (ou, .inr (4, [w14, w15, .int 0])), (sp, .inr (4, [.ref sr, w16, .int (nI 47)])), (sr, .inl (y 0, 1024, .inl f2))] H := hP
  have hD : va_D A [(o, .inl (y 2, 1, .inr (.inl (vp_updL gf (0 : Int32).toNatClampNeg 47)))), (h0, .inr (15, [w1, w2, w3, w4, w5, w6, w7, w8, w9, w10, w11, .ref sp, .ref ou, w12, w13])), (ou, .inr (4, [w14, w15, .int 0])), (sp, .inr (4, [.ref sr, w16, .int (nI 47)])), (sr, .inl (y 0, 1024, .inl f2))] := hD
  refine lv_goto (tgt := 18) hx hb dL_armor_9 (by decide) ?_
  refine lv_iconst (v := 0) hx hb dL_armor_18 (by decide) ?_
  have hP9 := hP.sub (ws' := [(h0, .inr (15, [w1, w2, w3, w4, w5, w6, w7, w8, w9, w10, w11, .ref sp, .ref ou, w12, w13])), (ou, .inr (4, [w14, w15, .int 0])), (sp, .inr (4, [.ref sr, w16, .int (nI 47)])), (sr, .inl (y 0, 1024, .inl f2)), (o, .inl (y 2, 1, .inr (.inl (vp_updL gf (0 : Int32).toNatClampNeg 47))))]) [1, 2, 3, 4, 0] rfl
  have hD9 := hD.sub (ws' := [(h0, .inr (15, [w1, w2, w3, w4, w5, w6, w7, w8, w9, w10, w11, .ref sp, .ref ou, w12, w13])), (ou, .inr (4, [w14, w15, .int 0])), (sp, .inr (4, [.ref sr, w16, .int (nI 47)])), (sr, .inl (y 0, 1024, .inl f2)), (o, .inl (y 2, 1, .inr (.inl (vp_updL gf (0 : Int32).toNatClampNeg 47))))]) [1, 2, 3, 4, 0] (by decide) rfl
  refine W.widen (k := 0) (n := 0) (Nat.le_of_ble_eq_true rfl) (Nat.le_of_ble_eq_true rfl) ?_
  exact W.iret (v := 0) hx hb hr (fun t ht hW => ⟨⟨0, (), rfl, rfl, f2, by rw [ht]; exact hP9, hD9⟩, hS.F ht⟩) hS.2.2 dL_armor_19
def wz_c_L_armor_2 : List Cond := .codeWith yL_armor cL_armor 4 (some .int) [(0, 9, 12, 13), (0, 9, 15, 42)] :: ([.methodLink RL 39 yX11_armor, .instanceMethod yX11_armor, .selects RX11 yX11_armor yX11_armor, .initialized RX11] ++ (wz_c_X11_armor_2 ++ ([])))
set_option maxRecDepth 100000 in
theorem gz_c_L_armor_2_c_X11_armor_2 : GoodIn wz_c_L_armor_2 wz_c_X11_armor_2 := goodIn_sub (fun w h => List.mem_cons_of_mem _ (List.mem_append_right _ (List.mem_append_left _ h))) (by decide +kernel)
set_option maxRecDepth 100000 in
theorem gv_c_L_armor_2_c_X11_armor_2_39 : GoodIn wz_c_L_armor_2 (wsV RL 39 RX11 yX11_armor wz_c_X11_armor_2) := goodIn_app (goodIn_of _ (by decide +kernel)) gz_c_L_armor_2_c_X11_armor_2
set_option maxHeartbeats 4000000 in
set_option maxRecDepth 100000 in
theorem c_L_armor_2 (l : Launch) (D : va_G) (y : Nat → ClassId) (sz : Nat) (h0 : Nat) (ou : Nat) (sp : Nat) (sr : Nat) (w1 : Value) (w2 : Value) (w3 : Value) (w4 : Value) (w5 : Value) (w6 : Value) (w7 : Value) (w8 : Value) (w9 : Value) (w10 : Value) (w11 : Value) (w12 : Value) (w13 : Value) (w14 : Value) (w15 : Value) (w16 : Value) (w17 : Value) (o : Nat) (g : Nat → Int32) (gf : Nat → Int64) (sa0 : Nat) (st0 : Nat) (sa3 : Nat) (st3 : Nat) (sa4 : Nat) (st4 : Nat) (sa5 : Nat) (st5 : Nat) : Met l yL_armor wz_c_L_armor_2 ({ frames := 7, cells := 0, slots := 0, locals := 152 }) (va_Pc [.ref h0, .int 2, .ref o] (zB D y [(h0, .inr (15, [w1, w2, w3, w4, w5, w6, w7, w8, w9, w10, w11, .ref ou, .ref sp, w12, w13])), (ou, .inr (4, [w14, w15, .int 0])), (sp, .inr (4, [.ref sr, w16, w17])), (sr, .inl (y 0, 1024, .inl g)), (o, .inl (y 2, 1, .inr (.inl gf)))] sz [] [("java/lang/String", "COMPACT_STRINGS", "Z", .int 1)] [] [.inr (.inl (sa0, st0, 11, zs0)), .inr (.inr (.inl (RX9, 82, "-----BEGIN ", sa0))), .inr (.inr (.inr (.inr ("jdk/internal/util/Preconditions", "SIOOBE_FORMATTER", "Ljava/util/function/BiFunction;")))), .inr (.inl (sa3, st3, 13, zs3)), .inr (.inr (.inl (RX9, 28, "SEALED LETTER", sa3))), .inr (.inl (sa4, st4, 5, zs4)), .inr (.inr (.inl (RX9, 80, "-----", sa4))), .inr (.inl (sa5, st5, 9, zs5)), .inr (.inr (.inl (RX9, 113, "-----END ", sa5)))])) (va_Qi (fun (r : Int32) (_ : Unit) => r = 0) (fun _ t => ∃ fz0 : Nat → Int32, va_P D vwCl [(h0, .inr (15, [w1, w2, w3, w4, w5, w6, w7, w8, w9, w10, w11, .ref sp, .ref ou, w12, w13])), (ou, .inr (4, [w14, w15, .int 0])), (sp, .inr (4, [.ref sr, w16, .int (nI 65)])), (sr, .inl (y 0, 1024, .inl fz0)), (o, .inl (y 2, 1, .inr (.inl (vp_updL gf (0 : Int32).toNatClampNeg 65))))] t.heap ∧ va_D (va_A [(h0, .inr (15, [w1, w2, w3, w4, w5, w6, w7, w8, w9, w10, w11, .ref ou, .ref sp, w12, w13])), (ou, .inr (4, [w14, w15, .int 0])), (sp, .inr (4, [.ref sr, w16, w17])), (sr, .inl (y 0, 1024, .inl g)), (o, .inl (y 2, 1, .inr (.inl gf)))] sz) [(h0, .inr (15, [w1, w2, w3, w4, w5, w6, w7, w8, w9, w10, w11, .ref sp, .ref ou, w12, w13])), (ou, .inr (4, [w14, w15, .int 0])), (sp, .inr (4, [.ref sr, w16, .int (nI 65)])), (sr, .inl (y 0, 1024, .inl fz0)), (o, .inl (y 2, 1, .inr (.inl (vp_updL gf (0 : Int32).toNatClampNeg 65))))]) (va_A [(h0, .inr (15, [w1, w2, w3, w4, w5, w6, w7, w8, w9, w10, w11, .ref ou, .ref sp, w12, w13])), (ou, .inr (4, [w14, w15, .int 0])), (sp, .inr (4, [.ref sr, w16, w17])), (sr, .inl (y 0, 1024, .inl g)), (o, .inl (y 2, 1, .inr (.inl gf)))] sz)) 0 0 (va_A [(h0, .inr (15, [w1, w2, w3, w4, w5, w6, w7, w8, w9, w10, w11, .ref ou, .ref sp, w12, w13])), (ou, .inr (4, [w14, w15, .int 0])), (sp, .inr (4, [.ref sr, w16, w17])), (sr, .inl (y 0, 1024, .inl g)), (o, .inl (y 2, 1, .inr (.inl gf)))] sz) := by
  refine zz_ofWH (hh := [(0, 9, 12, 13), (0, 9, 15, 42)]) (cc := cL_armor) (maxL := 4) (ret := (some .int)) (by decide) rfl ?_
  intro p e s m args below meth c s₁ B hml htab hv
  obtain ⟨rfl, hsz, hP, hK, hD0, hN, hE, hO, hT, hG⟩ := hv
  have hx := B.exec
  have hb := B.bytes
  have hr := B.returns
  have hts := atoms_spec (ws := wz_c_L_armor_2) B.pre
  have hown : s.vm.findClass RL = some m.cls := findClass_of_methodNamed B.named
  have hlocks := B.notSynchronized
  subst hsz
  have hD := hD0.self (sz := s.heap.size)
  generalize hAe : va_A [(h0, .inr (15, [w1, w2, w3, w4, w5, w6, w7, w8, w9, w10, w11, .ref ou, .ref sp, w12, w13])), (ou, .inr (4, [w14, w15, .int 0])), (sp, .inr (4, [.ref sr, w16, w17])), (sr, .inl (y 0, 1024, .inl g)), (o, .inl (y 2, 1, .inr (.inl gf)))] s.heap.size = A at hD hE hT hG ⊢
  have hA : ∀ q : Nat, s.heap.size ≤ q → A q := fun q h => by rw [← hAe]; exact Or.inr h
  have hS : va_S A s.heap s.heap [] := va_S.rf
  have hl := lv_entry ([.ref h0, .int 2, .ref o]) (n := 4) (Nat.le_of_ble_eq_true rfl)
  rw [lg_entry_eq]
  generalize (lg_sl ([.ref h0, .int 2, .ref o]) ++ List.replicate (4 - (lg_sl ([.ref h0, .int 2, .ref o])).length) Slot.unset).toArray = ls at hl ⊢
  have hl : lv_has ls 4 [(0, .ref h0), (1, .int 2), (2, .ref o)] := hl
  refine lv_aload_n hx hb dL_armor_0 rfl (lv_at hl 2 rfl) ?_
  refine lv_iconst (v := 0) hx hb dL_armor_1 (by decide) ?_
  refine lv_aload_n hx hb dL_armor_2 rfl (lv_at hl 0 rfl) ?_
  refine lv_iload_n hx hb dL_armor_3 rfl (lv_at hl 1 rfl) ?_
  have hPc := hP.sub (ws' := [(h0, .inr (15, [w1, w2, w3, w4, w5, w6, w7, w8, w9, w10, w11, .ref ou, .ref sp, w12, w13])), (ou, .inr (4, [w14, w15, .int 0])), (sp, .inr (4, [.ref sr, w16, w17])), (sr, .inl (y 0, 1024, .inl g))]) [0, 1, 2, 3] rfl
  have hDc := hD.sub (ws' := [(h0, .inr (15, [w1, w2, w3, w4, w5, w6, w7, w8, w9, w10, w11, .ref ou, .ref sp, w12, w13])), (ou, .inr (4, [w14, w15, .int 0])), (sp, .inr (4, [.ref sr, w16, w17])), (sr, .inl (y 0, 1024, .inl g))]) [0, 1, 2, 3] (by decide) rfl
  have hFc := va_free (wc := [(h0, .inr (15, [w1, w2, w3, w4, w5, w6, w7, w8, w9, w10, w11, .ref ou, .ref sp, w12, w13])), (ou, .inr (4, [w14, w15, .int 0])), (sp, .inr (4, [.ref sr, w16, w17])), (sr, .inl (y 0, 1024, .inl g))]) hD hS hA [0, 1, 2, 3] rfl
  refine va_calli (va_runV (As := [.int 2]) (rest := [.int 0, .ref o]) ⟨hx, hb, hml, hown, hts⟩ (c_X11_armor_2 l D y s.heap.size h0 ou sp sr w1 w2 w3 w4 w5 w6 w7 w8 w9 w10 w11 w12 w13 w14 w15 w16 w17 g sa0 st0 sa3 st3 sa4 st4 sa5 st5) (cwV 1 hts gv_c_L_armor_2_c_X11_armor_2_39 rfl rfl rfl (by decide +kernel) ⟨(Nat.le_of_ble_eq_true rfl), (Nat.le_of_ble_eq_true rfl)⟩) (zB.preV hPc hDc hK hN hE hO hT hG hS hFc (fun _ h => nomatch h) (List.forall_mem_cons.mpr ⟨List.mem_of_getElem? (i := 0) rfl, (fun _ h => nomatch h)⟩) (fun _ h => nomatch h) (List.forall_mem_cons.mpr ⟨List.mem_of_getElem? (i := 0) rfl, (List.forall_mem_cons.mpr ⟨List.mem_of_getElem? (i := 1) rfl, (List.forall_mem_cons.mpr ⟨List.mem_of_getElem? (i := 2) rfl, (List.forall_mem_cons.mpr ⟨List.mem_of_getElem? (i := 3) rfl, (List.forall_mem_cons.mpr ⟨List.mem_of_getElem? (i := 4) rfl, (List.forall_mem_cons.mpr ⟨List.mem_of_getElem? (i := 5) rfl, (List.forall_mem_cons.mpr ⟨List.mem_of_getElem? (i := 6) rfl, (List.forall_mem_cons.mpr ⟨List.mem_of_getElem? (i := 7) rfl, (List.forall_mem_cons.mpr ⟨List.mem_of_getElem? (i := 8) rfl, (fun _ h => nomatch h)⟩)⟩)⟩)⟩)⟩)⟩)⟩)⟩)⟩) (va_recv hK hPc (ci := 15) (q0 := 0) rfl rfl)) rfl rfl hl.1 rfl (lv_room (Nat.le_of_ble_eq_true rfl)) dL_armor_4 ⟨(Nat.le_of_ble_eq_true rfl), (Nat.le_of_ble_eq_true rfl)⟩) hS (fun q _ h => hFc q h) hFc (fun r1 u t H1 locs ht hvm hw hB hz1 hk1 hS => ?_)
  obtain ⟨f2, hP1, hD1⟩ := hB
  rw [ht] at hP1
  obtain ⟨hP, hD⟩ := va_join (wr := [(o, .inl (y 2, 1, .inr (.inl gf)))]) (w1 := [(h0, .inr (15, [w1, w2, w3, w4, w5, w6, w7, w8, w9, w10, w11, .ref sp, .ref ou, w12, w13])), (ou, .inr (4, [w14, w15, .int 0])), (sp, .inr (4, [.ref sr, w16, .int (nI 65)])), (sr, .inl (y 0, 1024, .inl f2))]) hP hD [0, 1, 2, 3] [4] rfl rfl (by decide) (by decide) hk1 hFc hP1 hD1
  generalize H1 = H at hP hS ⊢
  have hP : va_P D vwCl [(o, .inl (y 2, 1, .inr (.inl gf))), (h0, .inr (15, [w1, w2, w3, w4, w5, w6, w7, w8, w9, w10, w11, .ref sp, .ref ou, w12, w13])), (ou, .inr (4, [w14, w15, .int 0])), (sp, .inr (4, [.ref sr, w16, .int (nI 65)])), (sr, .inl (y 0, 1024, .inl f2))] H := hP
  have hD : va_D A [(o, .inl (y 2, 1, .inr (.inl gf))), (h0, .inr (15, [w1, w2, w3, w4, w5, w6, w7, w8, w9, w10, w11, .ref sp, .ref ou, w12, w13])), (ou, .inr (4, [w14, w15, .int 0])), (sp, .inr (4, [.ref sr, w16, .int (nI 65)])), (sr, .inl (y 0, 1024, .inl f2))] := hD
  have hw : r1 = nI 65 := hw
  subst hw
  refine lv_i2l (v := 65) hx hb dL_armor_7 (by decide +kernel) ?_
  refine va_last hx hb hK hP hD hS 0 2 rfl rfl (by unfold vp_in; decide) dL_armor_8 (fun H locs hP hD hS => ?_)
  have hP : va_P D vwCl [(o, .inl (y 2, 1, .inr (.inl (vp_updL gf (0 : Int32).toNatClampNeg 65)))), (h0, .inr (15, [w1, w2, w3, w4, w5, w6, w7, w8, w9, w10, w11, .ref sp, .ref ou, w12, w13])), (ou, .inr (4, [w14, w15, .int 0])), (sp, .inr (4, [.ref sr, w16, .int (nI 65)])), (sr, .inl (y 0, 1024, .inl f2))] H := hP
  have hD : va_D A [(o, .inl (y 2, 1, .inr (.inl (vp_updL gf (0 : Int32).toNatClampNeg 65)))), (h0, .inr (15, [w1, w2, w3, w4, w5, w6, w7, w8, w9, w10, w11, .ref sp, .ref ou, w12, w13])), (ou, .inr (4, [w14, w15, .int 0])), (sp, .inr (4, [.ref sr, w16, .int (nI 65)])), (sr, .inl (y 0, 1024, .inl f2))] := hD
  refine lv_goto (tgt := 18) hx hb dL_armor_9 (by decide) ?_
  refine lv_iconst (v := 0) hx hb dL_armor_18 (by decide) ?_
  have hP9 := hP.sub (ws' := [(h0, .inr (15, [w1, w2, w3, w4, w5, w6, w7, w8, w9, w10, w11, .ref sp, .ref ou, w12, w13])), (ou, .inr (4, [w14, w15, .int 0])), (sp, .inr (4, [.ref sr, w16, .int (nI 65)])), (sr, .inl (y 0, 1024, .inl f2)), (o, .inl (y 2, 1, .inr (.inl (vp_updL gf (0 : Int32).toNatClampNeg 65))))]) [1, 2, 3, 4, 0] rfl
  have hD9 := hD.sub (ws' := [(h0, .inr (15, [w1, w2, w3, w4, w5, w6, w7, w8, w9, w10, w11, .ref sp, .ref ou, w12, w13])), (ou, .inr (4, [w14, w15, .int 0])), (sp, .inr (4, [.ref sr, w16, .int (nI 65)])), (sr, .inl (y 0, 1024, .inl f2)), (o, .inl (y 2, 1, .inr (.inl (vp_updL gf (0 : Int32).toNatClampNeg 65))))]) [1, 2, 3, 4, 0] (by decide) rfl
  refine W.widen (k := 0) (n := 0) (Nat.le_of_ble_eq_true rfl) (Nat.le_of_ble_eq_true rfl) ?_
  exact W.iret (v := 0) hx hb hr (fun t ht hW => ⟨⟨0, (), rfl, rfl, f2, by rw [ht]; exact hP9, hD9⟩, hS.F ht⟩) hS.2.2 dL_armor_19
def wz_c_L_armor_lo : List Cond := .codeWith yL_armor cL_armor 4 (some .int) [(0, 9, 12, 13), (0, 9, 15, 42)] :: ([.methodLink RL 39 yX11_armor, .instanceMethod yX11_armor, .selects RX11 yX11_armor yX11_armor, .initialized RX11, .classLink RL 13 "java/lang/IllegalArgumentException"] ++ (wz_c_X11_armor_lo ++ ([])))
set_option maxRecDepth 100000 in
theorem gz_c_L_armor_lo_c_X11_armor_lo : GoodIn wz_c_L_armor_lo wz_c_X11_armor_lo := goodIn_sub (fun w h => List.mem_cons_of_mem _ (List.mem_append_right _ (List.mem_append_left _ h))) (by decide +kernel)
set_option maxRecDepth 100000 in
theorem gv_c_L_armor_lo_c_X11_armor_lo_39 : GoodIn wz_c_L_armor_lo (wsV RL 39 RX11 yX11_armor wz_c_X11_armor_lo) := goodIn_app (goodIn_of _ (by decide +kernel)) gz_c_L_armor_lo_c_X11_armor_lo
set_option maxHeartbeats 4000000 in
set_option maxRecDepth 100000 in
theorem c_L_armor_lo (l : Launch) (hl0 : l.stackTraces = false) (D : va_G) (y : Nat → ClassId) (sz : Nat) (h0 : Nat) (w1 : Value) (w2 : Value) (w3 : Value) (w4 : Value) (w5 : Value) (w6 : Value) (w7 : Value) (w8 : Value) (w9 : Value) (w10 : Value) (w11 : Value) (w12 : Value) (w13 : Value) (w14 : Value) (w15 : Value) (o : Nat) (gf : Nat → Int64) (n : Int32) (h1 : n < 0) : Met l yL_armor wz_c_L_armor_lo ({ frames := 7, cells := 1, slots := 6, locals := 103 }) (va_Pc [.ref h0, .int n, .ref o] (zB D y [(h0, .inr (15, [w1, w2, w3, w4, w5, w6, w7, w8, w9, w10, w11, w12, w13, w14, w15])), (o, .inl (y 2, 1, .inr (.inl gf)))] sz [.declares (Bundle.init0 "java/lang/RuntimeException"), .declares (Bundle.init0 "java/lang/Exception"), .declares (Bundle.init0 "java/lang/Throwable"), .castable "java/lang/IllegalArgumentException" "java/lang/IllegalArgumentException"] [] zTh [])) (va_Qi (fun (r : Int32) (_ : Unit) => r = 1) (fun _ t => va_P D vwCl [(o, .inl (y 2, 1, .inr (.inl gf)))] t.heap ∧ va_D (va_A [(h0, .inr (15, [w1, w2, w3, w4, w5, w6, w7, w8, w9, w10, w11, w12, w13, w14, w15])), (o, .inl (y 2, 1, .inr (.inl gf)))] sz) [(o, .inl (y 2, 1, .inr (.inl gf)))]) (va_A [(h0, .inr (15, [w1, w2, w3, w4, w5, w6, w7, w8, w9, w10, w11, w12, w13, w14, w15])), (o, .inl (y 2, 1, .inr (.inl gf)))] sz)) 1 6 (va_A [(h0, .inr (15, [w1, w2, w3, w4, w5, w6, w7, w8, w9, w10, w11, w12, w13, w14, w15])), (o, .inl (y 2, 1, .inr (.inl gf)))] sz) := by
  refine zz_ofWH (hh := [(0, 9, 12, 13), (0, 9, 15, 42)]) (cc := cL_armor) (maxL := 4) (ret := (some .int)) (by decide) rfl ?_
  intro p e s m args below meth c s₁ B hml htab hv
  obtain ⟨rfl, hsz, hP, hK, hD0, hN, hE, hO, hT, hG⟩ := hv
  have hx := B.exec
  have hb := B.bytes
  have hr := B.returns
  have hts := atoms_spec (ws := wz_c_L_armor_lo) B.pre
  have hown : s.vm.findClass RL = some m.cls := findClass_of_methodNamed B.named
  have hlocks := B.notSynchronized
  subst hsz
  have hD := hD0.self (sz := s.heap.size)
  generalize hAe : va_A [(h0, .inr (15, [w1, w2, w3, w4, w5, w6, w7, w8, w9, w10, w11, w12, w13, w14, w15])), (o, .inl (y 2, 1, .inr (.inl gf)))] s.heap.size = A at hD hE hT hG ⊢
  have hA : ∀ q : Nat, s.heap.size ≤ q → A q := fun q h => by rw [← hAe]; exact Or.inr h
  have hS : va_S A s.heap s.heap [] := va_S.rf
  have hl := lv_entry ([.ref h0, .int n, .ref o]) (n := 4) (Nat.le_of_ble_eq_true rfl)
  rw [lg_entry_eq]
  generalize (lg_sl ([.ref h0, .int n, .ref o]) ++ List.replicate (4 - (lg_sl ([.ref h0, .int n, .ref o])).length) Slot.unset).toArray = ls at hl ⊢
  have hl : lv_has ls 4 [(0, .ref h0), (1, .int n), (2, .ref o)] := hl
  refine lv_aload_n hx hb dL_armor_0 rfl (lv_at hl 2 rfl) ?_
  refine lv_iconst (v := 0) hx hb dL_armor_1 (by decide) ?_
  refine lv_aload_n hx hb dL_armor_2 rfl (lv_at hl 0 rfl) ?_
  refine lv_iload_n hx hb dL_armor_3 rfl (lv_at hl 1 rfl) ?_
  have hPc := hP.sub (ws' := [(h0, .inr (15, [w1, w2, w3, w4, w5, w6, w7, w8, w9, w10, w11, w12, w13, w14, w15]))]) [0] rfl
  have hDc := hD.sub (ws' := [(h0, .inr (15, [w1, w2, w3, w4, w5, w6, w7, w8, w9, w10, w11, w12, w13, w14, w15]))]) [0] (by decide) rfl
  have hFc := va_free (wc := [(h0, .inr (15, [w1, w2, w3, w4, w5, w6, w7, w8, w9, w10, w11, w12, w13, w14, w15]))]) hD hS hA [0] rfl
  refine vx_calli (vx_runV (As := [.int n]) (rest := [.int 0, .ref o]) ⟨hx, hb, hml, hown, hts⟩ (c_X11_armor_lo l hl0 D y s.heap.size h0 w1 w2 w3 w4 w5 w6 w7 w8 w9 w10 w11 w12 w13 w14 w15 n h1) (cwV 1 hts gv_c_L_armor_lo_c_X11_armor_lo_39 rfl rfl rfl (by decide +kernel) ⟨(Nat.le_of_ble_eq_true rfl), (Nat.le_of_ble_eq_true rfl)⟩) (zB.preV hPc hDc hK hN hE hO hT hG hS hFc (List.forall_mem_cons.mpr ⟨List.mem_of_getElem? (i := 0) rfl, (List.forall_mem_cons.mpr ⟨List.mem_of_getElem? (i := 1) rfl, (List.forall_mem_cons.mpr ⟨List.mem_of_getElem? (i := 2) rfl, (List.forall_mem_cons.mpr ⟨List.mem_of_getElem? (i := 3) rfl, (fun _ h => nomatch h)⟩)⟩)⟩)⟩) (fun _ h => nomatch h) (fun _ h => h) (fun _ h => nomatch h) (va_recv hK hPc (ci := 15) (q0 := 0) rfl rfl)) rfl rfl hl.1 rfl (lv_room (Nat.le_of_ble_eq_true rfl)) dL_armor_4 ⟨(Nat.le_of_ble_eq_true rfl), (Nat.le_of_ble_eq_true rfl)⟩) hS (fun q _ h => hFc q h) hFc (fun q _ h => hFc q h) (fun E ce q9 u t H1 locs ht hvm _ hBX hz1 hk1 hS hce hcv hcl => ?_) (fun r u t H1 locs ht hvm hw hB hz1 hk1 hS => hw.elim)
  have hBX : E = "java/lang/IllegalArgumentException" := hBX
  subst hBX
  obtain ⟨hP, hD⟩ := va_join (wr := [(o, .inl (y 2, 1, .inr (.inl gf)))]) (w1 := []) hP hD [0] [1] rfl rfl (by decide) (by decide) hk1 hFc (fun k q h => by simp at h) ⟨fun i j p q h => by simp at h, fun k q h => by simp at h⟩
  generalize H1 = H at hP hS hce ⊢
  have hP : va_P D vwCl [(o, .inl (y 2, 1, .inr (.inl gf)))] H := hP
  have hD : va_D A [(o, .inl (y 2, 1, .inr (.inl gf)))] := hD
  refine vx_catch hown [] ⟨0, 9, 12, 13⟩ [⟨0, 9, 15, 42⟩] htab (fun z h => nomatch h) (by decide) (by decide) (hts (.classLink RL 13 "java/lang/IllegalArgumentException") (by decide +kernel)) (va_Nw.use rfl (hN (.castable "java/lang/IllegalArgumentException" "java/lang/IllegalArgumentException") (List.mem_of_getElem? (i := 3) rfl)).2) hce hcv hcl ?_
  refine W.eq (g2 := F0 m 12 ls [.ref q9]) rfl ?_
  refine lv_astore_n (lv' := [(3, .ref q9), (0, .ref h0), (1, .int n), (2, .ref o)]) hx hb dL_armor_12 rfl hl (by decide) rfl (fun ls hl => ?_)
  refine lv_iconst (v := 1) hx hb dL_armor_13 (by decide) ?_
  have hP9 := hP.sub (ws' := [(o, .inl (y 2, 1, .inr (.inl gf)))]) [0] rfl
  have hD9 := hD.sub (ws' := [(o, .inl (y 2, 1, .inr (.inl gf)))]) [0] (by decide) rfl
  refine W.widen (k := 1) (n := 6) (Nat.le_of_ble_eq_true rfl) (Nat.le_of_ble_eq_true rfl) ?_
  exact W.iret (v := 1) hx hb hr (fun t ht hW => ⟨⟨1, (), rfl, rfl, by rw [ht]; exact hP9, hD9⟩, hS.F ht⟩) hS.2.2 dL_armor_14
def wz_c_L_armor_hi : List Cond := .codeWith yL_armor cL_armor 4 (some .int) [(0, 9, 12, 13), (0, 9, 15, 42)] :: ([.methodLink RL 39 yX11_armor, .instanceMethod yX11_armor, .selects RX11 yX11_armor yX11_armor, .initialized RX11, .classLink RL 13 "java/lang/IllegalArgumentException"] ++ (wz_c_X11_armor_hi ++ ([])))
set_option maxRecDepth 100000 in
theorem gz_c_L_armor_hi_c_X11_armor_hi : GoodIn wz_c_L_armor_hi wz_c_X11_armor_hi := goodIn_sub (fun w h => List.mem_cons_of_mem _ (List.mem_append_right _ (List.mem_append_left _ h))) (by decide +kernel)
set_option maxRecDepth 100000 in
theorem gv_c_L_armor_hi_c_X11_armor_hi_39 : GoodIn wz_c_L_armor_hi (wsV RL 39 RX11 yX11_armor wz_c_X11_armor_hi) := goodIn_app (goodIn_of _ (by decide +kernel)) gz_c_L_armor_hi_c_X11_armor_hi
set_option maxHeartbeats 4000000 in
set_option maxRecDepth 100000 in
theorem c_L_armor_hi (l : Launch) (hl0 : l.stackTraces = false) (D : va_G) (y : Nat → ClassId) (sz : Nat) (h0 : Nat) (w1 : Value) (w2 : Value) (w3 : Value) (w4 : Value) (w5 : Value) (w6 : Value) (w7 : Value) (w8 : Value) (w9 : Value) (w10 : Value) (w11 : Value) (w12 : Value) (w13 : Value) (w14 : Value) (w15 : Value) (o : Nat) (gf : Nat → Int64) (n : Int32) (h1 : ¬ n < 0) (h2 : ¬ n ≤ 2) : Met l yL_armor wz_c_L_armor_hi ({ frames := 7, cells := 1, slots := 6, locals := 103 }) (va_Pc [.ref h0, .int n, .ref o] (zB D y [(h0, .inr (15, [w1, w2, w3, w4, w5, w6, w7, w8, w9, w10, w11, w12, w13, w14, w15])), (o, .inl (y 2, 1, .inr (.inl gf)))] sz [.declares (Bundle.init0 "java/lang/RuntimeException"), .declares (Bundle.init0 "java/lang/Exception"), .declares (Bundle.init0 "java/lang/Throwable"), .castable "java/lang/IllegalArgumentException" "java/lang/IllegalArgumentException"] [] zTh [])) (va_Qi (fun (r : Int32) (_ : Unit) => r = 1) (fun _ t => va_P D vwCl [(o, .inl (y 2, 1, .inr (.inl gf)))] t.heap ∧ va_D (va_A [(h0, .inr (15, [w1, w2, w3, w4, w5, w6, w7, w8, w9, w10, w11, w12, w13, w14, w15])), (o, .inl (y 2, 1, .inr (.inl gf)))] sz) [(o, .inl (y 2, 1, .inr (.inl gf)))]) (va_A [(h0, .inr (15, [w1, w2, w3, w4, w5, w6, w7, w8, w9, w10, w11, w12, w13, w14, w15])), (o, .inl (y 2, 1, .inr (.inl gf)))] sz)) 1 6 (va_A [(h0, .inr (15, [w1, w2, w3, w4, w5, w6, w7, w8, w9, w10, w11, w12, w13, w14, w15])), (o, .inl (y 2, 1, .inr (.inl gf)))] sz) := by
  refine zz_ofWH (hh := [(0, 9, 12, 13), (0, 9, 15, 42)]) (cc := cL_armor) (maxL := 4) (ret := (some .int)) (by decide) rfl ?_
  intro p e s m args below meth c s₁ B hml htab hv
  obtain ⟨rfl, hsz, hP, hK, hD0, hN, hE, hO, hT, hG⟩ := hv
  have hx := B.exec
  have hb := B.bytes
  have hr := B.returns
  have hts := atoms_spec (ws := wz_c_L_armor_hi) B.pre
  have hown : s.vm.findClass RL = some m.cls := findClass_of_methodNamed B.named
  have hlocks := B.notSynchronized
  subst hsz
  have hD := hD0.self (sz := s.heap.size)
  generalize hAe : va_A [(h0, .inr (15, [w1, w2, w3, w4, w5, w6, w7, w8, w9, w10, w11, w12, w13, w14, w15])), (o, .inl (y 2, 1, .inr (.inl gf)))] s.heap.size = A at hD hE hT hG ⊢
  have hA : ∀ q : Nat, s.heap.size ≤ q → A q := fun q h => by rw [← hAe]; exact Or.inr h
  have hS : va_S A s.heap s.heap [] := va_S.rf
  have hl := lv_entry ([.ref h0, .int n, .ref o]) (n := 4) (Nat.le_of_ble_eq_true rfl)
  rw [lg_entry_eq]
  generalize (lg_sl ([.ref h0, .int n, .ref o]) ++ List.replicate (4 - (lg_sl ([.ref h0, .int n, .ref o])).length) Slot.unset).toArray = ls at hl ⊢
  have hl : lv_has ls 4 [(0, .ref h0), (1, .int n), (2, .ref o)] := hl
  refine lv_aload_n hx hb dL_armor_0 rfl (lv_at hl 2 rfl) ?_
  refine lv_iconst (v := 0) hx hb dL_armor_1 (by decide) ?_
  refine lv_aload_n hx hb dL_armor_2 rfl (lv_at hl 0 rfl) ?_
  refine lv_iload_n hx hb dL_armor_3 rfl (lv_at hl 1 rfl) ?_
  have hPc := hP.sub (ws' := [(h0, .inr (15, [w1, w2, w3, w4, w5, w6, w7, w8, w9, w10, w11, w12, w13, w14, w15]))]) [0] rfl
  have hDc := hD.sub (ws' := [(h0, .inr (15, [w1, w2, w3, w4, w5, w6, w7, w8, w9, w10, w11, w12, w13, w14, w15]))]) [0] (by decide) rfl
  have hFc := va_free (wc := [(h0, .inr (15, [w1, w2, w3, w4, w5, w6, w7, w8, w9, w10, w11, w12, w13, w14, w15]))]) hD hS hA [0] rfl
  refine vx_calli (vx_runV (As := [.int n]) (rest := [.int 0, .ref o]) ⟨hx, hb, hml, hown, hts⟩ (c_X11_armor_hi l hl0 D y s.heap.size h0 w1 w2 w3 w4 w5 w6 w7 w8 w9 w10 w11 w12 w13 w14 w15 n h1 h2) (cwV 1 hts gv_c_L_armor_hi_c_X11_armor_hi_39 rfl rfl rfl (by decide +kernel) ⟨(Nat.le_of_ble_eq_true rfl), (Nat.le_of_ble_eq_true rfl)⟩) (zB.preV hPc hDc hK hN hE hO hT hG hS hFc (List.forall_mem_cons.mpr ⟨List.mem_of_getElem? (i := 0) rfl, (List.forall_mem_cons.mpr ⟨List.mem_of_getElem? (i := 1) rfl, (List.forall_mem_cons.mpr ⟨List.mem_of_getElem? (i := 2) rfl, (List.forall_mem_cons.mpr ⟨List.mem_of_getElem? (i := 3) rfl, (fun _ h => nomatch h)⟩)⟩)⟩)⟩) (fun _ h => nomatch h) (fun _ h => h) (fun _ h => nomatch h) (va_recv hK hPc (ci := 15) (q0 := 0) rfl rfl)) rfl rfl hl.1 rfl (lv_room (Nat.le_of_ble_eq_true rfl)) dL_armor_4 ⟨(Nat.le_of_ble_eq_true rfl), (Nat.le_of_ble_eq_true rfl)⟩) hS (fun q _ h => hFc q h) hFc (fun q _ h => hFc q h) (fun E ce q9 u t H1 locs ht hvm _ hBX hz1 hk1 hS hce hcv hcl => ?_) (fun r u t H1 locs ht hvm hw hB hz1 hk1 hS => hw.elim)
  have hBX : E = "java/lang/IllegalArgumentException" := hBX
  subst hBX
  obtain ⟨hP, hD⟩ := va_join (wr := [(o, .inl (y 2, 1, .inr (.inl gf)))]) (w1 := []) hP hD [0] [1] rfl rfl (by decide) (by decide) hk1 hFc (fun k q h => by simp at h) ⟨fun i j p q h => by simp at h, fun k q h => by simp at h⟩
  generalize H1 = H at hP hS hce ⊢
  have hP : va_P D vwCl [(o, .inl (y 2, 1, .inr (.inl gf)))] H := hP
  have hD : va_D A [(o, .inl (y 2, 1, .inr (.inl gf)))] := hD
  refine vx_catch hown [] ⟨0, 9, 12, 13⟩ [⟨0, 9, 15, 42⟩] htab (fun z h => nomatch h) (by decide) (by decide) (hts (.classLink RL 13 "java/lang/IllegalArgumentException") (by decide +kernel)) (va_Nw.use rfl (hN (.castable "java/lang/IllegalArgumentException" "java/lang/IllegalArgumentException") (List.mem_of_getElem? (i := 3) rfl)).2) hce hcv hcl ?_
  refine W.eq (g2 := F0 m 12 ls [.ref q9]) rfl ?_
  refine lv_astore_n (lv' := [(3, .ref q9), (0, .ref h0), (1, .int n), (2, .ref o)]) hx hb dL_armor_12 rfl hl (by decide) rfl (fun ls hl => ?_)
  refine lv_iconst (v := 1) hx hb dL_armor_13 (by decide) ?_
  have hP9 := hP.sub (ws' := [(o, .inl (y 2, 1, .inr (.inl gf)))]) [0] rfl
  have hD9 := hD.sub (ws' := [(o, .inl (y 2, 1, .inr (.inl gf)))]) [0] (by decide) rfl
  refine W.widen (k := 1) (n := 6) (Nat.le_of_ble_eq_true rfl) (Nat.le_of_ble_eq_true rfl) ?_
  exact W.iret (v := 1) hx hb hr (fun t ht hW => ⟨⟨1, (), rfl, rfl, by rw [ht]; exact hP9, hD9⟩, hS.F ht⟩) hS.2.2 dL_armor_14

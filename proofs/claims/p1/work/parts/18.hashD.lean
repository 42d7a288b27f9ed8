def wz_c_X1_make_1 : List Cond := .code yX1_make cX1_make 6 none :: ([.fieldLink RX1 18 "SignetRing$Digest" "second" "Z", .fieldLink RX1 9 "SignetRing$Digest" "state" "[I", .fieldLink RX1 25 "SignetRing$Digest" "START_FIRST" "[I", .fieldLink RX1 28 "SignetRing$Span" "size" "I", .fieldLink RX1 15 "SignetRing$Digest" "words" "[I", .methodLink RX1 34 yX1_wordOf, .static yX1_wordOf, .initialized RX1, .methodLink RX1 41 yX1_mixFirst, .instanceMethod yX1_mixFirst, .selects RX1 yX1_mixFirst yX1_mixFirst] ++ (wsX10 ++ (wsX00 ++ (wz_c_X1_wordOf_0 ++ (wz_c_X1_wordOf_4 ++ (wz_c_X1_wordOf_8 ++ (wz_c_X1_wordOf_12 ++ (wz_c_X1_wordOf_16 ++ (wz_c_X1_wordOf_20 ++ (wz_c_X1_wordOf_24 ++ (wz_c_X1_wordOf_28 ++ (wz_c_X1_wordOf_32 ++ (wz_c_X1_wordOf_36 ++ (wz_c_X1_wordOf_40 ++ (wz_c_X1_wordOf_44 ++ (wz_c_X1_wordOf_48 ++ (wz_c_X1_wordOf_52 ++ (wz_c_X1_wordOf_56 ++ (wz_c_X1_wordOf_60 ++ (wz_c_X1_mixFirst ++ ([])))))))))))))))))))))
set_option maxRecDepth 100000 in
theorem gz_c_X1_make_1_c_X1_wordOf_0 : GoodIn wz_c_X1_make_1 wz_c_X1_wordOf_0 := goodIn_sub (fun w h => List.mem_cons_of_mem _ (List.mem_append_right _ (List.mem_append_right _ (List.mem_append_right _ (List.mem_append_left _ h))))) (by decide +kernel)
set_option maxRecDepth 100000 in
theorem gz_c_X1_make_1_c_X1_wordOf_4 : GoodIn wz_c_X1_make_1 wz_c_X1_wordOf_4 := goodIn_sub (fun w h => List.mem_cons_of_mem _ (List.mem_append_right _ (List.mem_append_right _ (List.mem_append_right _ (List.mem_append_right _ (List.mem_append_left _ h)))))) (by decide +kernel)
set_option maxRecDepth 100000 in
theorem gz_c_X1_make_1_c_X1_wordOf_8 : GoodIn wz_c_X1_make_1 wz_c_X1_wordOf_8 := goodIn_sub (fun w h => List.mem_cons_of_mem _ (List.mem_append_right _ (List.mem_append_right _ (List.mem_append_right _ (List.mem_append_right _ (List.mem_append_right _ (List.mem_append_left _ h))))))) (by decide +kernel)
set_option maxRecDepth 100000 in
theorem gz_c_X1_make_1_c_X1_wordOf_12 : GoodIn wz_c_X1_make_1 wz_c_X1_wordOf_12 := goodIn_sub (fun w h => List.mem_cons_of_mem _ (List.mem_append_right _ (List.mem_append_right _ (List.mem_append_right _ (List.mem_append_right _ (List.mem_append_right _ (List.mem_append_right _ (List.mem_append_left _ h)))))))) (by decide +kernel)
set_option maxRecDepth 100000 in
theorem gz_c_X1_make_1_c_X1_wordOf_16 : GoodIn wz_c_X1_make_1 wz_c_X1_wordOf_16 := goodIn_sub (fun w h => List.mem_cons_of_mem _ (List.mem_append_right _ (List.mem_append_right _ (List.mem_append_right _ (List.mem_append_right _ (List.mem_append_right _ (List.mem_append_right _ (List.mem_append_right _ (List.mem_append_left _ h))))))))) (by decide +kernel)
set_option maxRecDepth 100000 in
theorem gz_c_X1_make_1_c_X1_wordOf_20 : GoodIn wz_c_X1_make_1 wz_c_X1_wordOf_20 := goodIn_sub (fun w h => List.mem_cons_of_mem _ (List.mem_append_right _ (List.mem_append_right _ (List.mem_append_right _ (List.mem_append_right _ (List.mem_append_right _ (List.mem_append_right _ (List.mem_append_right _ (List.mem_append_right _ (List.mem_append_left _ h)))))))))) (by decide +kernel)
set_option maxRecDepth 100000 in
theorem gz_c_X1_make_1_c_X1_wordOf_24 : GoodIn wz_c_X1_make_1 wz_c_X1_wordOf_24 := goodIn_sub (fun w h => List.mem_cons_of_mem _ (List.mem_append_right _ (List.mem_append_right _ (List.mem_append_right _ (List.mem_append_right _ (List.mem_append_right _ (List.mem_append_right _ (List.mem_append_right _ (List.mem_append_right _ (List.mem_append_right _ (List.mem_append_left _ h))))))))))) (by decide +kernel)
set_option maxRecDepth 100000 in
theorem gz_c_X1_make_1_c_X1_wordOf_28 : GoodIn wz_c_X1_make_1 wz_c_X1_wordOf_28 := goodIn_sub (fun w h => List.mem_cons_of_mem _ (List.mem_append_right _ (List.mem_append_right _ (List.mem_append_right _ (List.mem_append_right _ (List.mem_append_right _ (List.mem_append_right _ (List.mem_append_right _ (List.mem_append_right _ (List.mem_append_right _ (List.mem_append_right _ (List.mem_append_left _ h)))))))))))) (by decide +kernel)
set_option maxRecDepth 100000 in
theorem gz_c_X1_make_1_c_X1_wordOf_32 : GoodIn wz_c_X1_make_1 wz_c_X1_wordOf_32 := goodIn_sub (fun w h => List.mem_cons_of_mem _ (List.mem_append_right _ (List.mem_append_right _ (List.mem_append_right _ (List.mem_append_right _ (List.mem_append_right _ (List.mem_append_right _ (List.mem_append_right _ (List.mem_append_right _ (List.mem_append_right _ (List.mem_append_right _ (List.mem_append_right _ (List.mem_append_left _ h))))))))))))) (by decide +kernel)
set_option maxRecDepth 100000 in
theorem gz_c_X1_make_1_c_X1_wordOf_36 : GoodIn wz_c_X1_make_1 wz_c_X1_wordOf_36 := goodIn_sub (fun w h => List.mem_cons_of_mem _ (List.mem_append_right _ (List.mem_append_right _ (List.mem_append_right _ (List.mem_append_right _ (List.mem_append_right _ (List.mem_append_right _ (List.mem_append_right _ (List.mem_append_right _ (List.mem_append_right _ (List.mem_append_right _ (List.mem_append_right _ (List.mem_append_right _ (List.mem_append_left _ h)))))))))))))) (by decide +kernel)
set_option maxRecDepth 100000 in
theorem gz_c_X1_make_1_c_X1_wordOf_40 : GoodIn wz_c_X1_make_1 wz_c_X1_wordOf_40 := goodIn_sub (fun w h => List.mem_cons_of_mem _ (List.mem_append_right _ (List.mem_append_right _ (List.mem_append_right _ (List.mem_append_right _ (List.mem_append_right _ (List.mem_append_right _ (List.mem_append_right _ (List.mem_append_right _ (List.mem_append_right _ (List.mem_append_right _ (List.mem_append_right _ (List.mem_append_right _ (List.mem_append_right _ (List.mem_append_left _ h))))))))))))))) (by decide +kernel)
set_option maxRecDepth 100000 in
theorem gz_c_X1_make_1_c_X1_wordOf_44 : GoodIn wz_c_X1_make_1 wz_c_X1_wordOf_44 := goodIn_sub (fun w h => List.mem_cons_of_mem _ (List.mem_append_right _ (List.mem_append_right _ (List.mem_append_right _ (List.mem_append_right _ (List.mem_append_right _ (List.mem_append_right _ (List.mem_append_right _ (List.mem_append_right _ (List.mem_append_right _ (List.mem_append_right _ (List.mem_append_right _ (List.mem_append_right _ (List.mem_append_right _ (List.mem_append_right _ (List.mem_append_left _ h)))))))))))))))) (by decide +kernel)
set_option maxRecDepth 100000 in
theorem gz_c_X1_make_1_c_X1_wordOf_48 : GoodIn wz_c_X1_make_1 wz_c_X1_wordOf_48 := goodIn_sub (fun w h => List.mem_cons_of_mem _ (List.mem_append_right _ (List.mem_append_right _ (List.mem_append_right _ (List.mem_append_right _ (List.mem_append_right _ (List.mem_append_right _ (List.mem_append_right _ (List.mem_append_right _ (List.mem_append_right _ (List.mem_append_right _ (List.mem_append_right _ (List.mem_append_right _ (List.mem_append_right _ (List.mem_append_right _ (List.mem_append_right _ (List.mem_append_left _ h))))))))))))))))) (by decide +kernel)
set_option maxRecDepth 100000 in
theorem gz_c_X1_make_1_c_X1_wordOf_52 : GoodIn wz_c_X1_make_1 wz_c_X1_wordOf_52 := goodIn_sub (fun w h => List.mem_cons_of_mem _ (List.mem_append_right _ (List.mem_append_right _ (List.mem_append_right _ (List.mem_append_right _ (List.mem_append_right _ (List.mem_append_right _ (List.mem_append_right _ (List.mem_append_right _ (List.mem_append_right _ (List.mem_append_right _ (List.mem_append_right _ (List.mem_append_right _ (List.mem_append_right _ (List.mem_append_right _ (List.mem_append_right _ (List.mem_append_right _ (List.mem_append_left _ h)))))))))))))))))) (by decide +kernel)
set_option maxRecDepth 100000 in
theorem gz_c_X1_make_1_c_X1_wordOf_56 : GoodIn wz_c_X1_make_1 wz_c_X1_wordOf_56 := goodIn_sub (fun w h => List.mem_cons_of_mem _ (List.mem_append_right _ (List.mem_append_right _ (List.mem_append_right _ (List.mem_append_right _ (List.mem_append_right _ (List.mem_append_right _ (List.mem_append_right _ (List.mem_append_right _ (List.mem_append_right _ (List.mem_append_right _ (List.mem_append_right _ (List.mem_append_right _ (List.mem_append_right _ (List.mem_append_right _ (List.mem_append_right _ (List.mem_append_right _ (List.mem_append_right _ (List.mem_append_left _ h))))))))))))))))))) (by decide +kernel)
set_option maxRecDepth 100000 in
theorem gz_c_X1_make_1_c_X1_wordOf_60 : GoodIn wz_c_X1_make_1 wz_c_X1_wordOf_60 := goodIn_sub (fun w h => List.mem_cons_of_mem _ (List.mem_append_right _ (List.mem_append_right _ (List.mem_append_right _ (List.mem_append_right _ (List.mem_append_right _ (List.mem_append_right _ (List.mem_append_right _ (List.mem_append_right _ (List.mem_append_right _ (List.mem_append_right _ (List.mem_append_right _ (List.mem_append_right _ (List.mem_append_right _ (List.mem_append_right _ (List.mem_append_right _ (List.mem_append_right _ (List.mem_append_right _ (List.mem_append_right _ (List.mem_append_left _ h)))))))))))))))))))) (by decide +kernel)
set_option maxRecDepth 100000 in
theorem gz_c_X1_make_1_c_X1_mixFirst : GoodIn wz_c_X1_make_1 wz_c_X1_mixFirst := goodIn_sub (fun w h => List.mem_cons_of_mem _ (List.mem_append_right _ (List.mem_append_right _ (List.mem_append_right _ (List.mem_append_right _ (List.mem_append_right _ (List.mem_append_right _ (List.mem_append_right _ (List.mem_append_right _ (List.mem_append_right _ (List.mem_append_right _ (List.mem_append_right _ (List.mem_append_right _ (List.mem_append_right _ (List.mem_append_right _ (List.mem_append_right _ (List.mem_append_right _ (List.mem_append_right _ (List.mem_append_right _ (List.mem_append_right _ (List.mem_append_left _ h))))))))))))))))))))) (by decide +kernel)
set_option maxRecDepth 100000 in
theorem gv_c_X1_make_1_c_X1_wordOf_0_34 : GoodIn wz_c_X1_make_1 (va_wsS RX1 34 yX1_wordOf wz_c_X1_wordOf_0) := goodIn_app (goodIn_of _ (by decide +kernel)) gz_c_X1_make_1_c_X1_wordOf_0
set_option maxRecDepth 100000 in
theorem gv_c_X1_make_1_c_X1_wordOf_4_34 : GoodIn wz_c_X1_make_1 (va_wsS RX1 34 yX1_wordOf wz_c_X1_wordOf_4) := goodIn_app (goodIn_of _ (by decide +kernel)) gz_c_X1_make_1_c_X1_wordOf_4
set_option maxRecDepth 100000 in
theorem gv_c_X1_make_1_c_X1_wordOf_8_34 : GoodIn wz_c_X1_make_1 (va_wsS RX1 34 yX1_wordOf wz_c_X1_wordOf_8) := goodIn_app (goodIn_of _ (by decide +kernel)) gz_c_X1_make_1_c_X1_wordOf_8
set_option maxRecDepth 100000 in
theorem gv_c_X1_make_1_c_X1_wordOf_12_34 : GoodIn wz_c_X1_make_1 (va_wsS RX1 34 yX1_wordOf wz_c_X1_wordOf_12) := goodIn_app (goodIn_of _ (by decide +kernel)) gz_c_X1_make_1_c_X1_wordOf_12
set_option maxRecDepth 100000 in
theorem gv_c_X1_make_1_c_X1_wordOf_16_34 : GoodIn wz_c_X1_make_1 (va_wsS RX1 34 yX1_wordOf wz_c_X1_wordOf_16) := goodIn_app (goodIn_of _ (by decide +kernel)) gz_c_X1_make_1_c_X1_wordOf_16
set_option maxRecDepth 100000 in
theorem gv_c_X1_make_1_c_X1_wordOf_20_34 : GoodIn wz_c_X1_make_1 (va_wsS RX1 34 yX1_wordOf wz_c_X1_wordOf_20) := goodIn_app (goodIn_of _ (by decide +kernel)) gz_c_X1_make_1_c_X1_wordOf_20
set_option maxRecDepth 100000 in
theorem gv_c_X1_make_1_c_X1_wordOf_24_34 : GoodIn wz_c_X1_make_1 (va_wsS RX1 34 yX1_wordOf wz_c_X1_wordOf_24) := goodIn_app (goodIn_of _ (by decide +kernel)) gz_c_X1_make_1_c_X1_wordOf_24
set_option maxRecDepth 100000 in
theorem gv_c_X1_make_1_c_X1_wordOf_28_34 : GoodIn wz_c_X1_make_1 (va_wsS RX1 34 yX1_wordOf wz_c_X1_wordOf_28) := goodIn_app (goodIn_of _ (by decide +kernel)) gz_c_X1_make_1_c_X1_wordOf_28
set_option maxRecDepth 100000 in
theorem gv_c_X1_make_1_c_X1_wordOf_32_34 : GoodIn wz_c_X1_make_1 (va_wsS RX1 34 yX1_wordOf wz_c_X1_wordOf_32) := goodIn_app (goodIn_of _ (by decide +kernel)) gz_c_X1_make_1_c_X1_wordOf_32
set_option maxRecDepth 100000 in
theorem gv_c_X1_make_1_c_X1_wordOf_36_34 : GoodIn wz_c_X1_make_1 (va_wsS RX1 34 yX1_wordOf wz_c_X1_wordOf_36) := goodIn_app (goodIn_of _ (by decide +kernel)) gz_c_X1_make_1_c_X1_wordOf_36
set_option maxRecDepth 100000 in
theorem gv_c_X1_make_1_c_X1_wordOf_40_34 : GoodIn wz_c_X1_make_1 (va_wsS RX1 34 yX1_wordOf wz_c_X1_wordOf_40) := goodIn_app (goodIn_of _ (by decide +kernel)) gz_c_X1_make_1_c_X1_wordOf_40
set_option maxRecDepth 100000 in
theorem gv_c_X1_make_1_c_X1_wordOf_44_34 : GoodIn wz_c_X1_make_1 (va_wsS RX1 34 yX1_wordOf wz_c_X1_wordOf_44) := goodIn_app (goodIn_of _ (by decide +kernel)) gz_c_X1_make_1_c_X1_wordOf_44
set_option maxRecDepth 100000 in
theorem gv_c_X1_make_1_c_X1_wordOf_48_34 : GoodIn wz_c_X1_make_1 (va_wsS RX1 34 yX1_wordOf wz_c_X1_wordOf_48) := goodIn_app (goodIn_of _ (by decide +kernel)) gz_c_X1_make_1_c_X1_wordOf_48
set_option maxRecDepth 100000 in
theorem gv_c_X1_make_1_c_X1_wordOf_52_34 : GoodIn wz_c_X1_make_1 (va_wsS RX1 34 yX1_wordOf wz_c_X1_wordOf_52) := goodIn_app (goodIn_of _ (by decide +kernel)) gz_c_X1_make_1_c_X1_wordOf_52
set_option maxRecDepth 100000 in
theorem gv_c_X1_make_1_c_X1_wordOf_56_34 : GoodIn wz_c_X1_make_1 (va_wsS RX1 34 yX1_wordOf wz_c_X1_wordOf_56) := goodIn_app (goodIn_of _ (by decide +kernel)) gz_c_X1_make_1_c_X1_wordOf_56
set_option maxRecDepth 100000 in
theorem gv_c_X1_make_1_c_X1_wordOf_60_34 : GoodIn wz_c_X1_make_1 (va_wsS RX1 34 yX1_wordOf wz_c_X1_wordOf_60) := goodIn_app (goodIn_of _ (by decide +kernel)) gz_c_X1_make_1_c_X1_wordOf_60
set_option maxRecDepth 100000 in
theorem gv_c_X1_make_1_c_X1_mixFirst_41 : GoodIn wz_c_X1_make_1 (wsV RX1 41 RX1 yX1_mixFirst wz_c_X1_mixFirst) := goodIn_app (goodIn_of _ (by decide +kernel)) gz_c_X1_make_1_c_X1_mixFirst
set_option maxHeartbeats 4000000 in
set_option maxRecDepth 100000 in
theorem c_X1_make_1 (l : Launch) (D : va_G) (y : Nat → ClassId) (sz : Nat) (h0 : Nat) (st : Nat) (wd : Nat) (w1 : Value) (sp : Nat) (w2 : Value) (f : Nat → Int32) (g : Nat → Int32) (e1 : Nat) : Met l yX1_make wz_c_X1_make_1 ({ frames := 2, cells := 0, slots := 0, locals := 50 }) (va_Pc [.ref h0, .int 2, .ref sp] (zB D y [(h0, .inr (5, [.ref st, .ref wd, w1])), (st, .inl (y 1, 8, .inl f)), (wd, .inl (y 1, 80, .inl g)), (sp, .inr (4, [w2, .int 0, .int 0]))] sz [] [("SignetRing$Digest", "START_FIRST", "[I", .ref e1)] [] [.inl (e1, 8, tS1)])) (va_Qv (fun _ : Unit => True) (fun _ t => va_P D vwCl [(h0, .inr (5, [.ref st, .ref wd, .int 0])), (st, .inl (y 1, 8, .inl (zf tD1 5 (zf tS1 8 f)))), (wd, .inl (y 1, 80, .inl (zf tW1 80 g))), (sp, .inr (4, [w2, .int 0, .int 0]))] t.heap ∧ va_D (va_A [(h0, .inr (5, [.ref st, .ref wd, w1])), (st, .inl (y 1, 8, .inl f)), (wd, .inl (y 1, 80, .inl g)), (sp, .inr (4, [w2, .int 0, .int 0]))] sz) [(h0, .inr (5, [.ref st, .ref wd, .int 0])), (st, .inl (y 1, 8, .inl (zf tD1 5 (zf tS1 8 f)))), (wd, .inl (y 1, 80, .inl (zf tW1 80 g))), (sp, .inr (4, [w2, .int 0, .int 0]))]) (va_A [(h0, .inr (5, [.ref st, .ref wd, w1])), (st, .inl (y 1, 8, .inl f)), (wd, .inl (y 1, 80, .inl g)), (sp, .inr (4, [w2, .int 0, .int 0]))] sz)) 0 0 (va_A [(h0, .inr (5, [.ref st, .ref wd, w1])), (st, .inl (y 1, 8, .inl f)), (wd, .inl (y 1, 80, .inl g)), (sp, .inr (4, [w2, .int 0, .int 0]))] sz) := by
  refine Met.ofW (cc := cX1_make) (maxL := 6) (ret := none) (by decide) rfl ?_
  intro p e s m args below meth c s₁ B hml hv
  obtain ⟨rfl, hsz, hP, hK, hD0, hN, hE, hO, hT, hG⟩ := hv
  have hx := B.exec
  have hb := B.bytes
  have hr := B.returns
  have hts := atoms_spec (ws := wz_c_X1_make_1) B.pre
  have hown : s.vm.findClass RX1 = some m.cls := findClass_of_methodNamed B.named
  have hlocks := B.notSynchronized
  subst hsz
  have hD := hD0.self (sz := s.heap.size)
  generalize hAe : va_A [(h0, .inr (5, [.ref st, .ref wd, w1])), (st, .inl (y 1, 8, .inl f)), (wd, .inl (y 1, 80, .inl g)), (sp, .inr (4, [w2, .int 0, .int 0]))] s.heap.size = A at hD hE hT hG ⊢
  have hA : ∀ q : Nat, s.heap.size ≤ q → A q := fun q h => by rw [← hAe]; exact Or.inr h
  have hS : va_S A s.heap s.heap [] := va_S.rf
  have hl := lv_entry ([.ref h0, .int 2, .ref sp]) (n := 6) (Nat.le_of_ble_eq_true rfl)
  rw [lg_entry_eq]
  generalize (lg_sl ([.ref h0, .int 2, .ref sp]) ++ List.replicate (6 - (lg_sl ([.ref h0, .int 2, .ref sp])).length) Slot.unset).toArray = ls at hl ⊢
  have hl : lv_has ls 6 [(0, .ref h0), (1, .int 2), (2, .ref sp)] := hl
  refine lv_aload_n hx hb dX1_make_0 rfl (lv_at hl 0 rfl) ?_
  refine lv_iload_n hx hb dX1_make_1 rfl (lv_at hl 1 rfl) ?_
  refine lv_bipush (v := 8) hx hb dX1_make_2 (by decide) ?_
  refine lv_icmp_ne (tgt := 11) hx hb dX1_make_4 (by decide) (fun _ => ?_) (fun c9 => absurd c9 (by decide))
  refine lv_iconst (v := 0) hx hb dX1_make_11 (by decide) ?_
  refine va_put (D := D) (ci := 5) (v := .int 0) (ty := .boolean) (C := RX1) (T := TX1) (N := 3) hx hb hts (by decide +kernel) tyX1 tyX1_ok nmX1 hown hK hP hD hS 0 rfl rfl 2 (by decide) (hts (.fieldLink RX1 18 "SignetRing$Digest" "second" "Z") (by decide +kernel)) (fun _ h9 => h9) rfl (by decide +kernel) rfl rfl (Nat.le_of_ble_eq_true rfl) dX1_make_12 (fun H locs hP hD hS => ?_)
  have hP : va_P D vwCl [(h0, .inr (5, [.ref st, .ref wd, .int 0])), (st, .inl (y 1, 8, .inl f)), (wd, .inl (y 1, 80, .inl g)), (sp, .inr (4, [w2, .int 0, .int 0]))] H := hP
  have hD : va_D A [(h0, .inr (5, [.ref st, .ref wd, .int 0])), (st, .inl (y 1, 8, .inl f)), (wd, .inl (y 1, 80, .inl g)), (sp, .inr (4, [w2, .int 0, .int 0]))] := hD
  refine lv_iconst (v := 0) hx hb dX1_make_15 (by decide) ?_
  refine lv_istore_n (lv' := [(3, .int 0), (0, .ref h0), (1, .int 2), (2, .ref sp)]) hx hb dX1_make_16 rfl hl (by decide) rfl (fun ls hl => ?_)
  refine lv_iload_n hx hb dX1_make_17 rfl (lv_at hl 0 rfl) ?_
  refine lv_bipush (v := 8) hx hb dX1_make_18 (by decide) ?_
  refine lv_icmp_ge (tgt := 55) hx hb dX1_make_20 (by decide) (fun c9 => absurd c9 (by decide)) (fun _ => ?_)
  refine lv_aload_n hx hb dX1_make_23 rfl (lv_at hl 1 rfl) ?_
  refine va_get (D := D) (ci := 5) (v := .ref st) (C := RX1) (T := TX1) (N := 3) hx hb hts (by decide +kernel) hown hK hP 0 rfl rfl 0 (by decide) (hts (.fieldLink RX1 9 "SignetRing$Digest" "state" "[I") (by decide +kernel)) (fun _ h9 => h9) rfl dX1_make_24 ?_
  refine lv_iload_n hx hb dX1_make_27 rfl (lv_at hl 0 rfl) ?_
  refine lv_aload_n hx hb dX1_make_28 rfl (lv_at hl 1 rfl) ?_
  refine va_get (D := D) (ci := 5) (v := .int 0) (C := RX1) (T := TX1) (N := 3) hx hb hts (by decide +kernel) hown hK hP 0 rfl rfl 2 (by decide) (hts (.fieldLink RX1 18 "SignetRing$Digest" "second" "Z") (by decide +kernel)) (fun _ h9 => h9) rfl dX1_make_29 ?_
  refine lv_if_eq (tgt := 43) hx hb dX1_make_32 (by decide) (fun _ => ?_) (fun c9 => absurd (by decide) c9)
  refine va_gets hx hb (hE ("SignetRing$Digest", "START_FIRST", "[I", .ref e1) (List.mem_of_getElem? (i := 0) rfl)) hS hown (hts (.fieldLink RX1 25 "SignetRing$Digest" "START_FIRST" "[I") (by decide +kernel)) (fun _ h9 => h9) dX1_make_43 ?_
  refine lv_iload_n hx hb dX1_make_46 rfl (lv_at hl 0 rfl) ?_
  refine va_ti (v := .int (tS1 0)) hx hb (show va_T .int e1 8 (fun j => .int (tS1 j)) A s s.heap from (hG (.inl (e1, 8, tS1)) (List.mem_of_getElem? (i := 0) rfl))) hS (by unfold vp_in; decide) (congrArg (fun j => Value.int (tS1 j)) (nI_clamp (n := 0) (by decide))) dX1_make_47 ?_
  refine va_iast hx hb hK hP hD hS 1 1 rfl rfl (by unfold vp_in; decide) dX1_make_48 (fun H locs hP hD hS => ?_)
  have hP : va_P D vwCl [(h0, .inr (5, [.ref st, .ref wd, .int 0])), (st, .inl (y 1, 8, .inl (upd (zf tS1 0 f) (nI 0).toNatClampNeg (tS1 0)))), (wd, .inl (y 1, 80, .inl g)), (sp, .inr (4, [w2, .int 0, .int 0]))] H := hP
  have hD : va_D A [(h0, .inr (5, [.ref st, .ref wd, .int 0])), (st, .inl (y 1, 8, .inl (upd (zf tS1 0 f) (nI 0).toNatClampNeg (tS1 0)))), (wd, .inl (y 1, 80, .inl g)), (sp, .inr (4, [w2, .int 0, .int 0]))] := hD
  have u1 : upd (zf tS1 0 f) (nI 0).toNatClampNeg (tS1 0) = zf tS1 1 f := (zf_st (n := 0) (by decide) rfl)
  rw [u1] at hP hD
  have hP : va_P D vwCl [(h0, .inr (5, [.ref st, .ref wd, .int 0])), (st, .inl (y 1, 8, .inl (zf tS1 1 f))), (wd, .inl (y 1, 80, .inl g)), (sp, .inr (4, [w2, .int 0, .int 0]))] H := hP
  have hD : va_D A [(h0, .inr (5, [.ref st, .ref wd, .int 0])), (st, .inl (y 1, 8, .inl (zf tS1 1 f))), (wd, .inl (y 1, 80, .inl g)), (sp, .inr (4, [w2, .int 0, .int 0]))] := hD
  refine lv_iinc (v := 1) (lv' := [(3, .int 1), (0, .ref h0), (1, .int 2), (2, .ref sp)]) hx hb dX1_make_49 hl (k := 0) rfl (by decide) (by decide) rfl (fun ls hl => ?_)
  refine lv_goto (tgt := 17) hx hb dX1_make_52 (by decide) ?_
  refine lv_iload_n hx hb dX1_make_17 rfl (lv_at hl 0 rfl) ?_
  refine lv_bipush (v := 8) hx hb dX1_make_18 (by decide) ?_
  refine lv_icmp_ge (tgt := 55) hx hb dX1_make_20 (by decide) (fun c9 => absurd c9 (by decide)) (fun _ => ?_)
  refine lv_aload_n hx hb dX1_make_23 rfl (lv_at hl 1 rfl) ?_
  refine va_get (D := D) (ci := 5) (v := .ref st) (C := RX1) (T := TX1) (N := 3) hx hb hts (by decide +kernel) hown hK hP 0 rfl rfl 0 (by decide) (hts (.fieldLink RX1 9 "SignetRing$Digest" "state" "[I") (by decide +kernel)) (fun _ h9 => h9) rfl dX1_make_24 ?_
  refine lv_iload_n hx hb dX1_make_27 rfl (lv_at hl 0 rfl) ?_
  refine lv_aload_n hx hb dX1_make_28 rfl (lv_at hl 1 rfl) ?_
  refine va_get (D := D) (ci := 5) (v := .int 0) (C := RX1) (T := TX1) (N := 3) hx hb hts (by decide +kernel) hown hK hP 0 rfl rfl 2 (by decide) (hts (.fieldLink RX1 18 "SignetRing$Digest" "second" "Z") (by decide +kernel)) (fun _ h9 => h9) rfl dX1_make_29 ?_
  refine lv_if_eq (tgt := 43) hx hb dX1_make_32 (by decide) (fun _ => ?_) (fun c9 => absurd (by decide) c9)
  refine va_gets hx hb (hE ("SignetRing$Digest", "START_FIRST", "[I", .ref e1) (List.mem_of_getElem? (i := 0) rfl)) hS hown (hts (.fieldLink RX1 25 "SignetRing$Digest" "START_FIRST" "[I") (by decide +kernel)) (fun _ h9 => h9) dX1_make_43 ?_
  refine lv_iload_n hx hb dX1_make_46 rfl (lv_at hl 0 rfl) ?_
  refine va_ti (v := .int (tS1 1)) hx hb (show va_T .int e1 8 (fun j => .int (tS1 j)) A s s.heap from (hG (.inl (e1, 8, tS1)) (List.mem_of_getElem? (i := 0) rfl))) hS (by unfold vp_in; decide) (congrArg (fun j => Value.int (tS1 j)) (nI_clamp (n := 1) (by decide))) dX1_make_47 ?_
  refine va_iast hx hb hK hP hD hS 1 1 rfl rfl (by unfold vp_in; decide) dX1_make_48 (fun H locs hP hD hS => ?_)
  have hP : va_P D vwCl [(h0, .inr (5, [.ref st, .ref wd, .int 0])), (st, .inl (y 1, 8, .inl (upd (zf tS1 1 f) (nI 1).toNatClampNeg (tS1 1)))), (wd, .inl (y 1, 80, .inl g)), (sp, .inr (4, [w2, .int 0, .int 0]))] H := hP
  have hD : va_D A [(h0, .inr (5, [.ref st, .ref wd, .int 0])), (st, .inl (y 1, 8, .inl (upd (zf tS1 1 f) (nI 1).toNatClampNeg (tS1 1)))), (wd, .inl (y 1, 80, .inl g)), (sp, .inr (4, [w2, .int 0, .int 0]))] := hD
  have u2 : upd (zf tS1 1 f) (nI 1).toNatClampNeg (tS1 1) = zf tS1 2 f := (zf_st (n := 1) (by decide) rfl)
  rw [u2] at hP hD
  have hP : va_P D vwCl [(h0, .inr (5, [.ref st, .ref wd, .int 0])), (st, .inl (y 1, 8, .inl (zf tS1 2 f))), (wd, .inl (y 1, 80, .inl g)), (sp, .inr (4, [w2, .int 0, .int 0]))] H := hP
  have hD : va_D A [(h0, .inr (5, [.ref st, .ref wd, .int 0])), (st, .inl (y 1, 8, .inl (zf tS1 2 f))), (wd, .inl (y 1, 80, .inl g)), (sp, .inr (4, [w2, .int 0, .int 0]))] := hD
  refine lv_iinc (v := 2) (lv' := [(3, .int 2), (0, .ref h0), (1, .int 2), (2, .ref sp)]) hx hb dX1_make_49 hl (k := 0) rfl (by decide) (by decide) rfl (fun ls hl => ?_)
  refine lv_goto (tgt := 17) hx hb dX1_make_52 (by decide) ?_
  refine lv_iload_n hx hb dX1_make_17 rfl (lv_at hl 0 rfl) ?_
  refine lv_bipush (v := 8) hx hb dX1_make_18 (by decide) ?_
  refine lv_icmp_ge (tgt := 55) hx hb dX1_make_20 (by decide) (fun c9 => absurd c9 (by decide)) (fun _ => ?_)
  refine lv_aload_n hx hb dX1_make_23 rfl (lv_at hl 1 rfl) ?_
  refine va_get (D := D) (ci := 5) (v := .ref st) (C := RX1) (T := TX1) (N := 3) hx hb hts (by decide +kernel) hown hK hP 0 rfl rfl 0 (by decide) (hts (.fieldLink RX1 9 "SignetRing$Digest" "state" "[I") (by decide +kernel)) (fun _ h9 => h9) rfl dX1_make_24 ?_
  refine lv_iload_n hx hb dX1_make_27 rfl (lv_at hl 0 rfl) ?_
  refine lv_aload_n hx hb dX1_make_28 rfl (lv_at hl 1 rfl) ?_
  refine va_get (D := D) (ci := 5) (v := .int 0) (C := RX1) (T := TX1) (N := 3) hx hb hts (by decide +kernel) hown hK hP 0 rfl rfl 2 (by decide) (hts (.fieldLink RX1 18 "SignetRing$Digest" "second" "Z") (by decide +kernel)) (fun _ h9 => h9) rfl dX1_make_29 ?_
  refine lv_if_eq (tgt := 43) hx hb dX1_make_32 (by decide) (fun _ => ?_) (fun c9 => absurd (by decide) c9)
  refine va_gets hx hb (hE ("SignetRing$Digest", "START_FIRST", "[I", .ref e1) (List.mem_of_getElem? (i := 0) rfl)) hS hown (hts (.fieldLink RX1 25 "SignetRing$Digest" "START_FIRST" "[I") (by decide +kernel)) (fun _ h9 => h9) dX1_make_43 ?_
  refine lv_iload_n hx hb dX1_make_46 rfl (lv_at hl 0 rfl) ?_
  refine va_ti (v := .int (tS1 2)) hx hb (show va_T .int e1 8 (fun j => .int (tS1 j)) A s s.heap from (hG (.inl (e1, 8, tS1)) (List.mem_of_getElem? (i := 0) rfl))) hS (by unfold vp_in; decide) (congrArg (fun j => Value.int (tS1 j)) (nI_clamp (n := 2) (by decide))) dX1_make_47 ?_
  refine va_iast hx hb hK hP hD hS 1 1 rfl rfl (by unfold vp_in; decide) dX1_make_48 (fun H locs hP hD hS => ?_)
  have hP : va_P D vwCl [(h0, .inr (5, [.ref st, .ref wd, .int 0])), (st, .inl (y 1, 8, .inl (upd (zf tS1 2 f) (nI 2).toNatClampNeg (tS1 2)))), (wd, .inl (y 1, 80, .inl g)), (sp, .inr (4, [w2, .int 0, .int 0]))] H := hP
  have hD : va_D A [(h0, .inr (5, [.ref st, .ref wd, .int 0])), (st, .inl (y 1, 8, .inl (upd (zf tS1 2 f) (nI 2).toNatClampNeg (tS1 2)))), (wd, .inl (y 1, 80, .inl g)), (sp, .inr (4, [w2, .int 0, .int 0]))] := hD
  have u3 : upd (zf tS1 2 f) (nI 2).toNatClampNeg (tS1 2) = zf tS1 3 f := (zf_st (n := 2) (by decide) rfl)
  rw [u3] at hP hD
  have hP : va_P D vwCl [(h0, .inr (5, [.ref st, .ref wd, .int 0])), (st, .inl (y 1, 8, .inl (zf tS1 3 f))), (wd, .inl (y 1, 80, .inl g)), (sp, .inr (4, [w2, .int 0, .int 0]))] H := hP
  have hD : va_D A [(h0, .inr (5, [.ref st, .ref wd, .int 0])), (st, .inl (y 1, 8, .inl (zf tS1 3 f))), (wd, .inl (y 1, 80, .inl g)), (sp, .inr (4, [w2, .int 0, .int 0]))] := hD
  refine lv_iinc (v := 3) (lv' := [(3, .int 3), (0, .ref h0), (1, .int 2), (2, .ref sp)]) hx hb dX1_make_49 hl (k := 0) rfl (by decide) (by decide) rfl (fun ls hl => ?_)
  refine lv_goto (tgt := 17) hx hb dX1_make_52 (by decide) ?_
  refine lv_iload_n hx hb dX1_make_17 rfl (lv_at hl 0 rfl) ?_
  refine lv_bipush (v := 8) hx hb dX1_make_18 (by decide) ?_
  refine lv_icmp_ge (tgt := 55) hx hb dX1_make_20 (by decide) (fun c9 => absurd c9 (by decide)) (fun _ => ?_)
  refine lv_aload_n hx hb dX1_make_23 rfl (lv_at hl 1 rfl) ?_
  refine va_get (D := D) (ci := 5) (v := .ref st) (C := RX1) (T := TX1) (N := 3) hx hb hts (by decide +kernel) hown hK hP 0 rfl rfl 0 (by decide) (hts (.fieldLink RX1 9 "SignetRing$Digest" "state" "[I") (by decide +kernel)) (fun _ h9 => h9) rfl dX1_make_24 ?_
  refine lv_iload_n hx hb dX1_make_27 rfl (lv_at hl 0 rfl) ?_
  refine lv_aload_n hx hb dX1_make_28 rfl (lv_at hl 1 rfl) ?_
  refine va_get (D := D) (ci := 5) (v := .int 0) (C := RX1) (T := TX1) (N := 3) hx hb hts (by decide +kernel) hown hK hP 0 rfl rfl 2 (by decide) (hts (.fieldLink RX1 18 "SignetRing$Digest" "second" "Z") (by decide +kernel)) (fun _ h9 => h9) rfl dX1_make_29 ?_
  refine lv_if_eq (tgt := 43) hx hb dX1_make_32 (by decide) (fun _ => ?_) (fun c9 => absurd (by decide) c9)
  refine va_gets hx hb (hE ("SignetRing$Digest", "START_FIRST", "[I", .ref e1) (List.mem_of_getElem? (i := 0) rfl)) hS hown (hts (.fieldLink RX1 25 "SignetRing$Digest" "START_FIRST" "[I") (by decide +kernel)) (fun _ h9 => h9) dX1_make_43 ?_
  refine lv_iload_n hx hb dX1_make_46 rfl (lv_at hl 0 rfl) ?_
  refine va_ti (v := .int (tS1 3)) hx hb (show va_T .int e1 8 (fun j => .int (tS1 j)) A s s.heap from (hG (.inl (e1, 8, tS1)) (List.mem_of_getElem? (i := 0) rfl))) hS (by unfold vp_in; decide) (congrArg (fun j => Value.int (tS1 j)) (nI_clamp (n := 3) (by decide))) dX1_make_47 ?_
  refine va_iast hx hb hK hP hD hS 1 1 rfl rfl (by unfold vp_in; decide) dX1_make_48 (fun H locs hP hD hS => ?_)
  have hP : va_P D vwCl [(h0, .inr (5, [.ref st, .ref wd, .int 0])), (st, .inl (y 1, 8, .inl (upd (zf tS1 3 f) (nI 3).toNatClampNeg (tS1 3)))), (wd, .inl (y 1, 80, .inl g)), (sp, .inr (4, [w2, .int 0, .int 0]))] H := hP
  have hD : va_D A [(h0, .inr (5, [.ref st, .ref wd, .int 0])), (st, .inl (y 1, 8, .inl (upd (zf tS1 3 f) (nI 3).toNatClampNeg (tS1 3)))), (wd, .inl (y 1, 80, .inl g)), (sp, .inr (4, [w2, .int 0, .int 0]))] := hD
  have u4 : upd (zf tS1 3 f) (nI 3).toNatClampNeg (tS1 3) = zf tS1 4 f := (zf_st (n := 3) (by decide) rfl)
  rw [u4] at hP hD
  have hP : va_P D vwCl [(h0, .inr (5, [.ref st, .ref wd, .int 0])), (st, .inl (y 1, 8, .inl (zf tS1 4 f))), (wd, .inl (y 1, 80, .inl g)), (sp, .inr (4, [w2, .int 0, .int 0]))] H := hP
  have hD : va_D A [(h0, .inr (5, [.ref st, .ref wd, .int 0])), (st, .inl (y 1, 8, .inl (zf tS1 4 f))), (wd, .inl (y 1, 80, .inl g)), (sp, .inr (4, [w2, .int 0, .int 0]))] := hD
  refine lv_iinc (v := 4) (lv' := [(3, .int 4), (0, .ref h0), (1, .int 2), (2, .ref sp)]) hx hb dX1_make_49 hl (k := 0) rfl (by decide) (by decide) rfl (fun ls hl => ?_)
  refine lv_goto (tgt := 17) hx hb dX1_make_52 (by decide) ?_
  refine lv_iload_n hx hb dX1_make_17 rfl (lv_at hl 0 rfl) ?_
  refine lv_bipush (v := 8) hx hb dX1_make_18 (by decide) ?_
  refine lv_icmp_ge (tgt := 55) hx hb dX1_make_20 (by decide) (fun c9 => absurd c9 (by decide)) (fun _ => ?_)
  refine lv_aload_n hx hb dX1_make_23 rfl (lv_at hl 1 rfl) ?_
  refine va_get (D := D) (ci := 5) (v := .ref st) (C := RX1) (T := TX1) (N := 3) hx hb hts (by decide +kernel) hown hK hP 0 rfl rfl 0 (by decide) (hts (.fieldLink RX1 9 "SignetRing$Digest" "state" "[I") (by decide +kernel)) (fun _ h9 => h9) rfl dX1_make_24 ?_
  refine lv_iload_n hx hb dX1_make_27 rfl (lv_at hl 0 rfl) ?_
  refine lv_aload_n hx hb dX1_make_28 rfl (lv_at hl 1 rfl) ?_
  refine va_get (D := D) (ci := 5) (v := .int 0) (C := RX1) (T := TX1) (N := 3) hx hb hts (by decide +kernel) hown hK hP 0 rfl rfl 2 (by decide) (hts (.fieldLink RX1 18 "SignetRing$Digest" "second" "Z") (by decide +kernel)) (fun _ h9 => h9) rfl dX1_make_29 ?_
  refine lv_if_eq (tgt := 43) hx hb dX1_make_32 (by decide) (fun _ => ?_) (fun c9 => absurd (by decide) c9)
  refine va_gets hx hb (hE ("SignetRing$Digest", "START_FIRST", "[I", .ref e1) (List.mem_of_getElem? (i := 0) rfl)) hS hown (hts (.fieldLink RX1 25 "SignetRing$Digest" "START_FIRST" "[I") (by decide +kernel)) (fun _ h9 => h9) dX1_make_43 ?_
  refine lv_iload_n hx hb dX1_make_46 rfl (lv_at hl 0 rfl) ?_
  refine va_ti (v := .int (tS1 4)) hx hb (show va_T .int e1 8 (fun j => .int (tS1 j)) A s s.heap from (hG (.inl (e1, 8, tS1)) (List.mem_of_getElem? (i := 0) rfl))) hS (by unfold vp_in; decide) (congrArg (fun j => Value.int (tS1 j)) (nI_clamp (n := 4) (by decide))) dX1_make_47 ?_
  refine va_iast hx hb hK hP hD hS 1 1 rfl rfl (by unfold vp_in; decide) dX1_make_48 (fun H locs hP hD hS => ?_)
  have hP : va_P D vwCl [(h0, .inr (5, [.ref st, .ref wd, .int 0])), (st, .inl (y 1, 8, .inl (upd (zf tS1 4 f) (nI 4).toNatClampNeg (tS1 4)))), (wd, .inl (y 1, 80, .inl g)), (sp, .inr (4, [w2, .int 0, .int 0]))] H := hP
  have hD : va_D A [(h0, .inr (5, [.ref st, .ref wd, .int 0])), (st, .inl (y 1, 8, .inl (upd (zf tS1 4 f) (nI 4).toNatClampNeg (tS1 4)))), (wd, .inl (y 1, 80, .inl g)), (sp, .inr (4, [w2, .int 0, .int 0]))] := hD
  have u5 : upd (zf tS1 4 f) (nI 4).toNatClampNeg (tS1 4) = zf tS1 5 f := (zf_st (n := 4) (by decide) rfl)
  rw [u5] at hP hD
  have hP : va_P D vwCl [(h0, .inr (5, [.ref st, .ref wd, .int 0])), (st, .inl (y 1, 8, .inl (zf tS1 5 f))), (wd, .inl (y 1, 80, .inl g)), (sp, .inr (4, [w2, .int 0, .int 0]))] H := hP
  have hD : va_D A [(h0, .inr (5, [.ref st, .ref wd, .int 0])), (st, .inl (y 1, 8, .inl (zf tS1 5 f))), (wd, .inl (y 1, 80, .inl g)), (sp, .inr (4, [w2, .int 0, .int 0]))] := hD
  refine lv_iinc (v := 5) (lv' := [(3, .int 5), (0, .ref h0), (1, .int 2), (2, .ref sp)]) hx hb dX1_make_49 hl (k := 0) rfl (by decide) (by decide) rfl (fun ls hl => ?_)
  refine lv_goto (tgt := 17) hx hb dX1_make_52 (by decide) ?_
  refine lv_iload_n hx hb dX1_make_17 rfl (lv_at hl 0 rfl) ?_
  refine lv_bipush (v := 8) hx hb dX1_make_18 (by decide) ?_
  refine lv_icmp_ge (tgt := 55) hx hb dX1_make_20 (by decide) (fun c9 => absurd c9 (by decide)) (fun _ => ?_)
  refine lv_aload_n hx hb dX1_make_23 rfl (lv_at hl 1 rfl) ?_
  refine va_get (D := D) (ci := 5) (v := .ref st) (C := RX1) (T := TX1) (N := 3) hx hb hts (by decide +kernel) hown hK hP 0 rfl rfl 0 (by decide) (hts (.fieldLink RX1 9 "SignetRing$Digest" "state" "[I") (by decide +kernel)) (fun _ h9 => h9) rfl dX1_make_24 ?_
  refine lv_iload_n hx hb dX1_make_27 rfl (lv_at hl 0 rfl) ?_
  refine lv_aload_n hx hb dX1_make_28 rfl (lv_at hl 1 rfl) ?_
  refine va_get (D := D) (ci := 5) (v := .int 0) (C := RX1) (T := TX1) (N := 3) hx hb hts (by decide +kernel) hown hK hP 0 rfl rfl 2 (by decide) (hts (.fieldLink RX1 18 "SignetRing$Digest" "second" "Z") (by decide +kernel)) (fun _ h9 => h9) rfl dX1_make_29 ?_
  refine lv_if_eq (tgt := 43) hx hb dX1_make_32 (by decide) (fun _ => ?_) (fun c9 => absurd (by decide) c9)
  refine va_gets hx hb (hE ("SignetRing$Digest", "START_FIRST", "[I", .ref e1) (List.mem_of_getElem? (i := 0) rfl)) hS hown (hts (.fieldLink RX1 25 "SignetRing$Digest" "START_FIRST" "[I") (by decide +kernel)) (fun _ h9 => h9) dX1_make_43 ?_
  refine lv_iload_n hx hb dX1_make_46 rfl (lv_at hl 0 rfl) ?_
  refine va_ti (v := .int (tS1 5)) hx hb (show va_T .int e1 8 (fun j => .int (tS1 j)) A s s.heap from (hG (.inl (e1, 8, tS1)) (List.mem_of_getElem? (i := 0) rfl))) hS (by unfold vp_in; decide) (congrArg (fun j => Value.int (tS1 j)) (nI_clamp (n := 5) (by decide))) dX1_make_47 ?_
  refine va_iast hx hb hK hP hD hS 1 1 rfl rfl (by unfold vp_in; decide) dX1_make_48 (fun H locs hP hD hS => ?_)
  have hP : va_P D vwCl [(h0, .inr (5, [.ref st, .ref wd, .int 0])), (st, .inl (y 1, 8, .inl (upd (zf tS1 5 f) (nI 5).toNatClampNeg (tS1 5)))), (wd, .inl (y 1, 80, .inl g)), (sp, .inr (4, [w2, .int 0, .int 0]))] H := hP
  have hD : va_D A [(h0, .inr (5, [.ref st, .ref wd, .int 0])), (st, .inl (y 1, 8, .inl (upd (zf tS1 5 f) (nI 5).toNatClampNeg (tS1 5)))), (wd, .inl (y 1, 80, .inl g)), (sp, .inr (4, [w2, .int 0, .int 0]))] := hD
  have u6 : upd (zf tS1 5 f) (nI 5).toNatClampNeg (tS1 5) = zf tS1 6 f := (zf_st (n := 5) (by decide) rfl)
  rw [u6] at hP hD
  have hP : va_P D vwCl [(h0, .inr (5, [.ref st, .ref wd, .int 0])), (st, .inl (y 1, 8, .inl (zf tS1 6 f))), (wd, .inl (y 1, 80, .inl g)), (sp, .inr (4, [w2, .int 0, .int 0]))] H := hP
  have hD : va_D A [(h0, .inr (5, [.ref st, .ref wd, .int 0])), (st, .inl (y 1, 8, .inl (zf tS1 6 f))), (wd, .inl (y 1, 80, .inl g)), (sp, .inr (4, [w2, .int 0, .int 0]))] := hD
  refine lv_iinc (v := 6) (lv' := [(3, .int 6), (0, .ref h0), (1, .int 2), (2, .ref sp)]) hx hb dX1_make_49 hl (k := 0) rfl (by decide) (by decide) rfl (fun ls hl => ?_)
  refine lv_goto (tgt := 17) hx hb dX1_make_52 (by decide) ?_
  refine lv_iload_n hx hb dX1_make_17 rfl (lv_at hl 0 rfl) ?_
  refine lv_bipush (v := 8) hx hb dX1_make_18 (by decide) ?_
  refine lv_icmp_ge (tgt := 55) hx hb dX1_make_20 (by decide) (fun c9 => absurd c9 (by decide)) (fun _ => ?_)
  refine lv_aload_n hx hb dX1_make_23 rfl (lv_at hl 1 rfl) ?_
  refine va_get (D := D) (ci := 5) (v := .ref st) (C := RX1) (T := TX1) (N := 3) hx hb hts (by decide +kernel) hown hK hP 0 rfl rfl 0 (by decide) (hts (.fieldLink RX1 9 "SignetRing$Digest" "state" "[I") (by decide +kernel)) (fun _ h9 => h9) rfl dX1_make_24 ?_
  refine lv_iload_n hx hb dX1_make_27 rfl (lv_at hl 0 rfl) ?_
  refine lv_aload_n hx hb dX1_make_28 rfl (lv_at hl 1 rfl) ?_
  refine va_get (D := D) (ci := 5) (v := .int 0) (C := RX1) (T := TX1) (N := 3) hx hb hts (by decide +kernel) hown hK hP 0 rfl rfl 2 (by decide) (hts (.fieldLink RX1 18 "SignetRing$Digest" "second" "Z") (by decide +kernel)) (fun _ h9 => h9) rfl dX1_make_29 ?_
  refine lv_if_eq (tgt := 43) hx hb dX1_make_32 (by decide) (fun _ => ?_) (fun c9 => absurd (by decide) c9)
  refine va_gets hx hb (hE ("SignetRing$Digest", "START_FIRST", "[I", .ref e1) (List.mem_of_getElem? (i := 0) rfl)) hS hown (hts (.fieldLink RX1 25 "SignetRing$Digest" "START_FIRST" "[I") (by decide +kernel)) (fun _ h9 => h9) dX1_make_43 ?_
  refine lv_iload_n hx hb dX1_make_46 rfl (lv_at hl 0 rfl) ?_
  refine va_ti (v := .int (tS1 6)) hx hb (show va_T .int e1 8 (fun j => .int (tS1 j)) A s s.heap from (hG (.inl (e1, 8, tS1)) (List.mem_of_getElem? (i := 0) rfl))) hS (by unfold vp_in; decide) (congrArg (fun j => Value.int (tS1 j)) (nI_clamp (n := 6) (by decide))) dX1_make_47 ?_
  refine va_iast hx hb hK hP hD hS 1 1 rfl rfl (by unfold vp_in; decide) dX1_make_48 (fun H locs hP hD hS => ?_)
  have hP : va_P D vwCl [(h0, .inr (5, [.ref st, .ref wd, .int 0])), (st, .inl (y 1, 8, .inl (upd (zf tS1 6 f) (nI 6).toNatClampNeg (tS1 6)))), (wd, .inl (y 1, 80, .inl g)), (sp, .inr (4, [w2, .int 0, .int 0]))] H := hP
  have hD : va_D A [(h0, .inr (5, [.ref st, .ref wd, .int 0])), (st, .inl (y 1, 8, .inl (upd (zf tS1 6 f) (nI 6).toNatClampNeg (tS1 6)))), (wd, .inl (y 1, 80, .inl g)), (sp, .inr (4, [w2, .int 0, .int 0]))] := hD
  have u7 : upd (zf tS1 6 f) (nI 6).toNatClampNeg (tS1 6) = zf tS1 7 f := (zf_st (n := 6) (by decide) rfl)
  rw [u7] at hP hD
  have hP : va_P D vwCl [(h0, .inr (5, [.ref st, .ref wd, .int 0])), (st, .inl (y 1, 8, .inl (zf tS1 7 f))), (wd, .inl (y 1, 80, .inl g)), (sp, .inr (4, [w2, .int 0, .int 0]))] H := hP
  have hD : va_D A [(h0, .inr (5, [.ref st, .ref wd, .int 0])), (st, .inl (y 1, 8, .inl (zf tS1 7 f))), (wd, .inl (y 1, 80, .inl g)), (sp, .inr (4, [w2, .int 0, .int 0]))] := hD
  refine lv_iinc (v := 7) (lv' := [(3, .int 7), (0, .ref h0), (1, .int 2), (2, .ref sp)]) hx hb dX1_make_49 hl (k := 0) rfl (by decide) (by decide) rfl (fun ls hl => ?_)
  refine lv_goto (tgt := 17) hx hb dX1_make_52 (by decide) ?_
  refine lv_iload_n hx hb dX1_make_17 rfl (lv_at hl 0 rfl) ?_
  refine lv_bipush (v := 8) hx hb dX1_make_18 (by decide) ?_
  refine lv_icmp_ge (tgt := 55) hx hb dX1_make_20 (by decide) (fun c9 => absurd c9 (by decide)) (fun _ => ?_)
  refine lv_aload_n hx hb dX1_make_23 rfl (lv_at hl 1 rfl) ?_
  refine va_get (D := D) (ci := 5) (v := .ref st) (C := RX1) (T := TX1) (N := 3) hx hb hts (by decide +kernel) hown hK hP 0 rfl rfl 0 (by decide) (hts (.fieldLink RX1 9 "SignetRing$Digest" "state" "[I") (by decide +kernel)) (fun _ h9 => h9) rfl dX1_make_24 ?_
  refine lv_iload_n hx hb dX1_make_27 rfl (lv_at hl 0 rfl) ?_
  refine lv_aload_n hx hb dX1_make_28 rfl (lv_at hl 1 rfl) ?_
  refine va_get (D := D) (ci := 5) (v := .int 0) (C := RX1) (T := TX1) (N := 3) hx hb hts (by decide +kernel) hown hK hP 0 rfl rfl 2 (by decide) (hts (.fieldLink RX1 18 "SignetRing$Digest" "second" "Z") (by decide +kernel)) (fun _ h9 => h9) rfl dX1_make_29 ?_
  refine lv_if_eq (tgt := 43) hx hb dX1_make_32 (by decide) (fun _ => ?_) (fun c9 => absurd (by decide) c9)
  refine va_gets hx hb (hE ("SignetRing$Digest", "START_FIRST", "[I", .ref e1) (List.mem_of_getElem? (i := 0) rfl)) hS hown (hts (.fieldLink RX1 25 "SignetRing$Digest" "START_FIRST" "[I") (by decide +kernel)) (fun _ h9 => h9) dX1_make_43 ?_
  refine lv_iload_n hx hb dX1_make_46 rfl (lv_at hl 0 rfl) ?_
  refine va_ti (v := .int (tS1 7)) hx hb (show va_T .int e1 8 (fun j => .int (tS1 j)) A s s.heap from (hG (.inl (e1, 8, tS1)) (List.mem_of_getElem? (i := 0) rfl))) hS (by unfold vp_in; decide) (congrArg (fun j => Value.int (tS1 j)) (nI_clamp (n := 7) (by decide))) dX1_make_47 ?_
  refine va_iast hx hb hK hP hD hS 1 1 rfl rfl (by unfold vp_in; decide) dX1_make_48 (fun H locs hP hD hS => ?_)
  have hP : va_P D vwCl [(h0, .inr (5, [.ref st, .ref wd, .int 0])), (st, .inl (y 1, 8, .inl (upd (zf tS1 7 f) (nI 7).toNatClampNeg (tS1 7)))), (wd, .inl (y 1, 80, .inl g)), (sp, .inr (4, [w2, .int 0, .int 0]))] H := hP
  have hD : va_D A [(h0, .inr (5, [.ref st, .ref wd, .int 0])), (st, .inl (y 1, 8, .inl (upd (zf tS1 7 f) (nI 7).toNatClampNeg (tS1 7)))), (wd, .inl (y 1, 80, .inl g)), (sp, .inr (4, [w2, .int 0, .int 0]))] := hD
  have u8 : upd (zf tS1 7 f) (nI 7).toNatClampNeg (tS1 7) = zf tS1 8 f := (zf_st (n := 7) (by decide) rfl)
  rw [u8] at hP hD
  have hP : va_P D vwCl [(h0, .inr (5, [.ref st, .ref wd, .int 0])), (st, .inl (y 1, 8, .inl (zf tS1 8 f))), (wd, .inl (y 1, 80, .inl g)), (sp, .inr (4, [w2, .int 0, .int 0]))] H := hP
  have hD : va_D A [(h0, .inr (5, [.ref st, .ref wd, .int 0])), (st, .inl (y 1, 8, .inl (zf tS1 8 f))), (wd, .inl (y 1, 80, .inl g)), (sp, .inr (4, [w2, .int 0, .int 0]))] := hD
  refine lv_iinc (v := 8) (lv' := [(3, .int 8), (0, .ref h0), (1, .int 2), (2, .ref sp)]) hx hb dX1_make_49 hl (k := 0) rfl (by decide) (by decide) rfl (fun ls hl => ?_)
  refine lv_goto (tgt := 17) hx hb dX1_make_52 (by decide) ?_
  refine lv_iload_n hx hb dX1_make_17 rfl (lv_at hl 0 rfl) ?_
  refine lv_bipush (v := 8) hx hb dX1_make_18 (by decide) ?_
  refine lv_icmp_ge (tgt := 55) hx hb dX1_make_20 (by decide) (fun _ => ?_) (fun c9 => absurd (by decide) c9)
  refine lv_aload_n hx hb dX1_make_55 rfl (lv_at hl 3 rfl) ?_
  refine va_get (D := D) (ci := 4) (v := .int 0) (C := RX0) (T := TX0) (N := 3) hx hb hts (by decide +kernel) hown hK hP 3 rfl rfl 2 (by decide) (hts (.fieldLink RX1 28 "SignetRing$Span" "size" "I") (by decide +kernel)) (fun _ h9 => h9) rfl dX1_make_56 ?_
  refine lv_bipush (v := 8) hx hb dX1_make_59 (by decide) ?_
  refine lv_iadd hx hb dX1_make_61 ?_
  refine lv_topi (fun v9 ev9 => ?_)
  have ev9 : v9 = 8 := ev9.trans (by decide +kernel)
  subst ev9
  refine lv_bipush (v := 64) hx hb dX1_make_62 (by decide) ?_
  refine lv_idiv hx hb dX1_make_64 (by decide) ?_
  refine lv_topi (fun v10 ev10 => ?_)
  have ev10 : v10 = 0 := ev10.trans (by decide +kernel)
  subst ev10
  refine lv_iconst (v := 1) hx hb dX1_make_65 (by decide) ?_
  refine lv_iadd hx hb dX1_make_66 ?_
  refine lv_topi (fun v11 ev11 => ?_)
  have ev11 : v11 = 1 := ev11.trans (by decide +kernel)
  subst ev11
  refine lv_istore_n (lv' := [(3, .int 1), (0, .ref h0), (1, .int 2), (2, .ref sp)]) hx hb dX1_make_67 rfl hl (by decide) rfl (fun ls hl => ?_)
  refine lv_iconst (v := 0) hx hb dX1_make_68 (by decide) ?_
  refine lv_istore (lv' := [(4, .int 0), (3, .int 1), (0, .ref h0), (1, .int 2), (2, .ref sp)]) hx hb dX1_make_69 hl (by decide) rfl (fun ls hl => ?_)
  refine lv_iload hx hb dX1_make_71 (lv_at hl 0 rfl) ?_
  refine lv_iload_n hx hb dX1_make_73 rfl (lv_at hl 1 rfl) ?_
  refine lv_icmp_ge (tgt := 160) hx hb dX1_make_74 (by decide) (fun c9 => absurd c9 (by decide)) (fun _ => ?_)
  refine lv_iconst (v := 0) hx hb dX1_make_77 (by decide) ?_
  refine lv_istore (lv' := [(5, .int 0), (4, .int 0), (3, .int 1), (0, .ref h0), (1, .int 2), (2, .ref sp)]) hx hb dX1_make_78 hl (by decide) rfl (fun ls hl => ?_)
  refine lv_iload hx hb dX1_make_80 (lv_at hl 0 rfl) ?_
  refine lv_bipush (v := 16) hx hb dX1_make_82 (by decide) ?_
  refine lv_icmp_ge (tgt := 114) hx hb dX1_make_84 (by decide) (fun c9 => absurd c9 (by decide)) (fun _ => ?_)
  refine lv_aload_n hx hb dX1_make_87 rfl (lv_at hl 3 rfl) ?_
  refine va_get (D := D) (ci := 5) (v := .ref wd) (C := RX1) (T := TX1) (N := 3) hx hb hts (by decide +kernel) hown hK hP 0 rfl rfl 1 (by decide) (hts (.fieldLink RX1 15 "SignetRing$Digest" "words" "[I") (by decide +kernel)) (fun _ h9 => h9) rfl dX1_make_88 ?_
  refine lv_iload hx hb dX1_make_91 (lv_at hl 0 rfl) ?_
  refine lv_aload_n hx hb dX1_make_93 rfl (lv_at hl 5 rfl) ?_
  refine lv_bipush (v := 64) hx hb dX1_make_94 (by decide) ?_
  refine lv_iload hx hb dX1_make_96 (lv_at hl 1 rfl) ?_
  refine lv_imul hx hb dX1_make_98 ?_
  refine lv_topi (fun v12 ev12 => ?_)
  have ev12 : v12 = 0 := ev12.trans (by decide +kernel)
  subst ev12
  refine lv_iconst (v := 4) hx hb dX1_make_99 (by decide) ?_
  refine lv_iload hx hb dX1_make_100 (lv_at hl 0 rfl) ?_
  refine lv_imul hx hb dX1_make_102 ?_
  refine lv_topi (fun v13 ev13 => ?_)
  have ev13 : v13 = 0 := ev13.trans (by decide +kernel)
  subst ev13
  refine lv_iadd hx hb dX1_make_103 ?_
  refine lv_topi (fun v14 ev14 => ?_)
  have ev14 : v14 = 0 := ev14.trans (by decide +kernel)
  subst ev14
  have hPc := hP.sub (ws' := [(sp, .inr (4, [w2, .int 0, .int 0]))]) [3] rfl
  have hDc := hD.sub (ws' := [(sp, .inr (4, [w2, .int 0, .int 0]))]) [3] (by decide) rfl
  have hFc := va_free (wc := [(sp, .inr (4, [w2, .int 0, .int 0]))]) hD hS hA [3] rfl
  refine va_calli (va_runS (As := [.ref sp, .int 0]) (rest := [.int 0, .ref wd]) ⟨hx, hb, hml, hown, hts⟩ (c_X1_wordOf_0 l D y H.size sp w2) (va_cwS 2 hts gv_c_X1_make_1_c_X1_wordOf_0_34 rfl rfl rfl (by decide +kernel) ⟨(Nat.le_of_ble_eq_true rfl), (Nat.le_of_ble_eq_true rfl)⟩) (zB.preS hPc hDc hK hN hE hO hT hG hS hFc (fun _ h => nomatch h) (fun _ h => nomatch h) (fun _ h => nomatch h) (fun _ h => nomatch h)) rfl rfl hl.1 rfl (lv_room (Nat.le_of_ble_eq_true rfl)) dX1_make_104 ⟨(Nat.le_of_ble_eq_true rfl), (Nat.le_of_ble_eq_true rfl)⟩) hS (fun q _ h => hFc q h) hFc (fun r15 u t H1 locs ht hvm hw hB hz1 hk1 hS => ?_)
  obtain ⟨hP1, hD1⟩ := hB
  rw [ht] at hP1
  obtain ⟨hP, hD⟩ := va_join (wr := [(h0, .inr (5, [.ref st, .ref wd, .int 0])), (st, .inl (y 1, 8, .inl (zf tS1 8 f))), (wd, .inl (y 1, 80, .inl g))]) (w1 := [(sp, .inr (4, [w2, .int 0, .int 0]))]) hP hD [3] [0, 1, 2] rfl rfl (by decide) (by decide) hk1 hFc hP1 hD1
  generalize H1 = H at hP hS ⊢
  have hP : va_P D vwCl [(h0, .inr (5, [.ref st, .ref wd, .int 0])), (st, .inl (y 1, 8, .inl (zf tS1 8 f))), (wd, .inl (y 1, 80, .inl g)), (sp, .inr (4, [w2, .int 0, .int 0]))] H := hP
  have hD : va_D A [(h0, .inr (5, [.ref st, .ref wd, .int 0])), (st, .inl (y 1, 8, .inl (zf tS1 8 f))), (wd, .inl (y 1, 80, .inl g)), (sp, .inr (4, [w2, .int 0, .int 0]))] := hD
  have hw : r15 = -2147483648 := hw
  subst hw
  refine va_iast hx hb hK hP hD hS 2 1 rfl rfl (by unfold vp_in; decide) dX1_make_107 (fun H locs hP hD hS => ?_)
  have hP : va_P D vwCl [(h0, .inr (5, [.ref st, .ref wd, .int 0])), (st, .inl (y 1, 8, .inl (zf tS1 8 f))), (wd, .inl (y 1, 80, .inl (upd (zf tW1 0 g) (nI 0).toNatClampNeg (-2147483648 : Int32)))), (sp, .inr (4, [w2, .int 0, .int 0]))] H := hP
  have hD : va_D A [(h0, .inr (5, [.ref st, .ref wd, .int 0])), (st, .inl (y 1, 8, .inl (zf tS1 8 f))), (wd, .inl (y 1, 80, .inl (upd (zf tW1 0 g) (nI 0).toNatClampNeg (-2147483648 : Int32)))), (sp, .inr (4, [w2, .int 0, .int 0]))] := hD
  have u16 : upd (zf tW1 0 g) (nI 0).toNatClampNeg (-2147483648 : Int32) = zf tW1 1 g := (zf_st (n := 0) (by decide) (by decide +kernel))
  rw [u16] at hP hD
  have hP : va_P D vwCl [(h0, .inr (5, [.ref st, .ref wd, .int 0])), (st, .inl (y 1, 8, .inl (zf tS1 8 f))), (wd, .inl (y 1, 80, .inl (zf tW1 1 g))), (sp, .inr (4, [w2, .int 0, .int 0]))] H := hP
  have hD : va_D A [(h0, .inr (5, [.ref st, .ref wd, .int 0])), (st, .inl (y 1, 8, .inl (zf tS1 8 f))), (wd, .inl (y 1, 80, .inl (zf tW1 1 g))), (sp, .inr (4, [w2, .int 0, .int 0]))] := hD
  refine lv_iinc (v := 1) (lv' := [(5, .int 1), (4, .int 0), (3, .int 1), (0, .ref h0), (1, .int 2), (2, .ref sp)]) hx hb dX1_make_108 hl (k := 0) rfl (by decide) (by decide) rfl (fun ls hl => ?_)
  refine lv_goto (tgt := 80) hx hb dX1_make_111 (by decide) ?_
  refine lv_iload hx hb dX1_make_80 (lv_at hl 0 rfl) ?_
  refine lv_bipush (v := 16) hx hb dX1_make_82 (by decide) ?_
  refine lv_icmp_ge (tgt := 114) hx hb dX1_make_84 (by decide) (fun c9 => absurd c9 (by decide)) (fun _ => ?_)
  refine lv_aload_n hx hb dX1_make_87 rfl (lv_at hl 3 rfl) ?_
  refine va_get (D := D) (ci := 5) (v := .ref wd) (C := RX1) (T := TX1) (N := 3) hx hb hts (by decide +kernel) hown hK hP 0 rfl rfl 1 (by decide) (hts (.fieldLink RX1 15 "SignetRing$Digest" "words" "[I") (by decide +kernel)) (fun _ h9 => h9) rfl dX1_make_88 ?_
  refine lv_iload hx hb dX1_make_91 (lv_at hl 0 rfl) ?_
  refine lv_aload_n hx hb dX1_make_93 rfl (lv_at hl 5 rfl) ?_
  refine lv_bipush (v := 64) hx hb dX1_make_94 (by decide) ?_
  refine lv_iload hx hb dX1_make_96 (lv_at hl 1 rfl) ?_
  refine lv_imul hx hb dX1_make_98 ?_
  refine lv_topi (fun v17 ev17 => ?_)
  have ev17 : v17 = 0 := ev17.trans (by decide +kernel)
  subst ev17
  refine lv_iconst (v := 4) hx hb dX1_make_99 (by decide) ?_
  refine lv_iload hx hb dX1_make_100 (lv_at hl 0 rfl) ?_
  refine lv_imul hx hb dX1_make_102 ?_
  refine lv_topi (fun v18 ev18 => ?_)
  have ev18 : v18 = 4 := ev18.trans (by decide +kernel)
  subst ev18
  refine lv_iadd hx hb dX1_make_103 ?_
  refine lv_topi (fun v19 ev19 => ?_)
  have ev19 : v19 = 4 := ev19.trans (by decide +kernel)
  subst ev19
  have hPc := hP.sub (ws' := [(sp, .inr (4, [w2, .int 0, .int 0]))]) [3] rfl
  have hDc := hD.sub (ws' := [(sp, .inr (4, [w2, .int 0, .int 0]))]) [3] (by decide) rfl
  have hFc := va_free (wc := [(sp, .inr (4, [w2, .int 0, .int 0]))]) hD hS hA [3] rfl
  refine va_calli (va_runS (As := [.ref sp, .int 4]) (rest := [.int 1, .ref wd]) ⟨hx, hb, hml, hown, hts⟩ (c_X1_wordOf_4 l D y H.size sp w2) (va_cwS 2 hts gv_c_X1_make_1_c_X1_wordOf_4_34 rfl rfl rfl (by decide +kernel) ⟨(Nat.le_of_ble_eq_true rfl), (Nat.le_of_ble_eq_true rfl)⟩) (zB.preS hPc hDc hK hN hE hO hT hG hS hFc (fun _ h => nomatch h) (fun _ h => nomatch h) (fun _ h => nomatch h) (fun _ h => nomatch h)) rfl rfl hl.1 rfl (lv_room (Nat.le_of_ble_eq_true rfl)) dX1_make_104 ⟨(Nat.le_of_ble_eq_true rfl), (Nat.le_of_ble_eq_true rfl)⟩) hS (fun q _ h => hFc q h) hFc (fun r20 u t H1 locs ht hvm hw hB hz1 hk1 hS => ?_)
  obtain ⟨hP1, hD1⟩ := hB
  rw [ht] at hP1
  obtain ⟨hP, hD⟩ := va_join (wr := [(h0, .inr (5, [.ref st, .ref wd, .int 0])), (st, .inl (y 1, 8, .inl (zf tS1 8 f))), (wd, .inl (y 1, 80, .inl (zf tW1 1 g)))]) (w1 := [(sp, .inr (4, [w2, .int 0, .int 0]))]) hP hD [3] [0, 1, 2] rfl rfl (by decide) (by decide) hk1 hFc hP1 hD1
  generalize H1 = H at hP hS ⊢
  have hP : va_P D vwCl [(h0, .inr (5, [.ref st, .ref wd, .int 0])), (st, .inl (y 1, 8, .inl (zf tS1 8 f))), (wd, .inl (y 1, 80, .inl (zf tW1 1 g))), (sp, .inr (4, [w2, .int 0, .int 0]))] H := hP
  have hD : va_D A [(h0, .inr (5, [.ref st, .ref wd, .int 0])), (st, .inl (y 1, 8, .inl (zf tS1 8 f))), (wd, .inl (y 1, 80, .inl (zf tW1 1 g))), (sp, .inr (4, [w2, .int 0, .int 0]))] := hD
  have hw : r20 = 0 := hw
  subst hw
  refine va_iast hx hb hK hP hD hS 2 1 rfl rfl (by unfold vp_in; decide) dX1_make_107 (fun H locs hP hD hS => ?_)
  have hP : va_P D vwCl [(h0, .inr (5, [.ref st, .ref wd, .int 0])), (st, .inl (y 1, 8, .inl (zf tS1 8 f))), (wd, .inl (y 1, 80, .inl (upd (zf tW1 1 g) (nI 1).toNatClampNeg (0 : Int32)))), (sp, .inr (4, [w2, .int 0, .int 0]))] H := hP
  have hD : va_D A [(h0, .inr (5, [.ref st, .ref wd, .int 0])), (st, .inl (y 1, 8, .inl (zf tS1 8 f))), (wd, .inl (y 1, 80, .inl (upd (zf tW1 1 g) (nI 1).toNatClampNeg (0 : Int32)))), (sp, .inr (4, [w2, .int 0, .int 0]))] := hD
  have u21 : upd (zf tW1 1 g) (nI 1).toNatClampNeg (0 : Int32) = zf tW1 2 g := (zf_st (n := 1) (by decide) (by decide +kernel))
  rw [u21] at hP hD
  have hP : va_P D vwCl [(h0, .inr (5, [.ref st, .ref wd, .int 0])), (st, .inl (y 1, 8, .inl (zf tS1 8 f))), (wd, .inl (y 1, 80, .inl (zf tW1 2 g))), (sp, .inr (4, [w2, .int 0, .int 0]))] H := hP
  have hD : va_D A [(h0, .inr (5, [.ref st, .ref wd, .int 0])), (st, .inl (y 1, 8, .inl (zf tS1 8 f))), (wd, .inl (y 1, 80, .inl (zf tW1 2 g))), (sp, .inr (4, [w2, .int 0, .int 0]))] := hD
  refine lv_iinc (v := 2) (lv' := [(5, .int 2), (4, .int 0), (3, .int 1), (0, .ref h0), (1, .int 2), (2, .ref sp)]) hx hb dX1_make_108 hl (k := 0) rfl (by decide) (by decide) rfl (fun ls hl => ?_)
  refine lv_goto (tgt := 80) hx hb dX1_make_111 (by decide) ?_
  refine lv_iload hx hb dX1_make_80 (lv_at hl 0 rfl) ?_
  refine lv_bipush (v := 16) hx hb dX1_make_82 (by decide) ?_
  refine lv_icmp_ge (tgt := 114) hx hb dX1_make_84 (by decide) (fun c9 => absurd c9 (by decide)) (fun _ => ?_)
  refine lv_aload_n hx hb dX1_make_87 rfl (lv_at hl 3 rfl) ?_
  refine va_get (D := D) (ci := 5) (v := .ref wd) (C := RX1) (T := TX1) (N := 3) hx hb hts (by decide +kernel) hown hK hP 0 rfl rfl 1 (by decide) (hts (.fieldLink RX1 15 "SignetRing$Digest" "words" "[I") (by decide +kernel)) (fun _ h9 => h9) rfl dX1_make_88 ?_
  refine lv_iload hx hb dX1_make_91 (lv_at hl 0 rfl) ?_
  refine lv_aload_n hx hb dX1_make_93 rfl (lv_at hl 5 rfl) ?_
  refine lv_bipush (v := 64) hx hb dX1_make_94 (by decide) ?_
  refine lv_iload hx hb dX1_make_96 (lv_at hl 1 rfl) ?_
  refine lv_imul hx hb dX1_make_98 ?_
  refine lv_topi (fun v22 ev22 => ?_)
  have ev22 : v22 = 0 := ev22.trans (by decide +kernel)
  subst ev22
  refine lv_iconst (v := 4) hx hb dX1_make_99 (by decide) ?_
  refine lv_iload hx hb dX1_make_100 (lv_at hl 0 rfl) ?_
  refine lv_imul hx hb dX1_make_102 ?_
  refine lv_topi (fun v23 ev23 => ?_)
  have ev23 : v23 = 8 := ev23.trans (by decide +kernel)
  subst ev23
  refine lv_iadd hx hb dX1_make_103 ?_
  refine lv_topi (fun v24 ev24 => ?_)
  have ev24 : v24 = 8 := ev24.trans (by decide +kernel)
  subst ev24
  have hPc := hP.sub (ws' := [(sp, .inr (4, [w2, .int 0, .int 0]))]) [3] rfl
  have hDc := hD.sub (ws' := [(sp, .inr (4, [w2, .int 0, .int 0]))]) [3] (by decide) rfl
  have hFc := va_free (wc := [(sp, .inr (4, [w2, .int 0, .int 0]))]) hD hS hA [3] rfl
  refine va_calli (va_runS (As := [.ref sp, .int 8]) (rest := [.int 2, .ref wd]) ⟨hx, hb, hml, hown, hts⟩ (c_X1_wordOf_8 l D y H.size sp w2) (va_cwS 2 hts gv_c_X1_make_1_c_X1_wordOf_8_34 rfl rfl rfl (by decide +kernel) ⟨(Nat.le_of_ble_eq_true rfl), (Nat.le_of_ble_eq_true rfl)⟩) (zB.preS hPc hDc hK hN hE hO hT hG hS hFc (fun _ h => nomatch h) (fun _ h => nomatch h) (fun _ h => nomatch h) (fun _ h => nomatch h)) rfl rfl hl.1 rfl (lv_room (Nat.le_of_ble_eq_true rfl)) dX1_make_104 ⟨(Nat.le_of_ble_eq_true rfl), (Nat.le_of_ble_eq_true rfl)⟩) hS (fun q _ h => hFc q h) hFc (fun r25 u t H1 locs ht hvm hw hB hz1 hk1 hS => ?_)
  obtain ⟨hP1, hD1⟩ := hB
  rw [ht] at hP1
  obtain ⟨hP, hD⟩ := va_join (wr := [(h0, .inr (5, [.ref st, .ref wd, .int 0])), (st, .inl (y 1, 8, .inl (zf tS1 8 f))), (wd, .inl (y 1, 80, .inl (zf tW1 2 g)))]) (w1 := [(sp, .inr (4, [w2, .int 0, .int 0]))]) hP hD [3] [0, 1, 2] rfl rfl (by decide) (by decide) hk1 hFc hP1 hD1
  generalize H1 = H at hP hS ⊢
  have hP : va_P D vwCl [(h0, .inr (5, [.ref st, .ref wd, .int 0])), (st, .inl (y 1, 8, .inl (zf tS1 8 f))), (wd, .inl (y 1, 80, .inl (zf tW1 2 g))), (sp, .inr (4, [w2, .int 0, .int 0]))] H := hP
  have hD : va_D A [(h0, .inr (5, [.ref st, .ref wd, .int 0])), (st, .inl (y 1, 8, .inl (zf tS1 8 f))), (wd, .inl (y 1, 80, .inl (zf tW1 2 g))), (sp, .inr (4, [w2, .int 0, .int 0]))] := hD
  have hw : r25 = 0 := hw
  subst hw
  refine va_iast hx hb hK hP hD hS 2 1 rfl rfl (by unfold vp_in; decide) dX1_make_107 (fun H locs hP hD hS => ?_)
  have hP : va_P D vwCl [(h0, .inr (5, [.ref st, .ref wd, .int 0])), (st, .inl (y 1, 8, .inl (zf tS1 8 f))), (wd, .inl (y 1, 80, .inl (upd (zf tW1 2 g) (nI 2).toNatClampNeg (0 : Int32)))), (sp, .inr (4, [w2, .int 0, .int 0]))] H := hP
  have hD : va_D A [(h0, .inr (5, [.ref st, .ref wd, .int 0])), (st, .inl (y 1, 8, .inl (zf tS1 8 f))), (wd, .inl (y 1, 80, .inl (upd (zf tW1 2 g) (nI 2).toNatClampNeg (0 : Int32)))), (sp, .inr (4, [w2, .int 0, .int 0]))] := hD
  have u26 : upd (zf tW1 2 g) (nI 2).toNatClampNeg (0 : Int32) = zf tW1 3 g := (zf_st (n := 2) (by decide) (by decide +kernel))
  rw [u26] at hP hD
  have hP : va_P D vwCl [(h0, .inr (5, [.ref st, .ref wd, .int 0])), (st, .inl (y 1, 8, .inl (zf tS1 8 f))), (wd, .inl (y 1, 80, .inl (zf tW1 3 g))), (sp, .inr (4, [w2, .int 0, .int 0]))] H := hP
  have hD : va_D A [(h0, .inr (5, [.ref st, .ref wd, .int 0])), (st, .inl (y 1, 8, .inl (zf tS1 8 f))), (wd, .inl (y 1, 80, .inl (zf tW1 3 g))), (sp, .inr (4, [w2, .int 0, .int 0]))] := hD
  refine lv_iinc (v := 3) (lv' := [(5, .int 3), (4, .int 0), (3, .int 1), (0, .ref h0), (1, .int 2), (2, .ref sp)]) hx hb dX1_make_108 hl (k := 0) rfl (by decide) (by decide) rfl (fun ls hl => ?_)
  refine lv_goto (tgt := 80) hx hb dX1_make_111 (by decide) ?_
  refine lv_iload hx hb dX1_make_80 (lv_at hl 0 rfl) ?_
  refine lv_bipush (v := 16) hx hb dX1_make_82 (by decide) ?_
  refine lv_icmp_ge (tgt := 114) hx hb dX1_make_84 (by decide) (fun c9 => absurd c9 (by decide)) (fun _ => ?_)
  refine lv_aload_n hx hb dX1_make_87 rfl (lv_at hl 3 rfl) ?_
  refine va_get (D := D) (ci := 5) (v := .ref wd) (C := RX1) (T := TX1) (N := 3) hx hb hts (by decide +kernel) hown hK hP 0 rfl rfl 1 (by decide) (hts (.fieldLink RX1 15 "SignetRing$Digest" "words" "[I") (by decide +kernel)) (fun _ h9 => h9) rfl dX1_make_88 ?_
  refine lv_iload hx hb dX1_make_91 (lv_at hl 0 rfl) ?_
  refine lv_aload_n hx hb dX1_make_93 rfl (lv_at hl 5 rfl) ?_
  refine lv_bipush (v := 64) hx hb dX1_make_94 (by decide) ?_
  refine lv_iload hx hb dX1_make_96 (lv_at hl 1 rfl) ?_
  refine lv_imul hx hb dX1_make_98 ?_
  refine lv_topi (fun v27 ev27 => ?_)
  have ev27 : v27 = 0 := ev27.trans (by decide +kernel)
  subst ev27
  refine lv_iconst (v := 4) hx hb dX1_make_99 (by decide) ?_
  refine lv_iload hx hb dX1_make_100 (lv_at hl 0 rfl) ?_
  refine lv_imul hx hb dX1_make_102 ?_
  refine lv_topi (fun v28 ev28 => ?_)
  have ev28 : v28 = 12 := ev28.trans (by decide +kernel)
  subst ev28
  refine lv_iadd hx hb dX1_make_103 ?_
  refine lv_topi (fun v29 ev29 => ?_)
  have ev29 : v29 = 12 := ev29.trans (by decide +kernel)
  subst ev29
  have hPc := hP.sub (ws' := [(sp, .inr (4, [w2, .int 0, .int 0]))]) [3] rfl
  have hDc := hD.sub (ws' := [(sp, .inr (4, [w2, .int 0, .int 0]))]) [3] (by decide) rfl
  have hFc := va_free (wc := [(sp, .inr (4, [w2, .int 0, .int 0]))]) hD hS hA [3] rfl
  refine va_calli (va_runS (As := [.ref sp, .int 12]) (rest := [.int 3, .ref wd]) ⟨hx, hb, hml, hown, hts⟩ (c_X1_wordOf_12 l D y H.size sp w2) (va_cwS 2 hts gv_c_X1_make_1_c_X1_wordOf_12_34 rfl rfl rfl (by decide +kernel) ⟨(Nat.le_of_ble_eq_true rfl), (Nat.le_of_ble_eq_true rfl)⟩) (zB.preS hPc hDc hK hN hE hO hT hG hS hFc (fun _ h => nomatch h) (fun _ h => nomatch h) (fun _ h => nomatch h) (fun _ h => nomatch h)) rfl rfl hl.1 rfl (lv_room (Nat.le_of_ble_eq_true rfl)) dX1_make_104 ⟨(Nat.le_of_ble_eq_true rfl), (Nat.le_of_ble_eq_true rfl)⟩) hS (fun q _ h => hFc q h) hFc (fun r30 u t H1 locs ht hvm hw hB hz1 hk1 hS => ?_)
  obtain ⟨hP1, hD1⟩ := hB
  rw [ht] at hP1
  obtain ⟨hP, hD⟩ := va_join (wr := [(h0, .inr (5, [.ref st, .ref wd, .int 0])), (st, .inl (y 1, 8, .inl (zf tS1 8 f))), (wd, .inl (y 1, 80, .inl (zf tW1 3 g)))]) (w1 := [(sp, .inr (4, [w2, .int 0, .int 0]))]) hP hD [3] [0, 1, 2] rfl rfl (by decide) (by decide) hk1 hFc hP1 hD1
  generalize H1 = H at hP hS ⊢
  have hP : va_P D vwCl [(h0, .inr (5, [.ref st, .ref wd, .int 0])), (st, .inl (y 1, 8, .inl (zf tS1 8 f))), (wd, .inl (y 1, 80, .inl (zf tW1 3 g))), (sp, .inr (4, [w2, .int 0, .int 0]))] H := hP
  have hD : va_D A [(h0, .inr (5, [.ref st, .ref wd, .int 0])), (st, .inl (y 1, 8, .inl (zf tS1 8 f))), (wd, .inl (y 1, 80, .inl (zf tW1 3 g))), (sp, .inr (4, [w2, .int 0, .int 0]))] := hD
  have hw : r30 = 0 := hw
  subst hw
  refine va_iast hx hb hK hP hD hS 2 1 rfl rfl (by unfold vp_in; decide) dX1_make_107 (fun H locs hP hD hS => ?_)
  have hP : va_P D vwCl [(h0, .inr (5, [.ref st, .ref wd, .int 0])), (st, .inl (y 1, 8, .inl (zf tS1 8 f))), (wd, .inl (y 1, 80, .inl (upd (zf tW1 3 g) (nI 3).toNatClampNeg (0 : Int32)))), (sp, .inr (4, [w2, .int 0, .int 0]))] H := hP
  have hD : va_D A [(h0, .inr (5, [.ref st, .ref wd, .int 0])), (st, .inl (y 1, 8, .inl (zf tS1 8 f))), (wd, .inl (y 1, 80, .inl (upd (zf tW1 3 g) (nI 3).toNatClampNeg (0 : Int32)))), (sp, .inr (4, [w2, .int 0, .int 0]))] := hD
  have u31 : upd (zf tW1 3 g) (nI 3).toNatClampNeg (0 : Int32) = zf tW1 4 g := (zf_st (n := 3) (by decide) (by decide +kernel))
  rw [u31] at hP hD
  have hP : va_P D vwCl [(h0, .inr (5, [.ref st, .ref wd, .int 0])), (st, .inl (y 1, 8, .inl (zf tS1 8 f))), (wd, .inl (y 1, 80, .inl (zf tW1 4 g))), (sp, .inr (4, [w2, .int 0, .int 0]))] H := hP
  have hD : va_D A [(h0, .inr (5, [.ref st, .ref wd, .int 0])), (st, .inl (y 1, 8, .inl (zf tS1 8 f))), (wd, .inl (y 1, 80, .inl (zf tW1 4 g))), (sp, .inr (4, [w2, .int 0, .int 0]))] := hD
  refine lv_iinc (v := 4) (lv' := [(5, .int 4), (4, .int 0), (3, .int 1), (0, .ref h0), (1, .int 2), (2, .ref sp)]) hx hb dX1_make_108 hl (k := 0) rfl (by decide) (by decide) rfl (fun ls hl => ?_)
  refine lv_goto (tgt := 80) hx hb dX1_make_111 (by decide) ?_
  refine lv_iload hx hb dX1_make_80 (lv_at hl 0 rfl) ?_
  refine lv_bipush (v := 16) hx hb dX1_make_82 (by decide) ?_
  refine lv_icmp_ge (tgt := 114) hx hb dX1_make_84 (by decide) (fun c9 => absurd c9 (by decide)) (fun _ => ?_)
  refine lv_aload_n hx hb dX1_make_87 rfl (lv_at hl 3 rfl) ?_
  refine va_get (D := D) (ci := 5) (v := .ref wd) (C := RX1) (T := TX1) (N := 3) hx hb hts (by decide +kernel) hown hK hP 0 rfl rfl 1 (by decide) (hts (.fieldLink RX1 15 "SignetRing$Digest" "words" "[I") (by decide +kernel)) (fun _ h9 => h9) rfl dX1_make_88 ?_
  refine lv_iload hx hb dX1_make_91 (lv_at hl 0 rfl) ?_
  refine lv_aload_n hx hb dX1_make_93 rfl (lv_at hl 5 rfl) ?_
  refine lv_bipush (v := 64) hx hb dX1_make_94 (by decide) ?_
  refine lv_iload hx hb dX1_make_96 (lv_at hl 1 rfl) ?_
  refine lv_imul hx hb dX1_make_98 ?_
  refine lv_topi (fun v32 ev32 => ?_)
  have ev32 : v32 = 0 := ev32.trans (by decide +kernel)
  subst ev32
  refine lv_iconst (v := 4) hx hb dX1_make_99 (by decide) ?_
  refine lv_iload hx hb dX1_make_100 (lv_at hl 0 rfl) ?_
  refine lv_imul hx hb dX1_make_102 ?_
  refine lv_topi (fun v33 ev33 => ?_)
  have ev33 : v33 = 16 := ev33.trans (by decide +kernel)
  subst ev33
  refine lv_iadd hx hb dX1_make_103 ?_
  refine lv_topi (fun v34 ev34 => ?_)
  have ev34 : v34 = 16 := ev34.trans (by decide +kernel)
  subst ev34
  have hPc := hP.sub (ws' := [(sp, .inr (4, [w2, .int 0, .int 0]))]) [3] rfl
  have hDc := hD.sub (ws' := [(sp, .inr (4, [w2, .int 0, .int 0]))]) [3] (by decide) rfl
  have hFc := va_free (wc := [(sp, .inr (4, [w2, .int 0, .int 0]))]) hD hS hA [3] rfl
  refine va_calli (va_runS (As := [.ref sp, .int 16]) (rest := [.int 4, .ref wd]) ⟨hx, hb, hml, hown, hts⟩ (c_X1_wordOf_16 l D y H.size sp w2) (va_cwS 2 hts gv_c_X1_make_1_c_X1_wordOf_16_34 rfl rfl rfl (by decide +kernel) ⟨(Nat.le_of_ble_eq_true rfl), (Nat.le_of_ble_eq_true rfl)⟩) (zB.preS hPc hDc hK hN hE hO hT hG hS hFc (fun _ h => nomatch h) (fun _ h => nomatch h) (fun _ h => nomatch h) (fun _ h => nomatch h)) rfl rfl hl.1 rfl (lv_room (Nat.le_of_ble_eq_true rfl)) dX1_make_104 ⟨(Nat.le_of_ble_eq_true rfl), (Nat.le_of_ble_eq_true rfl)⟩) hS (fun q _ h => hFc q h) hFc (fun r35 u t H1 locs ht hvm hw hB hz1 hk1 hS => ?_)
  obtain ⟨hP1, hD1⟩ := hB
  rw [ht] at hP1
  obtain ⟨hP, hD⟩ := va_join (wr := [(h0, .inr (5, [.ref st, .ref wd, .int 0])), (st, .inl (y 1, 8, .inl (zf tS1 8 f))), (wd, .inl (y 1, 80, .inl (zf tW1 4 g)))]) (w1 := [(sp, .inr (4, [w2, .int 0, .int 0]))]) hP hD [3] [0, 1, 2] rfl rfl (by decide) (by decide) hk1 hFc hP1 hD1
  generalize H1 = H at hP hS ⊢
  have hP : va_P D vwCl [(h0, .inr (5, [.ref st, .ref wd, .int 0])), (st, .inl (y 1, 8, .inl (zf tS1 8 f))), (wd, .inl (y 1, 80, .inl (zf tW1 4 g))), (sp, .inr (4, [w2, .int 0, .int 0]))] H := hP
  have hD : va_D A [(h0, .inr (5, [.ref st, .ref wd, .int 0])), (st, .inl (y 1, 8, .inl (zf tS1 8 f))), (wd, .inl (y 1, 80, .inl (zf tW1 4 g))), (sp, .inr (4, [w2, .int 0, .int 0]))] := hD
  have hw : r35 = 0 := hw
  subst hw
  refine va_iast hx hb hK hP hD hS 2 1 rfl rfl (by unfold vp_in; decide) dX1_make_107 (fun H locs hP hD hS => ?_)
  have hP : va_P D vwCl [(h0, .inr (5, [.ref st, .ref wd, .int 0])), (st, .inl (y 1, 8, .inl (zf tS1 8 f))), (wd, .inl (y 1, 80, .inl (upd (zf tW1 4 g) (nI 4).toNatClampNeg (0 : Int32)))), (sp, .inr (4, [w2, .int 0, .int 0]))] H := hP
  have hD : va_D A [(h0, .inr (5, [.ref st, .ref wd, .int 0])), (st, .inl (y 1, 8, .inl (zf tS1 8 f))), (wd, .inl (y 1, 80, .inl (upd (zf tW1 4 g) (nI 4).toNatClampNeg (0 : Int32)))), (sp, .inr (4, [w2, .int 0, .int 0]))] := hD
  have u36 : upd (zf tW1 4 g) (nI 4).toNatClampNeg (0 : Int32) = zf tW1 5 g := (zf_st (n := 4) (by decide) (by decide +kernel))
  rw [u36] at hP hD
  have hP : va_P D vwCl [(h0, .inr (5, [.ref st, .ref wd, .int 0])), (st, .inl (y 1, 8, .inl (zf tS1 8 f))), (wd, .inl (y 1, 80, .inl (zf tW1 5 g))), (sp, .inr (4, [w2, .int 0, .int 0]))] H := hP
  have hD : va_D A [(h0, .inr (5, [.ref st, .ref wd, .int 0])), (st, .inl (y 1, 8, .inl (zf tS1 8 f))), (wd, .inl (y 1, 80, .inl (zf tW1 5 g))), (sp, .inr (4, [w2, .int 0, .int 0]))] := hD
  refine lv_iinc (v := 5) (lv' := [(5, .int 5), (4, .int 0), (3, .int 1), (0, .ref h0), (1, .int 2), (2, .ref sp)]) hx hb dX1_make_108 hl (k := 0) rfl (by decide) (by decide) rfl (fun ls hl => ?_)
  refine lv_goto (tgt := 80) hx hb dX1_make_111 (by decide) ?_
  refine lv_iload hx hb dX1_make_80 (lv_at hl 0 rfl) ?_
  refine lv_bipush (v := 16) hx hb dX1_make_82 (by decide) ?_
  refine lv_icmp_ge (tgt := 114) hx hb dX1_make_84 (by decide) (fun c9 => absurd c9 (by decide)) (fun _ => ?_)
  refine lv_aload_n hx hb dX1_make_87 rfl (lv_at hl 3 rfl) ?_
  refine va_get (D := D) (ci := 5) (v := .ref wd) (C := RX1) (T := TX1) (N := 3) hx hb hts (by decide +kernel) hown hK hP 0 rfl rfl 1 (by decide) (hts (.fieldLink RX1 15 "SignetRing$Digest" "words" "[I") (by decide +kernel)) (fun _ h9 => h9) rfl dX1_make_88 ?_
  refine lv_iload hx hb dX1_make_91 (lv_at hl 0 rfl) ?_
  refine lv_aload_n hx hb dX1_make_93 rfl (lv_at hl 5 rfl) ?_
  refine lv_bipush (v := 64) hx hb dX1_make_94 (by decide) ?_
  refine lv_iload hx hb dX1_make_96 (lv_at hl 1 rfl) ?_
  refine lv_imul hx hb dX1_make_98 ?_
  refine lv_topi (fun v37 ev37 => ?_)
  have ev37 : v37 = 0 := ev37.trans (by decide +kernel)
  subst ev37
  refine lv_iconst (v := 4) hx hb dX1_make_99 (by decide) ?_
  refine lv_iload hx hb dX1_make_100 (lv_at hl 0 rfl) ?_
  refine lv_imul hx hb dX1_make_102 ?_
  refine lv_topi (fun v38 ev38 => ?_)
  have ev38 : v38 = 20 := ev38.trans (by decide +kernel)
  subst ev38
  refine lv_iadd hx hb dX1_make_103 ?_
  refine lv_topi (fun v39 ev39 => ?_)
  have ev39 : v39 = 20 := ev39.trans (by decide +kernel)
  subst ev39
  have hPc := hP.sub (ws' := [(sp, .inr (4, [w2, .int 0, .int 0]))]) [3] rfl
  have hDc := hD.sub (ws' := [(sp, .inr (4, [w2, .int 0, .int 0]))]) [3] (by decide) rfl
  have hFc := va_free (wc := [(sp, .inr (4, [w2, .int 0, .int 0]))]) hD hS hA [3] rfl
  refine va_calli (va_runS (As := [.ref sp, .int 20]) (rest := [.int 5, .ref wd]) ⟨hx, hb, hml, hown, hts⟩ (c_X1_wordOf_20 l D y H.size sp w2) (va_cwS 2 hts gv_c_X1_make_1_c_X1_wordOf_20_34 rfl rfl rfl (by decide +kernel) ⟨(Nat.le_of_ble_eq_true rfl), (Nat.le_of_ble_eq_true rfl)⟩) (zB.preS hPc hDc hK hN hE hO hT hG hS hFc (fun _ h => nomatch h) (fun _ h => nomatch h) (fun _ h => nomatch h) (fun _ h => nomatch h)) rfl rfl hl.1 rfl (lv_room (Nat.le_of_ble_eq_true rfl)) dX1_make_104 ⟨(Nat.le_of_ble_eq_true rfl), (Nat.le_of_ble_eq_true rfl)⟩) hS (fun q _ h => hFc q h) hFc (fun r40 u t H1 locs ht hvm hw hB hz1 hk1 hS => ?_)
  obtain ⟨hP1, hD1⟩ := hB
  rw [ht] at hP1
  obtain ⟨hP, hD⟩ := va_join (wr := [(h0, .inr (5, [.ref st, .ref wd, .int 0])), (st, .inl (y 1, 8, .inl (zf tS1 8 f))), (wd, .inl (y 1, 80, .inl (zf tW1 5 g)))]) (w1 := [(sp, .inr (4, [w2, .int 0, .int 0]))]) hP hD [3] [0, 1, 2] rfl rfl (by decide) (by decide) hk1 hFc hP1 hD1
  generalize H1 = H at hP hS ⊢
  have hP : va_P D vwCl [(h0, .inr (5, [.ref st, .ref wd, .int 0])), (st, .inl (y 1, 8, .inl (zf tS1 8 f))), (wd, .inl (y 1, 80, .inl (zf tW1 5 g))), (sp, .inr (4, [w2, .int 0, .int 0]))] H := hP
  have hD : va_D A [(h0, .inr (5, [.ref st, .ref wd, .int 0])), (st, .inl (y 1, 8, .inl (zf tS1 8 f))), (wd, .inl (y 1, 80, .inl (zf tW1 5 g))), (sp, .inr (4, [w2, .int 0, .int 0]))] := hD
  have hw : r40 = 0 := hw
  subst hw
  refine va_iast hx hb hK hP hD hS 2 1 rfl rfl (by unfold vp_in; decide) dX1_make_107 (fun H locs hP hD hS => ?_)
  have hP : va_P D vwCl [(h0, .inr (5, [.ref st, .ref wd, .int 0])), (st, .inl (y 1, 8, .inl (zf tS1 8 f))), (wd, .inl (y 1, 80, .inl (upd (zf tW1 5 g) (nI 5).toNatClampNeg (0 : Int32)))), (sp, .inr (4, [w2, .int 0, .int 0]))] H := hP
  have hD : va_D A [(h0, .inr (5, [.ref st, .ref wd, .int 0])), (st, .inl (y 1, 8, .inl (zf tS1 8 f))), (wd, .inl (y 1, 80, .inl (upd (zf tW1 5 g) (nI 5).toNatClampNeg (0 : Int32)))), (sp, .inr (4, [w2, .int 0, .int 0]))] := hD
  have u41 : upd (zf tW1 5 g) (nI 5).toNatClampNeg (0 : Int32) = zf tW1 6 g := (zf_st (n := 5) (by decide) (by decide +kernel))
  rw [u41] at hP hD
  have hP : va_P D vwCl [(h0, .inr (5, [.ref st, .ref wd, .int 0])), (st, .inl (y 1, 8, .inl (zf tS1 8 f))), (wd, .inl (y 1, 80, .inl (zf tW1 6 g))), (sp, .inr (4, [w2, .int 0, .int 0]))] H := hP
  have hD : va_D A [(h0, .inr (5, [.ref st, .ref wd, .int 0])), (st, .inl (y 1, 8, .inl (zf tS1 8 f))), (wd, .inl (y 1, 80, .inl (zf tW1 6 g))), (sp, .inr (4, [w2, .int 0, .int 0]))] := hD
  refine lv_iinc (v := 6) (lv' := [(5, .int 6), (4, .int 0), (3, .int 1), (0, .ref h0), (1, .int 2), (2, .ref sp)]) hx hb dX1_make_108 hl (k := 0) rfl (by decide) (by decide) rfl (fun ls hl => ?_)
  refine lv_goto (tgt := 80) hx hb dX1_make_111 (by decide) ?_
  refine lv_iload hx hb dX1_make_80 (lv_at hl 0 rfl) ?_
  refine lv_bipush (v := 16) hx hb dX1_make_82 (by decide) ?_
  refine lv_icmp_ge (tgt := 114) hx hb dX1_make_84 (by decide) (fun c9 => absurd c9 (by decide)) (fun _ => ?_)
  refine lv_aload_n hx hb dX1_make_87 rfl (lv_at hl 3 rfl) ?_
  refine va_get (D := D) (ci := 5) (v := .ref wd) (C := RX1) (T := TX1) (N := 3) hx hb hts (by decide +kernel) hown hK hP 0 rfl rfl 1 (by decide) (hts (.fieldLink RX1 15 "SignetRing$Digest" "words" "[I") (by decide +kernel)) (fun _ h9 => h9) rfl dX1_make_88 ?_
  refine lv_iload hx hb dX1_make_91 (lv_at hl 0 rfl) ?_
  refine lv_aload_n hx hb dX1_make_93 rfl (lv_at hl 5 rfl) ?_
  refine lv_bipush (v := 64) hx hb dX1_make_94 (by decide) ?_
  refine lv_iload hx hb dX1_make_96 (lv_at hl 1 rfl) ?_
  refine lv_imul hx hb dX1_make_98 ?_
  refine lv_topi (fun v42 ev42 => ?_)
  have ev42 : v42 = 0 := ev42.trans (by decide +kernel)
  subst ev42
  refine lv_iconst (v := 4) hx hb dX1_make_99 (by decide) ?_
  refine lv_iload hx hb dX1_make_100 (lv_at hl 0 rfl) ?_
  refine lv_imul hx hb dX1_make_102 ?_
  refine lv_topi (fun v43 ev43 => ?_)
  have ev43 : v43 = 24 := ev43.trans (by decide +kernel)
  subst ev43
  refine lv_iadd hx hb dX1_make_103 ?_
  refine lv_topi (fun v44 ev44 => ?_)
  have ev44 : v44 = 24 := ev44.trans (by decide +kernel)
  subst ev44
  have hPc := hP.sub (ws' := [(sp, .inr (4, [w2, .int 0, .int 0]))]) [3] rfl
  have hDc := hD.sub (ws' := [(sp, .inr (4, [w2, .int 0, .int 0]))]) [3] (by decide) rfl
  have hFc := va_free (wc := [(sp, .inr (4, [w2, .int 0, .int 0]))]) hD hS hA [3] rfl
  refine va_calli (va_runS (As := [.ref sp, .int 24]) (rest := [.int 6, .ref wd]) ⟨hx, hb, hml, hown, hts⟩ (c_X1_wordOf_24 l D y H.size sp w2) (va_cwS 2 hts gv_c_X1_make_1_c_X1_wordOf_24_34 rfl rfl rfl (by decide +kernel) ⟨(Nat.le_of_ble_eq_true rfl), (Nat.le_of_ble_eq_true rfl)⟩) (zB.preS hPc hDc hK hN hE hO hT hG hS hFc (fun _ h => nomatch h) (fun _ h => nomatch h) (fun _ h => nomatch h) (fun _ h => nomatch h)) rfl rfl hl.1 rfl (lv_room (Nat.le_of_ble_eq_true rfl)) dX1_make_104 ⟨(Nat.le_of_ble_eq_true rfl), (Nat.le_of_ble_eq_true rfl)⟩) hS (fun q _ h => hFc q h) hFc (fun r45 u t H1 locs ht hvm hw hB hz1 hk1 hS => ?_)
  obtain ⟨hP1, hD1⟩ := hB
  rw [ht] at hP1
  obtain ⟨hP, hD⟩ := va_join (wr := [(h0, .inr (5, [.ref st, .ref wd, .int 0])), (st, .inl (y 1, 8, .inl (zf tS1 8 f))), (wd, .inl (y 1, 80, .inl (zf tW1 6 g)))]) (w1 := [(sp, .inr (4, [w2, .int 0, .int 0]))]) hP hD [3] [0, 1, 2] rfl rfl (by decide) (by decide) hk1 hFc hP1 hD1
  generalize H1 = H at hP hS ⊢
  have hP : va_P D vwCl [(h0, .inr (5, [.ref st, .ref wd, .int 0])), (st, .inl (y 1, 8, .inl (zf tS1 8 f))), (wd, .inl (y 1, 80, .inl (zf tW1 6 g))), (sp, .inr (4, [w2, .int 0, .int 0]))] H := hP
  have hD : va_D A [(h0, .inr (5, [.ref st, .ref wd, .int 0])), (st, .inl (y 1, 8, .inl (zf tS1 8 f))), (wd, .inl (y 1, 80, .inl (zf tW1 6 g))), (sp, .inr (4, [w2, .int 0, .int 0]))] := hD
  have hw : r45 = 0 := hw
  subst hw
  refine va_iast hx hb hK hP hD hS 2 1 rfl rfl (by unfold vp_in; decide) dX1_make_107 (fun H locs hP hD hS => ?_)
  have hP : va_P D vwCl [(h0, .inr (5, [.ref st, .ref wd, .int 0])), (st, .inl (y 1, 8, .inl (zf tS1 8 f))), (wd, .inl (y 1, 80, .inl (upd (zf tW1 6 g) (nI 6).toNatClampNeg (0 : Int32)))), (sp, .inr (4, [w2, .int 0, .int 0]))] H := hP
  have hD : va_D A [(h0, .inr (5, [.ref st, .ref wd, .int 0])), (st, .inl (y 1, 8, .inl (zf tS1 8 f))), (wd, .inl (y 1, 80, .inl (upd (zf tW1 6 g) (nI 6).toNatClampNeg (0 : Int32)))), (sp, .inr (4, [w2, .int 0, .int 0]))] := hD
  have u46 : upd (zf tW1 6 g) (nI 6).toNatClampNeg (0 : Int32) = zf tW1 7 g := (zf_st (n := 6) (by decide) (by decide +kernel))
  rw [u46] at hP hD
  have hP : va_P D vwCl [(h0, .inr (5, [.ref st, .ref wd, .int 0])), (st, .inl (y 1, 8, .inl (zf tS1 8 f))), (wd, .inl (y 1, 80, .inl (zf tW1 7 g))), (sp, .inr (4, [w2, .int 0, .int 0]))] H := hP
  have hD : va_D A [(h0, .inr (5, [.ref st, .ref wd, .int 0])), (st, .inl (y 1, 8, .inl (zf tS1 8 f))), (wd, .inl (y 1, 80, .inl (zf tW1 7 g))), (sp, .inr (4, [w2, .int 0, .int 0]))] := hD
  refine lv_iinc (v := 7) (lv' := [(5, .int 7), (4, .int 0), (3, .int 1), (0, .ref h0), (1, .int 2), (2, .ref sp)]) hx hb dX1_make_108 hl (k := 0) rfl (by decide) (by decide) rfl (fun ls hl => ?_)
  refine lv_goto (tgt := 80) hx hb dX1_make_111 (by decide) ?_
  refine lv_iload hx hb dX1_make_80 (lv_at hl 0 rfl) ?_
  refine lv_bipush (v := 16) hx hb dX1_make_82 (by decide) ?_
  refine lv_icmp_ge (tgt := 114) hx hb dX1_make_84 (by decide) (fun c9 => absurd c9 (by decide)) (fun _ => ?_)
  refine lv_aload_n hx hb dX1_make_87 rfl (lv_at hl 3 rfl) ?_
  refine va_get (D := D) (ci := 5) (v := .ref wd) (C := RX1) (T := TX1) (N := 3) hx hb hts (by decide +kernel) hown hK hP 0 rfl rfl 1 (by decide) (hts (.fieldLink RX1 15 "SignetRing$Digest" "words" "[I") (by decide +kernel)) (fun _ h9 => h9) rfl dX1_make_88 ?_
  refine lv_iload hx hb dX1_make_91 (lv_at hl 0 rfl) ?_
  refine lv_aload_n hx hb dX1_make_93 rfl (lv_at hl 5 rfl) ?_
  refine lv_bipush (v := 64) hx hb dX1_make_94 (by decide) ?_
  refine lv_iload hx hb dX1_make_96 (lv_at hl 1 rfl) ?_
  refine lv_imul hx hb dX1_make_98 ?_
  refine lv_topi (fun v47 ev47 => ?_)
  have ev47 : v47 = 0 := ev47.trans (by decide +kernel)
  subst ev47
  refine lv_iconst (v := 4) hx hb dX1_make_99 (by decide) ?_
  refine lv_iload hx hb dX1_make_100 (lv_at hl 0 rfl) ?_
  refine lv_imul hx hb dX1_make_102 ?_
  refine lv_topi (fun v48 ev48 => ?_)
  have ev48 : v48 = 28 := ev48.trans (by decide +kernel)
  subst ev48
  refine lv_iadd hx hb dX1_make_103 ?_
  refine lv_topi (fun v49 ev49 => ?_)
  have ev49 : v49 = 28 := ev49.trans (by decide +kernel)
  subst ev49
  have hPc := hP.sub (ws' := [(sp, .inr (4, [w2, .int 0, .int 0]))]) [3] rfl
  have hDc := hD.sub (ws' := [(sp, .inr (4, [w2, .int 0, .int 0]))]) [3] (by decide) rfl
  have hFc := va_free (wc := [(sp, .inr (4, [w2, .int 0, .int 0]))]) hD hS hA [3] rfl
  refine va_calli (va_runS (As := [.ref sp, .int 28]) (rest := [.int 7, .ref wd]) ⟨hx, hb, hml, hown, hts⟩ (c_X1_wordOf_28 l D y H.size sp w2) (va_cwS 2 hts gv_c_X1_make_1_c_X1_wordOf_28_34 rfl rfl rfl (by decide +kernel) ⟨(Nat.le_of_ble_eq_true rfl), (Nat.le_of_ble_eq_true rfl)⟩) (zB.preS hPc hDc hK hN hE hO hT hG hS hFc (fun _ h => nomatch h) (fun _ h => nomatch h) (fun _ h => nomatch h) (fun _ h => nomatch h)) rfl rfl hl.1 rfl (lv_room (Nat.le_of_ble_eq_true rfl)) dX1_make_104 ⟨(Nat.le_of_ble_eq_true rfl), (Nat.le_of_ble_eq_true rfl)⟩) hS (fun q _ h => hFc q h) hFc (fun r50 u t H1 locs ht hvm hw hB hz1 hk1 hS => ?_)
  obtain ⟨hP1, hD1⟩ := hB
  rw [ht] at hP1
  obtain ⟨hP, hD⟩ := va_join (wr := [(h0, .inr (5, [.ref st, .ref wd, .int 0])), (st, .inl (y 1, 8, .inl (zf tS1 8 f))), (wd, .inl (y 1, 80, .inl (zf tW1 7 g)))]) (w1 := [(sp, .inr (4, [w2, .int 0, .int 0]))]) hP hD [3] [0, 1, 2] rfl rfl (by decide) (by decide) hk1 hFc hP1 hD1
  generalize H1 = H at hP hS ⊢
  have hP : va_P D vwCl [(h0, .inr (5, [.ref st, .ref wd, .int 0])), (st, .inl (y 1, 8, .inl (zf tS1 8 f))), (wd, .inl (y 1, 80, .inl (zf tW1 7 g))), (sp, .inr (4, [w2, .int 0, .int 0]))] H := hP
  have hD : va_D A [(h0, .inr (5, [.ref st, .ref wd, .int 0])), (st, .inl (y 1, 8, .inl (zf tS1 8 f))), (wd, .inl (y 1, 80, .inl (zf tW1 7 g))), (sp, .inr (4, [w2, .int 0, .int 0]))] := hD
  have hw : r50 = 0 := hw
  subst hw
  refine va_iast hx hb hK hP hD hS 2 1 rfl rfl (by unfold vp_in; decide) dX1_make_107 (fun H locs hP hD hS => ?_)
  have hP : va_P D vwCl [(h0, .inr (5, [.ref st, .ref wd, .int 0])), (st, .inl (y 1, 8, .inl (zf tS1 8 f))), (wd, .inl (y 1, 80, .inl (upd (zf tW1 7 g) (nI 7).toNatClampNeg (0 : Int32)))), (sp, .inr (4, [w2, .int 0, .int 0]))] H := hP
  have hD : va_D A [(h0, .inr (5, [.ref st, .ref wd, .int 0])), (st, .inl (y 1, 8, .inl (zf tS1 8 f))), (wd, .inl (y 1, 80, .inl (upd (zf tW1 7 g) (nI 7).toNatClampNeg (0 : Int32)))), (sp, .inr (4, [w2, .int 0, .int 0]))] := hD
  have u51 : upd (zf tW1 7 g) (nI 7).toNatClampNeg (0 : Int32) = zf tW1 8 g := (zf_st (n := 7) (by decide) (by decide +kernel))
  rw [u51] at hP hD
  have hP : va_P D vwCl [(h0, .inr (5, [.ref st, .ref wd, .int 0])), (st, .inl (y 1, 8, .inl (zf tS1 8 f))), (wd, .inl (y 1, 80, .inl (zf tW1 8 g))), (sp, .inr (4, [w2, .int 0, .int 0]))] H := hP
  have hD : va_D A [(h0, .inr (5, [.ref st, .ref wd, .int 0])), (st, .inl (y 1, 8, .inl (zf tS1 8 f))), (wd, .inl (y 1, 80, .inl (zf tW1 8 g))), (sp, .inr (4, [w2, .int 0, .int 0]))] := hD
  refine lv_iinc (v := 8) (lv' := [(5, .int 8), (4, .int 0), (3, .int 1), (0, .ref h0), (1, .int 2), (2, .ref sp)]) hx hb dX1_make_108 hl (k := 0) rfl (by decide) (by decide) rfl (fun ls hl => ?_)
  refine lv_goto (tgt := 80) hx hb dX1_make_111 (by decide) ?_
  refine lv_iload hx hb dX1_make_80 (lv_at hl 0 rfl) ?_
  refine lv_bipush (v := 16) hx hb dX1_make_82 (by decide) ?_
  refine lv_icmp_ge (tgt := 114) hx hb dX1_make_84 (by decide) (fun c9 => absurd c9 (by decide)) (fun _ => ?_)
  refine lv_aload_n hx hb dX1_make_87 rfl (lv_at hl 3 rfl) ?_
  refine va_get (D := D) (ci := 5) (v := .ref wd) (C := RX1) (T := TX1) (N := 3) hx hb hts (by decide +kernel) hown hK hP 0 rfl rfl 1 (by decide) (hts (.fieldLink RX1 15 "SignetRing$Digest" "words" "[I") (by decide +kernel)) (fun _ h9 => h9) rfl dX1_make_88 ?_
  refine lv_iload hx hb dX1_make_91 (lv_at hl 0 rfl) ?_
  refine lv_aload_n hx hb dX1_make_93 rfl (lv_at hl 5 rfl) ?_
  refine lv_bipush (v := 64) hx hb dX1_make_94 (by decide) ?_
  refine lv_iload hx hb dX1_make_96 (lv_at hl 1 rfl) ?_
  refine lv_imul hx hb dX1_make_98 ?_
  refine lv_topi (fun v52 ev52 => ?_)
  have ev52 : v52 = 0 := ev52.trans (by decide +kernel)
  subst ev52
  refine lv_iconst (v := 4) hx hb dX1_make_99 (by decide) ?_
  refine lv_iload hx hb dX1_make_100 (lv_at hl 0 rfl) ?_
  refine lv_imul hx hb dX1_make_102 ?_
  refine lv_topi (fun v53 ev53 => ?_)
  have ev53 : v53 = 32 := ev53.trans (by decide +kernel)
  subst ev53
  refine lv_iadd hx hb dX1_make_103 ?_
  refine lv_topi (fun v54 ev54 => ?_)
  have ev54 : v54 = 32 := ev54.trans (by decide +kernel)
  subst ev54
  have hPc := hP.sub (ws' := [(sp, .inr (4, [w2, .int 0, .int 0]))]) [3] rfl
  have hDc := hD.sub (ws' := [(sp, .inr (4, [w2, .int 0, .int 0]))]) [3] (by decide) rfl
  have hFc := va_free (wc := [(sp, .inr (4, [w2, .int 0, .int 0]))]) hD hS hA [3] rfl
  refine va_calli (va_runS (As := [.ref sp, .int 32]) (rest := [.int 8, .ref wd]) ⟨hx, hb, hml, hown, hts⟩ (c_X1_wordOf_32 l D y H.size sp w2) (va_cwS 2 hts gv_c_X1_make_1_c_X1_wordOf_32_34 rfl rfl rfl (by decide +kernel) ⟨(Nat.le_of_ble_eq_true rfl), (Nat.le_of_ble_eq_true rfl)⟩) (zB.preS hPc hDc hK hN hE hO hT hG hS hFc (fun _ h => nomatch h) (fun _ h => nomatch h) (fun _ h => nomatch h) (fun _ h => nomatch h)) rfl rfl hl.1 rfl (lv_room (Nat.le_of_ble_eq_true rfl)) dX1_make_104 ⟨(Nat.le_of_ble_eq_true rfl), (Nat.le_of_ble_eq_true rfl)⟩) hS (fun q _ h => hFc q h) hFc (fun r55 u t H1 locs ht hvm hw hB hz1 hk1 hS => ?_)
  obtain ⟨hP1, hD1⟩ := hB
  rw [ht] at hP1
  obtain ⟨hP, hD⟩ := va_join (wr := [(h0, .inr (5, [.ref st, .ref wd, .int 0])), (st, .inl (y 1, 8, .inl (zf tS1 8 f))), (wd, .inl (y 1, 80, .inl (zf tW1 8 g)))]) (w1 := [(sp, .inr (4, [w2, .int 0, .int 0]))]) hP hD [3] [0, 1, 2] rfl rfl (by decide) (by decide) hk1 hFc hP1 hD1
  generalize H1 = H at hP hS ⊢
  have hP : va_P D vwCl [(h0, .inr (5, [.ref st, .ref wd, .int 0])), (st, .inl (y 1, 8, .inl (zf tS1 8 f))), (wd, .inl (y 1, 80, .inl (zf tW1 8 g))), (sp, .inr (4, [w2, .int 0, .int 0]))] H := hP
  have hD : va_D A [(h0, .inr (5, [.ref st, .ref wd, .int 0])), (st, .inl (y 1, 8, .inl (zf tS1 8 f))), (wd, .inl (y 1, 80, .inl (zf tW1 8 g))), (sp, .inr (4, [w2, .int 0, .int 0]))] := hD
  have hw : r55 = 0 := hw
  subst hw
  refine va_iast hx hb hK hP hD hS 2 1 rfl rfl (by unfold vp_in; decide) dX1_make_107 (fun H locs hP hD hS => ?_)
  have hP : va_P D vwCl [(h0, .inr (5, [.ref st, .ref wd, .int 0])), (st, .inl (y 1, 8, .inl (zf tS1 8 f))), (wd, .inl (y 1, 80, .inl (upd (zf tW1 8 g) (nI 8).toNatClampNeg (0 : Int32)))), (sp, .inr (4, [w2, .int 0, .int 0]))] H := hP
  have hD : va_D A [(h0, .inr (5, [.ref st, .ref wd, .int 0])), (st, .inl (y 1, 8, .inl (zf tS1 8 f))), (wd, .inl (y 1, 80, .inl (upd (zf tW1 8 g) (nI 8).toNatClampNeg (0 : Int32)))), (sp, .inr (4, [w2, .int 0, .int 0]))] := hD
  have u56 : upd (zf tW1 8 g) (nI 8).toNatClampNeg (0 : Int32) = zf tW1 9 g := (zf_st (n := 8) (by decide) (by decide +kernel))
  rw [u56] at hP hD
  have hP : va_P D vwCl [(h0, .inr (5, [.ref st, .ref wd, .int 0])), (st, .inl (y 1, 8, .inl (zf tS1 8 f))), (wd, .inl (y 1, 80, .inl (zf tW1 9 g))), (sp, .inr (4, [w2, .int 0, .int 0]))] H := hP
  have hD : va_D A [(h0, .inr (5, [.ref st, .ref wd, .int 0])), (st, .inl (y 1, 8, .inl (zf tS1 8 f))), (wd, .inl (y 1, 80, .inl (zf tW1 9 g))), (sp, .inr (4, [w2, .int 0, .int 0]))] := hD
  refine lv_iinc (v := 9) (lv' := [(5, .int 9), (4, .int 0), (3, .int 1), (0, .ref h0), (1, .int 2), (2, .ref sp)]) hx hb dX1_make_108 hl (k := 0) rfl (by decide) (by decide) rfl (fun ls hl => ?_)
  refine lv_goto (tgt := 80) hx hb dX1_make_111 (by decide) ?_
  refine lv_iload hx hb dX1_make_80 (lv_at hl 0 rfl) ?_
  refine lv_bipush (v := 16) hx hb dX1_make_82 (by decide) ?_
  refine lv_icmp_ge (tgt := 114) hx hb dX1_make_84 (by decide) (fun c9 => absurd c9 (by decide)) (fun _ => ?_)
  refine lv_aload_n hx hb dX1_make_87 rfl (lv_at hl 3 rfl) ?_
  refine va_get (D := D) (ci := 5) (v := .ref wd) (C := RX1) (T := TX1) (N := 3) hx hb hts (by decide +kernel) hown hK hP 0 rfl rfl 1 (by decide) (hts (.fieldLink RX1 15 "SignetRing$Digest" "words" "[I") (by decide +kernel)) (fun _ h9 => h9) rfl dX1_make_88 ?_
  refine lv_iload hx hb dX1_make_91 (lv_at hl 0 rfl) ?_
  refine lv_aload_n hx hb dX1_make_93 rfl (lv_at hl 5 rfl) ?_
  refine lv_bipush (v := 64) hx hb dX1_make_94 (by decide) ?_
  refine lv_iload hx hb dX1_make_96 (lv_at hl 1 rfl) ?_
  refine lv_imul hx hb dX1_make_98 ?_
  refine lv_topi (fun v57 ev57 => ?_)
  have ev57 : v57 = 0 := ev57.trans (by decide +kernel)
  subst ev57
  refine lv_iconst (v := 4) hx hb dX1_make_99 (by decide) ?_
  refine lv_iload hx hb dX1_make_100 (lv_at hl 0 rfl) ?_
  refine lv_imul hx hb dX1_make_102 ?_
  refine lv_topi (fun v58 ev58 => ?_)
  have ev58 : v58 = 36 := ev58.trans (by decide +kernel)
  subst ev58
  refine lv_iadd hx hb dX1_make_103 ?_
  refine lv_topi (fun v59 ev59 => ?_)
  have ev59 : v59 = 36 := ev59.trans (by decide +kernel)
  subst ev59
  have hPc := hP.sub (ws' := [(sp, .inr (4, [w2, .int 0, .int 0]))]) [3] rfl
  have hDc := hD.sub (ws' := [(sp, .inr (4, [w2, .int 0, .int 0]))]) [3] (by decide) rfl
  have hFc := va_free (wc := [(sp, .inr (4, [w2, .int 0, .int 0]))]) hD hS hA [3] rfl
  refine va_calli (va_runS (As := [.ref sp, .int 36]) (rest := [.int 9, .ref wd]) ⟨hx, hb, hml, hown, hts⟩ (c_X1_wordOf_36 l D y H.size sp w2) (va_cwS 2 hts gv_c_X1_make_1_c_X1_wordOf_36_34 rfl rfl rfl (by decide +kernel) ⟨(Nat.le_of_ble_eq_true rfl), (Nat.le_of_ble_eq_true rfl)⟩) (zB.preS hPc hDc hK hN hE hO hT hG hS hFc (fun _ h => nomatch h) (fun _ h => nomatch h) (fun _ h => nomatch h) (fun _ h => nomatch h)) rfl rfl hl.1 rfl (lv_room (Nat.le_of_ble_eq_true rfl)) dX1_make_104 ⟨(Nat.le_of_ble_eq_true rfl), (Nat.le_of_ble_eq_true rfl)⟩) hS (fun q _ h => hFc q h) hFc (fun r60 u t H1 locs ht hvm hw hB hz1 hk1 hS => ?_)
  obtain ⟨hP1, hD1⟩ := hB
  rw [ht] at hP1
  obtain ⟨hP, hD⟩ := va_join (wr := [(h0, .inr (5, [.ref st, .ref wd, .int 0])), (st, .inl (y 1, 8, .inl (zf tS1 8 f))), (wd, .inl (y 1, 80, .inl (zf tW1 9 g)))]) (w1 := [(sp, .inr (4, [w2, .int 0, .int 0]))]) hP hD [3] [0, 1, 2] rfl rfl (by decide) (by decide) hk1 hFc hP1 hD1
  generalize H1 = H at hP hS ⊢
  have hP : va_P D vwCl [(h0, .inr (5, [.ref st, .ref wd, .int 0])), (st, .inl (y 1, 8, .inl (zf tS1 8 f))), (wd, .inl (y 1, 80, .inl (zf tW1 9 g))), (sp, .inr (4, [w2, .int 0, .int 0]))] H := hP
  have hD : va_D A [(h0, .inr (5, [.ref st, .ref wd, .int 0])), (st, .inl (y 1, 8, .inl (zf tS1 8 f))), (wd, .inl (y 1, 80, .inl (zf tW1 9 g))), (sp, .inr (4, [w2, .int 0, .int 0]))] := hD
  have hw : r60 = 0 := hw
  subst hw
  refine va_iast hx hb hK hP hD hS 2 1 rfl rfl (by unfold vp_in; decide) dX1_make_107 (fun H locs hP hD hS => ?_)
  have hP : va_P D vwCl [(h0, .inr (5, [.ref st, .ref wd, .int 0])), (st, .inl (y 1, 8, .inl (zf tS1 8 f))), (wd, .inl (y 1, 80, .inl (upd (zf tW1 9 g) (nI 9).toNatClampNeg (0 : Int32)))), (sp, .inr (4, [w2, .int 0, .int 0]))] H := hP
  have hD : va_D A [(h0, .inr (5, [.ref st, .ref wd, .int 0])), (st, .inl (y 1, 8, .inl (zf tS1 8 f))), (wd, .inl (y 1, 80, .inl (upd (zf tW1 9 g) (nI 9).toNatClampNeg (0 : Int32)))), (sp, .inr (4, [w2, .int 0, .int 0]))] := hD
  have u61 : upd (zf tW1 9 g) (nI 9).toNatClampNeg (0 : Int32) = zf tW1 10 g := (zf_st (n := 9) (by decide) (by decide +kernel))
  rw [u61] at hP hD
  have hP : va_P D vwCl [(h0, .inr (5, [.ref st, .ref wd, .int 0])), (st, .inl (y 1, 8, .inl (zf tS1 8 f))), (wd, .inl (y 1, 80, .inl (zf tW1 10 g))), (sp, .inr (4, [w2, .int 0, .int 0]))] H := hP
  have hD : va_D A [(h0, .inr (5, [.ref st, .ref wd, .int 0])), (st, .inl (y 1, 8, .inl (zf tS1 8 f))), (wd, .inl (y 1, 80, .inl (zf tW1 10 g))), (sp, .inr (4, [w2, .int 0, .int 0]))] := hD
  refine lv_iinc (v := 10) (lv' := [(5, .int 10), (4, .int 0), (3, .int 1), (0, .ref h0), (1, .int 2), (2, .ref sp)]) hx hb dX1_make_108 hl (k := 0) rfl (by decide) (by decide) rfl (fun ls hl => ?_)
  refine lv_goto (tgt := 80) hx hb dX1_make_111 (by decide) ?_
  refine lv_iload hx hb dX1_make_80 (lv_at hl 0 rfl) ?_
  refine lv_bipush (v := 16) hx hb dX1_make_82 (by decide) ?_
  refine lv_icmp_ge (tgt := 114) hx hb dX1_make_84 (by decide) (fun c9 => absurd c9 (by decide)) (fun _ => ?_)
  refine lv_aload_n hx hb dX1_make_87 rfl (lv_at hl 3 rfl) ?_
  refine va_get (D := D) (ci := 5) (v := .ref wd) (C := RX1) (T := TX1) (N := 3) hx hb hts (by decide +kernel) hown hK hP 0 rfl rfl 1 (by decide) (hts (.fieldLink RX1 15 "SignetRing$Digest" "words" "[I") (by decide +kernel)) (fun _ h9 => h9) rfl dX1_make_88 ?_
  refine lv_iload hx hb dX1_make_91 (lv_at hl 0 rfl) ?_
  refine lv_aload_n hx hb dX1_make_93 rfl (lv_at hl 5 rfl) ?_
  refine lv_bipush (v := 64) hx hb dX1_make_94 (by decide) ?_
  refine lv_iload hx hb dX1_make_96 (lv_at hl 1 rfl) ?_
  refine lv_imul hx hb dX1_make_98 ?_
  refine lv_topi (fun v62 ev62 => ?_)
  have ev62 : v62 = 0 := ev62.trans (by decide +kernel)
  subst ev62
  refine lv_iconst (v := 4) hx hb dX1_make_99 (by decide) ?_
  refine lv_iload hx hb dX1_make_100 (lv_at hl 0 rfl) ?_
  refine lv_imul hx hb dX1_make_102 ?_
  refine lv_topi (fun v63 ev63 => ?_)
  have ev63 : v63 = 40 := ev63.trans (by decide +kernel)
  subst ev63
  refine lv_iadd hx hb dX1_make_103 ?_
  refine lv_topi (fun v64 ev64 => ?_)
  have ev64 : v64 = 40 := ev64.trans (by decide +kernel)
  subst ev64
  have hPc := hP.sub (ws' := [(sp, .inr (4, [w2, .int 0, .int 0]))]) [3] rfl
  have hDc := hD.sub (ws' := [(sp, .inr (4, [w2, .int 0, .int 0]))]) [3] (by decide) rfl
  have hFc := va_free (wc := [(sp, .inr (4, [w2, .int 0, .int 0]))]) hD hS hA [3] rfl
  refine va_calli (va_runS (As := [.ref sp, .int 40]) (rest := [.int 10, .ref wd]) ⟨hx, hb, hml, hown, hts⟩ (c_X1_wordOf_40 l D y H.size sp w2) (va_cwS 2 hts gv_c_X1_make_1_c_X1_wordOf_40_34 rfl rfl rfl (by decide +kernel) ⟨(Nat.le_of_ble_eq_true rfl), (Nat.le_of_ble_eq_true rfl)⟩) (zB.preS hPc hDc hK hN hE hO hT hG hS hFc (fun _ h => nomatch h) (fun _ h => nomatch h) (fun _ h => nomatch h) (fun _ h => nomatch h)) rfl rfl hl.1 rfl (lv_room (Nat.le_of_ble_eq_true rfl)) dX1_make_104 ⟨(Nat.le_of_ble_eq_true rfl), (Nat.le_of_ble_eq_true rfl)⟩) hS (fun q _ h => hFc q h) hFc (fun r65 u t H1 locs ht hvm hw hB hz1 hk1 hS => ?_)
  obtain ⟨hP1, hD1⟩ := hB
  rw [ht] at hP1
  obtain ⟨hP, hD⟩ := va_join (wr := [(h0, .inr (5, [.ref st, .ref wd, .int 0])), (st, .inl (y 1, 8, .inl (zf tS1 8 f))), (wd, .inl (y 1, 80, .inl (zf tW1 10 g)))]) (w1 := [(sp, .inr (4, [w2, .int 0, .int 0]))]) hP hD [3] [0, 1, 2] rfl rfl (by decide) (by decide) hk1 hFc hP1 hD1
  generalize H1 = H at hP hS ⊢
  have hP : va_P D vwCl [(h0, .inr (5, [.ref st, .ref wd, .int 0])), (st, .inl (y 1, 8, .inl (zf tS1 8 f))), (wd, .inl (y 1, 80, .inl (zf tW1 10 g))), (sp, .inr (4, [w2, .int 0, .int 0]))] H := hP
  have hD : va_D A [(h0, .inr (5, [.ref st, .ref wd, .int 0])), (st, .inl (y 1, 8, .inl (zf tS1 8 f))), (wd, .inl (y 1, 80, .inl (zf tW1 10 g))), (sp, .inr (4, [w2, .int 0, .int 0]))] := hD
  have hw : r65 = 0 := hw
  subst hw
  refine va_iast hx hb hK hP hD hS 2 1 rfl rfl (by unfold vp_in; decide) dX1_make_107 (fun H locs hP hD hS => ?_)
  have hP : va_P D vwCl [(h0, .inr (5, [.ref st, .ref wd, .int 0])), (st, .inl (y 1, 8, .inl (zf tS1 8 f))), (wd, .inl (y 1, 80, .inl (upd (zf tW1 10 g) (nI 10).toNatClampNeg (0 : Int32)))), (sp, .inr (4, [w2, .int 0, .int 0]))] H := hP
  have hD : va_D A [(h0, .inr (5, [.ref st, .ref wd, .int 0])), (st, .inl (y 1, 8, .inl (zf tS1 8 f))), (wd, .inl (y 1, 80, .inl (upd (zf tW1 10 g) (nI 10).toNatClampNeg (0 : Int32)))), (sp, .inr (4, [w2, .int 0, .int 0]))] := hD
  have u66 : upd (zf tW1 10 g) (nI 10).toNatClampNeg (0 : Int32) = zf tW1 11 g := (zf_st (n := 10) (by decide) (by decide +kernel))
  rw [u66] at hP hD
  have hP : va_P D vwCl [(h0, .inr (5, [.ref st, .ref wd, .int 0])), (st, .inl (y 1, 8, .inl (zf tS1 8 f))), (wd, .inl (y 1, 80, .inl (zf tW1 11 g))), (sp, .inr (4, [w2, .int 0, .int 0]))] H := hP
  have hD : va_D A [(h0, .inr (5, [.ref st, .ref wd, .int 0])), (st, .inl (y 1, 8, .inl (zf tS1 8 f))), (wd, .inl (y 1, 80, .inl (zf tW1 11 g))), (sp, .inr (4, [w2, .int 0, .int 0]))] := hD
  refine lv_iinc (v := 11) (lv' := [(5, .int 11), (4, .int 0), (3, .int 1), (0, .ref h0), (1, .int 2), (2, .ref sp)]) hx hb dX1_make_108 hl (k := 0) rfl (by decide) (by decide) rfl (fun ls hl => ?_)
  refine lv_goto (tgt := 80) hx hb dX1_make_111 (by decide) ?_
  refine lv_iload hx hb dX1_make_80 (lv_at hl 0 rfl) ?_
  refine lv_bipush (v := 16) hx hb dX1_make_82 (by decide) ?_
  refine lv_icmp_ge (tgt := 114) hx hb dX1_make_84 (by decide) (fun c9 => absurd c9 (by decide)) (fun _ => ?_)
  refine lv_aload_n hx hb dX1_make_87 rfl (lv_at hl 3 rfl) ?_
  refine va_get (D := D) (ci := 5) (v := .ref wd) (C := RX1) (T := TX1) (N := 3) hx hb hts (by decide +kernel) hown hK hP 0 rfl rfl 1 (by decide) (hts (.fieldLink RX1 15 "SignetRing$Digest" "words" "[I") (by decide +kernel)) (fun _ h9 => h9) rfl dX1_make_88 ?_
  refine lv_iload hx hb dX1_make_91 (lv_at hl 0 rfl) ?_
  refine lv_aload_n hx hb dX1_make_93 rfl (lv_at hl 5 rfl) ?_
  refine lv_bipush (v := 64) hx hb dX1_make_94 (by decide) ?_
  refine lv_iload hx hb dX1_make_96 (lv_at hl 1 rfl) ?_
  refine lv_imul hx hb dX1_make_98 ?_
  refine lv_topi (fun v67 ev67 => ?_)
  have ev67 : v67 = 0 := ev67.trans (by decide +kernel)
  subst ev67
  refine lv_iconst (v := 4) hx hb dX1_make_99 (by decide) ?_
  refine lv_iload hx hb dX1_make_100 (lv_at hl 0 rfl) ?_
  refine lv_imul hx hb dX1_make_102 ?_
  refine lv_topi (fun v68 ev68 => ?_)
  have ev68 : v68 = 44 := ev68.trans (by decide +kernel)
  subst ev68
  refine lv_iadd hx hb dX1_make_103 ?_
  refine lv_topi (fun v69 ev69 => ?_)
  have ev69 : v69 = 44 := ev69.trans (by decide +kernel)
  subst ev69
  have hPc := hP.sub (ws' := [(sp, .inr (4, [w2, .int 0, .int 0]))]) [3] rfl
  have hDc := hD.sub (ws' := [(sp, .inr (4, [w2, .int 0, .int 0]))]) [3] (by decide) rfl
  have hFc := va_free (wc := [(sp, .inr (4, [w2, .int 0, .int 0]))]) hD hS hA [3] rfl
  refine va_calli (va_runS (As := [.ref sp, .int 44]) (rest := [.int 11, .ref wd]) ⟨hx, hb, hml, hown, hts⟩ (c_X1_wordOf_44 l D y H.size sp w2) (va_cwS 2 hts gv_c_X1_make_1_c_X1_wordOf_44_34 rfl rfl rfl (by decide +kernel) ⟨(Nat.le_of_ble_eq_true rfl), (Nat.le_of_ble_eq_true rfl)⟩) (zB.preS hPc hDc hK hN hE hO hT hG hS hFc (fun _ h => nomatch h) (fun _ h => nomatch h) (fun _ h => nomatch h) (fun _ h => nomatch h)) rfl rfl hl.1 rfl (lv_room (Nat.le_of_ble_eq_true rfl)) dX1_make_104 ⟨(Nat.le_of_ble_eq_true rfl), (Nat.le_of_ble_eq_true rfl)⟩) hS (fun q _ h => hFc q h) hFc (fun r70 u t H1 locs ht hvm hw hB hz1 hk1 hS => ?_)
  obtain ⟨hP1, hD1⟩ := hB
  rw [ht] at hP1
  obtain ⟨hP, hD⟩ := va_join (wr := [(h0, .inr (5, [.ref st, .ref wd, .int 0])), (st, .inl (y 1, 8, .inl (zf tS1 8 f))), (wd, .inl (y 1, 80, .inl (zf tW1 11 g)))]) (w1 := [(sp, .inr (4, [w2, .int 0, .int 0]))]) hP hD [3] [0, 1, 2] rfl rfl (by decide) (by decide) hk1 hFc hP1 hD1
  generalize H1 = H at hP hS ⊢
  have hP : va_P D vwCl [(h0, .inr (5, [.ref st, .ref wd, .int 0])), (st, .inl (y 1, 8, .inl (zf tS1 8 f))), (wd, .inl (y 1, 80, .inl (zf tW1 11 g))), (sp, .inr (4, [w2, .int 0, .int 0]))] H := hP
  have hD : va_D A [(h0, .inr (5, [.ref st, .ref wd, .int 0])), (st, .inl (y 1, 8, .inl (zf tS1 8 f))), (wd, .inl (y 1, 80, .inl (zf tW1 11 g))), (sp, .inr (4, [w2, .int 0, .int 0]))] := hD
  have hw : r70 = 0 := hw
  subst hw
  refine va_iast hx hb hK hP hD hS 2 1 rfl rfl (by unfold vp_in; decide) dX1_make_107 (fun H locs hP hD hS => ?_)
  have hP : va_P D vwCl [(h0, .inr (5, [.ref st, .ref wd, .int 0])), (st, .inl (y 1, 8, .inl (zf tS1 8 f))), (wd, .inl (y 1, 80, .inl (upd (zf tW1 11 g) (nI 11).toNatClampNeg (0 : Int32)))), (sp, .inr (4, [w2, .int 0, .int 0]))] H := hP
  have hD : va_D A [(h0, .inr (5, [.ref st, .ref wd, .int 0])), (st, .inl (y 1, 8, .inl (zf tS1 8 f))), (wd, .inl (y 1, 80, .inl (upd (zf tW1 11 g) (nI 11).toNatClampNeg (0 : Int32)))), (sp, .inr (4, [w2, .int 0, .int 0]))] := hD
  have u71 : upd (zf tW1 11 g) (nI 11).toNatClampNeg (0 : Int32) = zf tW1 12 g := (zf_st (n := 11) (by decide) (by decide +kernel))
  rw [u71] at hP hD
  have hP : va_P D vwCl [(h0, .inr (5, [.ref st, .ref wd, .int 0])), (st, .inl (y 1, 8, .inl (zf tS1 8 f))), (wd, .inl (y 1, 80, .inl (zf tW1 12 g))), (sp, .inr (4, [w2, .int 0, .int 0]))] H := hP
  have hD : va_D A [(h0, .inr (5, [.ref st, .ref wd, .int 0])), (st, .inl (y 1, 8, .inl (zf tS1 8 f))), (wd, .inl (y 1, 80, .inl (zf tW1 12 g))), (sp, .inr (4, [w2, .int 0, .int 0]))] := hD
  refine lv_iinc (v := 12) (lv' := [(5, .int 12), (4, .int 0), (3, .int 1), (0, .ref h0), (1, .int 2), (2, .ref sp)]) hx hb dX1_make_108 hl (k := 0) rfl (by decide) (by decide) rfl (fun ls hl => ?_)
  refine lv_goto (tgt := 80) hx hb dX1_make_111 (by decide) ?_
  refine lv_iload hx hb dX1_make_80 (lv_at hl 0 rfl) ?_
  refine lv_bipush (v := 16) hx hb dX1_make_82 (by decide) ?_
  refine lv_icmp_ge (tgt := 114) hx hb dX1_make_84 (by decide) (fun c9 => absurd c9 (by decide)) (fun _ => ?_)
  refine lv_aload_n hx hb dX1_make_87 rfl (lv_at hl 3 rfl) ?_
  refine va_get (D := D) (ci := 5) (v := .ref wd) (C := RX1) (T := TX1) (N := 3) hx hb hts (by decide +kernel) hown hK hP 0 rfl rfl 1 (by decide) (hts (.fieldLink RX1 15 "SignetRing$Digest" "words" "[I") (by decide +kernel)) (fun _ h9 => h9) rfl dX1_make_88 ?_
  refine lv_iload hx hb dX1_make_91 (lv_at hl 0 rfl) ?_
  refine lv_aload_n hx hb dX1_make_93 rfl (lv_at hl 5 rfl) ?_
  refine lv_bipush (v := 64) hx hb dX1_make_94 (by decide) ?_
  refine lv_iload hx hb dX1_make_96 (lv_at hl 1 rfl) ?_
  refine lv_imul hx hb dX1_make_98 ?_
  refine lv_topi (fun v72 ev72 => ?_)
  have ev72 : v72 = 0 := ev72.trans (by decide +kernel)
  subst ev72
  refine lv_iconst (v := 4) hx hb dX1_make_99 (by decide) ?_
  refine lv_iload hx hb dX1_make_100 (lv_at hl 0 rfl) ?_
  refine lv_imul hx hb dX1_make_102 ?_
  refine lv_topi (fun v73 ev73 => ?_)
  have ev73 : v73 = 48 := ev73.trans (by decide +kernel)
  subst ev73
  refine lv_iadd hx hb dX1_make_103 ?_
  refine lv_topi (fun v74 ev74 => ?_)
  have ev74 : v74 = 48 := ev74.trans (by decide +kernel)
  subst ev74
  have hPc := hP.sub (ws' := [(sp, .inr (4, [w2, .int 0, .int 0]))]) [3] rfl
  have hDc := hD.sub (ws' := [(sp, .inr (4, [w2, .int 0, .int 0]))]) [3] (by decide) rfl
  have hFc := va_free (wc := [(sp, .inr (4, [w2, .int 0, .int 0]))]) hD hS hA [3] rfl
  refine va_calli (va_runS (As := [.ref sp, .int 48]) (rest := [.int 12, .ref wd]) ⟨hx, hb, hml, hown, hts⟩ (c_X1_wordOf_48 l D y H.size sp w2) (va_cwS 2 hts gv_c_X1_make_1_c_X1_wordOf_48_34 rfl rfl rfl (by decide +kernel) ⟨(Nat.le_of_ble_eq_true rfl), (Nat.le_of_ble_eq_true rfl)⟩) (zB.preS hPc hDc hK hN hE hO hT hG hS hFc (fun _ h => nomatch h) (fun _ h => nomatch h) (fun _ h => nomatch h) (fun _ h => nomatch h)) rfl rfl hl.1 rfl (lv_room (Nat.le_of_ble_eq_true rfl)) dX1_make_104 ⟨(Nat.le_of_ble_eq_true rfl), (Nat.le_of_ble_eq_true rfl)⟩) hS (fun q _ h => hFc q h) hFc (fun r75 u t H1 locs ht hvm hw hB hz1 hk1 hS => ?_)
  obtain ⟨hP1, hD1⟩ := hB
  rw [ht] at hP1
  obtain ⟨hP, hD⟩ := va_join (wr := [(h0, .inr (5, [.ref st, .ref wd, .int 0])), (st, .inl (y 1, 8, .inl (zf tS1 8 f))), (wd, .inl (y 1, 80, .inl (zf tW1 12 g)))]) (w1 := [(sp, .inr (4, [w2, .int 0, .int 0]))]) hP hD [3] [0, 1, 2] rfl rfl (by decide) (by decide) hk1 hFc hP1 hD1
  generalize H1 = H at hP hS ⊢
  have hP : va_P D vwCl [(h0, .inr (5, [.ref st, .ref wd, .int 0])), (st, .inl (y 1, 8, .inl (zf tS1 8 f))), (wd, .inl (y 1, 80, .inl (zf tW1 12 g))), (sp, .inr (4, [w2, .int 0, .int 0]))] H := hP
  have hD : va_D A [(h0, .inr (5, [.ref st, .ref wd, .int 0])), (st, .inl (y 1, 8, .inl (zf tS1 8 f))), (wd, .inl (y 1, 80, .inl (zf tW1 12 g))), (sp, .inr (4, [w2, .int 0, .int 0]))] := hD
  have hw : r75 = 0 := hw
  subst hw
  refine va_iast hx hb hK hP hD hS 2 1 rfl rfl (by unfold vp_in; decide) dX1_make_107 (fun H locs hP hD hS => ?_)
  have hP : va_P D vwCl [(h0, .inr (5, [.ref st, .ref wd, .int 0])), (st, .inl (y 1, 8, .inl (zf tS1 8 f))), (wd, .inl (y 1, 80, .inl (upd (zf tW1 12 g) (nI 12).toNatClampNeg (0 : Int32)))), (sp, .inr (4, [w2, .int 0, .int 0]))] H := hP
  have hD : va_D A [(h0, .inr (5, [.ref st, .ref wd, .int 0])), (st, .inl (y 1, 8, .inl (zf tS1 8 f))), (wd, .inl (y 1, 80, .inl (upd (zf tW1 12 g) (nI 12).toNatClampNeg (0 : Int32)))), (sp, .inr (4, [w2, .int 0, .int 0]))] := hD
  have u76 : upd (zf tW1 12 g) (nI 12).toNatClampNeg (0 : Int32) = zf tW1 13 g := (zf_st (n := 12) (by decide) (by decide +kernel))
  rw [u76] at hP hD
  have hP : va_P D vwCl [(h0, .inr (5, [.ref st, .ref wd, .int 0])), (st, .inl (y 1, 8, .inl (zf tS1 8 f))), (wd, .inl (y 1, 80, .inl (zf tW1 13 g))), (sp, .inr (4, [w2, .int 0, .int 0]))] H := hP
  have hD : va_D A [(h0, .inr (5, [.ref st, .ref wd, .int 0])), (st, .inl (y 1, 8, .inl (zf tS1 8 f))), (wd, .inl (y 1, 80, .inl (zf tW1 13 g))), (sp, .inr (4, [w2, .int 0, .int 0]))] := hD
  refine lv_iinc (v := 13) (lv' := [(5, .int 13), (4, .int 0), (3, .int 1), (0, .ref h0), (1, .int 2), (2, .ref sp)]) hx hb dX1_make_108 hl (k := 0) rfl (by decide) (by decide) rfl (fun ls hl => ?_)
  refine lv_goto (tgt := 80) hx hb dX1_make_111 (by decide) ?_
  refine lv_iload hx hb dX1_make_80 (lv_at hl 0 rfl) ?_
  refine lv_bipush (v := 16) hx hb dX1_make_82 (by decide) ?_
  refine lv_icmp_ge (tgt := 114) hx hb dX1_make_84 (by decide) (fun c9 => absurd c9 (by decide)) (fun _ => ?_)
  refine lv_aload_n hx hb dX1_make_87 rfl (lv_at hl 3 rfl) ?_
  refine va_get (D := D) (ci := 5) (v := .ref wd) (C := RX1) (T := TX1) (N := 3) hx hb hts (by decide +kernel) hown hK hP 0 rfl rfl 1 (by decide) (hts (.fieldLink RX1 15 "SignetRing$Digest" "words" "[I") (by decide +kernel)) (fun _ h9 => h9) rfl dX1_make_88 ?_
  refine lv_iload hx hb dX1_make_91 (lv_at hl 0 rfl) ?_
  refine lv_aload_n hx hb dX1_make_93 rfl (lv_at hl 5 rfl) ?_
  refine lv_bipush (v := 64) hx hb dX1_make_94 (by decide) ?_
  refine lv_iload hx hb dX1_make_96 (lv_at hl 1 rfl) ?_
  refine lv_imul hx hb dX1_make_98 ?_
  refine lv_topi (fun v77 ev77 => ?_)
  have ev77 : v77 = 0 := ev77.trans (by decide +kernel)
  subst ev77
  refine lv_iconst (v := 4) hx hb dX1_make_99 (by decide) ?_
  refine lv_iload hx hb dX1_make_100 (lv_at hl 0 rfl) ?_
  refine lv_imul hx hb dX1_make_102 ?_
  refine lv_topi (fun v78 ev78 => ?_)
  have ev78 : v78 = 52 := ev78.trans (by decide +kernel)
  subst ev78
  refine lv_iadd hx hb dX1_make_103 ?_
  refine lv_topi (fun v79 ev79 => ?_)
  have ev79 : v79 = 52 := ev79.trans (by decide +kernel)
  subst ev79
  have hPc := hP.sub (ws' := [(sp, .inr (4, [w2, .int 0, .int 0]))]) [3] rfl
  have hDc := hD.sub (ws' := [(sp, .inr (4, [w2, .int 0, .int 0]))]) [3] (by decide) rfl
  have hFc := va_free (wc := [(sp, .inr (4, [w2, .int 0, .int 0]))]) hD hS hA [3] rfl
  refine va_calli (va_runS (As := [.ref sp, .int 52]) (rest := [.int 13, .ref wd]) ⟨hx, hb, hml, hown, hts⟩ (c_X1_wordOf_52 l D y H.size sp w2) (va_cwS 2 hts gv_c_X1_make_1_c_X1_wordOf_52_34 rfl rfl rfl (by decide +kernel) ⟨(Nat.le_of_ble_eq_true rfl), (Nat.le_of_ble_eq_true rfl)⟩) (zB.preS hPc hDc hK hN hE hO hT hG hS hFc (fun _ h => nomatch h) (fun _ h => nomatch h) (fun _ h => nomatch h) (fun _ h => nomatch h)) rfl rfl hl.1 rfl (lv_room (Nat.le_of_ble_eq_true rfl)) dX1_make_104 ⟨(Nat.le_of_ble_eq_true rfl), (Nat.le_of_ble_eq_true rfl)⟩) hS (fun q _ h => hFc q h) hFc (fun r80 u t H1 locs ht hvm hw hB hz1 hk1 hS => ?_)
  obtain ⟨hP1, hD1⟩ := hB
  rw [ht] at hP1
  obtain ⟨hP, hD⟩ := va_join (wr := [(h0, .inr (5, [.ref st, .ref wd, .int 0])), (st, .inl (y 1, 8, .inl (zf tS1 8 f))), (wd, .inl (y 1, 80, .inl (zf tW1 13 g)))]) (w1 := [(sp, .inr (4, [w2, .int 0, .int 0]))]) hP hD [3] [0, 1, 2] rfl rfl (by decide) (by decide) hk1 hFc hP1 hD1
  generalize H1 = H at hP hS ⊢
  have hP : va_P D vwCl [(h0, .inr (5, [.ref st, .ref wd, .int 0])), (st, .inl (y 1, 8, .inl (zf tS1 8 f))), (wd, .inl (y 1, 80, .inl (zf tW1 13 g))), (sp, .inr (4, [w2, .int 0, .int 0]))] H := hP
  have hD : va_D A [(h0, .inr (5, [.ref st, .ref wd, .int 0])), (st, .inl (y 1, 8, .inl (zf tS1 8 f))), (wd, .inl (y 1, 80, .inl (zf tW1 13 g))), (sp, .inr (4, [w2, .int 0, .int 0]))] := hD
  have hw : r80 = 0 := hw
  subst hw
  refine va_iast hx hb hK hP hD hS 2 1 rfl rfl (by unfold vp_in; decide) dX1_make_107 (fun H locs hP hD hS => ?_)
  have hP : va_P D vwCl [(h0, .inr (5, [.ref st, .ref wd, .int 0])), (st, .inl (y 1, 8, .inl (zf tS1 8 f))), (wd, .inl (y 1, 80, .inl (upd (zf tW1 13 g) (nI 13).toNatClampNeg (0 : Int32)))), (sp, .inr (4, [w2, .int 0, .int 0]))] H := hP
  have hD : va_D A [(h0, .inr (5, [.ref st, .ref wd, .int 0])), (st, .inl (y 1, 8, .inl (zf tS1 8 f))), (wd, .inl (y 1, 80, .inl (upd (zf tW1 13 g) (nI 13).toNatClampNeg (0 : Int32)))), (sp, .inr (4, [w2, .int 0, .int 0]))] := hD
  have u81 : upd (zf tW1 13 g) (nI 13).toNatClampNeg (0 : Int32) = zf tW1 14 g := (zf_st (n := 13) (by decide) (by decide +kernel))
  rw [u81] at hP hD
  have hP : va_P D vwCl [(h0, .inr (5, [.ref st, .ref wd, .int 0])), (st, .inl (y 1, 8, .inl (zf tS1 8 f))), (wd, .inl (y 1, 80, .inl (zf tW1 14 g))), (sp, .inr (4, [w2, .int 0, .int 0]))] H := hP
  have hD : va_D A [(h0, .inr (5, [.ref st, .ref wd, .int 0])), (st, .inl (y 1, 8, .inl (zf tS1 8 f))), (wd, .inl (y 1, 80, .inl (zf tW1 14 g))), (sp, .inr (4, [w2, .int 0, .int 0]))] := hD
  refine lv_iinc (v := 14) (lv' := [(5, .int 14), (4, .int 0), (3, .int 1), (0, .ref h0), (1, .int 2), (2, .ref sp)]) hx hb dX1_make_108 hl (k := 0) rfl (by decide) (by decide) rfl (fun ls hl => ?_)
  refine lv_goto (tgt := 80) hx hb dX1_make_111 (by decide) ?_
  refine lv_iload hx hb dX1_make_80 (lv_at hl 0 rfl) ?_
  refine lv_bipush (v := 16) hx hb dX1_make_82 (by decide) ?_
  refine lv_icmp_ge (tgt := 114) hx hb dX1_make_84 (by decide) (fun c9 => absurd c9 (by decide)) (fun _ => ?_)
  refine lv_aload_n hx hb dX1_make_87 rfl (lv_at hl 3 rfl) ?_
  refine va_get (D := D) (ci := 5) (v := .ref wd) (C := RX1) (T := TX1) (N := 3) hx hb hts (by decide +kernel) hown hK hP 0 rfl rfl 1 (by decide) (hts (.fieldLink RX1 15 "SignetRing$Digest" "words" "[I") (by decide +kernel)) (fun _ h9 => h9) rfl dX1_make_88 ?_
  refine lv_iload hx hb dX1_make_91 (lv_at hl 0 rfl) ?_
  refine lv_aload_n hx hb dX1_make_93 rfl (lv_at hl 5 rfl) ?_
  refine lv_bipush (v := 64) hx hb dX1_make_94 (by decide) ?_
  refine lv_iload hx hb dX1_make_96 (lv_at hl 1 rfl) ?_
  refine lv_imul hx hb dX1_make_98 ?_
  refine lv_topi (fun v82 ev82 => ?_)
  have ev82 : v82 = 0 := ev82.trans (by decide +kernel)
  subst ev82
  refine lv_iconst (v := 4) hx hb dX1_make_99 (by decide) ?_
  refine lv_iload hx hb dX1_make_100 (lv_at hl 0 rfl) ?_
  refine lv_imul hx hb dX1_make_102 ?_
  refine lv_topi (fun v83 ev83 => ?_)
  have ev83 : v83 = 56 := ev83.trans (by decide +kernel)
  subst ev83
  refine lv_iadd hx hb dX1_make_103 ?_
  refine lv_topi (fun v84 ev84 => ?_)
  have ev84 : v84 = 56 := ev84.trans (by decide +kernel)
  subst ev84
  have hPc := hP.sub (ws' := [(sp, .inr (4, [w2, .int 0, .int 0]))]) [3] rfl
  have hDc := hD.sub (ws' := [(sp, .inr (4, [w2, .int 0, .int 0]))]) [3] (by decide) rfl
  have hFc := va_free (wc := [(sp, .inr (4, [w2, .int 0, .int 0]))]) hD hS hA [3] rfl
  refine va_calli (va_runS (As := [.ref sp, .int 56]) (rest := [.int 14, .ref wd]) ⟨hx, hb, hml, hown, hts⟩ (c_X1_wordOf_56 l D y H.size sp w2) (va_cwS 2 hts gv_c_X1_make_1_c_X1_wordOf_56_34 rfl rfl rfl (by decide +kernel) ⟨(Nat.le_of_ble_eq_true rfl), (Nat.le_of_ble_eq_true rfl)⟩) (zB.preS hPc hDc hK hN hE hO hT hG hS hFc (fun _ h => nomatch h) (fun _ h => nomatch h) (fun _ h => nomatch h) (fun _ h => nomatch h)) rfl rfl hl.1 rfl (lv_room (Nat.le_of_ble_eq_true rfl)) dX1_make_104 ⟨(Nat.le_of_ble_eq_true rfl), (Nat.le_of_ble_eq_true rfl)⟩) hS (fun q _ h => hFc q h) hFc (fun r85 u t H1 locs ht hvm hw hB hz1 hk1 hS => ?_)
  obtain ⟨hP1, hD1⟩ := hB
  rw [ht] at hP1
  obtain ⟨hP, hD⟩ := va_join (wr := [(h0, .inr (5, [.ref st, .ref wd, .int 0])), (st, .inl (y 1, 8, .inl (zf tS1 8 f))), (wd, .inl (y 1, 80, .inl (zf tW1 14 g)))]) (w1 := [(sp, .inr (4, [w2, .int 0, .int 0]))]) hP hD [3] [0, 1, 2] rfl rfl (by decide) (by decide) hk1 hFc hP1 hD1
  generalize H1 = H at hP hS ⊢
  have hP : va_P D vwCl [(h0, .inr (5, [.ref st, .ref wd, .int 0])), (st, .inl (y 1, 8, .inl (zf tS1 8 f))), (wd, .inl (y 1, 80, .inl (zf tW1 14 g))), (sp, .inr (4, [w2, .int 0, .int 0]))] H := hP
  have hD : va_D A [(h0, .inr (5, [.ref st, .ref wd, .int 0])), (st, .inl (y 1, 8, .inl (zf tS1 8 f))), (wd, .inl (y 1, 80, .inl (zf tW1 14 g))), (sp, .inr (4, [w2, .int 0, .int 0]))] := hD
  have hw : r85 = 0 := hw
  subst hw
  refine va_iast hx hb hK hP hD hS 2 1 rfl rfl (by unfold vp_in; decide) dX1_make_107 (fun H locs hP hD hS => ?_)
  have hP : va_P D vwCl [(h0, .inr (5, [.ref st, .ref wd, .int 0])), (st, .inl (y 1, 8, .inl (zf tS1 8 f))), (wd, .inl (y 1, 80, .inl (upd (zf tW1 14 g) (nI 14).toNatClampNeg (0 : Int32)))), (sp, .inr (4, [w2, .int 0, .int 0]))] H := hP
  have hD : va_D A [(h0, .inr (5, [.ref st, .ref wd, .int 0])), (st, .inl (y 1, 8, .inl (zf tS1 8 f))), (wd, .inl (y 1, 80, .inl (upd (zf tW1 14 g) (nI 14).toNatClampNeg (0 : Int32)))), (sp, .inr (4, [w2, .int 0, .int 0]))] := hD
  have u86 : upd (zf tW1 14 g) (nI 14).toNatClampNeg (0 : Int32) = zf tW1 15 g := (zf_st (n := 14) (by decide) (by decide +kernel))
  rw [u86] at hP hD
  have hP : va_P D vwCl [(h0, .inr (5, [.ref st, .ref wd, .int 0])), (st, .inl (y 1, 8, .inl (zf tS1 8 f))), (wd, .inl (y 1, 80, .inl (zf tW1 15 g))), (sp, .inr (4, [w2, .int 0, .int 0]))] H := hP
  have hD : va_D A [(h0, .inr (5, [.ref st, .ref wd, .int 0])), (st, .inl (y 1, 8, .inl (zf tS1 8 f))), (wd, .inl (y 1, 80, .inl (zf tW1 15 g))), (sp, .inr (4, [w2, .int 0, .int 0]))] := hD
  refine lv_iinc (v := 15) (lv' := [(5, .int 15), (4, .int 0), (3, .int 1), (0, .ref h0), (1, .int 2), (2, .ref sp)]) hx hb dX1_make_108 hl (k := 0) rfl (by decide) (by decide) rfl (fun ls hl => ?_)
  refine lv_goto (tgt := 80) hx hb dX1_make_111 (by decide) ?_
  refine lv_iload hx hb dX1_make_80 (lv_at hl 0 rfl) ?_
  refine lv_bipush (v := 16) hx hb dX1_make_82 (by decide) ?_
  refine lv_icmp_ge (tgt := 114) hx hb dX1_make_84 (by decide) (fun c9 => absurd c9 (by decide)) (fun _ => ?_)
  refine lv_aload_n hx hb dX1_make_87 rfl (lv_at hl 3 rfl) ?_
  refine va_get (D := D) (ci := 5) (v := .ref wd) (C := RX1) (T := TX1) (N := 3) hx hb hts (by decide +kernel) hown hK hP 0 rfl rfl 1 (by decide) (hts (.fieldLink RX1 15 "SignetRing$Digest" "words" "[I") (by decide +kernel)) (fun _ h9 => h9) rfl dX1_make_88 ?_
  refine lv_iload hx hb dX1_make_91 (lv_at hl 0 rfl) ?_
  refine lv_aload_n hx hb dX1_make_93 rfl (lv_at hl 5 rfl) ?_
  refine lv_bipush (v := 64) hx hb dX1_make_94 (by decide) ?_
  refine lv_iload hx hb dX1_make_96 (lv_at hl 1 rfl) ?_
  refine lv_imul hx hb dX1_make_98 ?_
  refine lv_topi (fun v87 ev87 => ?_)
  have ev87 : v87 = 0 := ev87.trans (by decide +kernel)
  subst ev87
  refine lv_iconst (v := 4) hx hb dX1_make_99 (by decide) ?_
  refine lv_iload hx hb dX1_make_100 (lv_at hl 0 rfl) ?_
  refine lv_imul hx hb dX1_make_102 ?_
  refine lv_topi (fun v88 ev88 => ?_)
  have ev88 : v88 = 60 := ev88.trans (by decide +kernel)
  subst ev88
  refine lv_iadd hx hb dX1_make_103 ?_
  refine lv_topi (fun v89 ev89 => ?_)
  have ev89 : v89 = 60 := ev89.trans (by decide +kernel)
  subst ev89
  have hPc := hP.sub (ws' := [(sp, .inr (4, [w2, .int 0, .int 0]))]) [3] rfl
  have hDc := hD.sub (ws' := [(sp, .inr (4, [w2, .int 0, .int 0]))]) [3] (by decide) rfl
  have hFc := va_free (wc := [(sp, .inr (4, [w2, .int 0, .int 0]))]) hD hS hA [3] rfl
  refine va_calli (va_runS (As := [.ref sp, .int 60]) (rest := [.int 15, .ref wd]) ⟨hx, hb, hml, hown, hts⟩ (c_X1_wordOf_60 l D y H.size sp w2) (va_cwS 2 hts gv_c_X1_make_1_c_X1_wordOf_60_34 rfl rfl rfl (by decide +kernel) ⟨(Nat.le_of_ble_eq_true rfl), (Nat.le_of_ble_eq_true rfl)⟩) (zB.preS hPc hDc hK hN hE hO hT hG hS hFc (fun _ h => nomatch h) (fun _ h => nomatch h) (fun _ h => nomatch h) (fun _ h => nomatch h)) rfl rfl hl.1 rfl (lv_room (Nat.le_of_ble_eq_true rfl)) dX1_make_104 ⟨(Nat.le_of_ble_eq_true rfl), (Nat.le_of_ble_eq_true rfl)⟩) hS (fun q _ h => hFc q h) hFc (fun r90 u t H1 locs ht hvm hw hB hz1 hk1 hS => ?_)
  obtain ⟨hP1, hD1⟩ := hB
  rw [ht] at hP1
  obtain ⟨hP, hD⟩ := va_join (wr := [(h0, .inr (5, [.ref st, .ref wd, .int 0])), (st, .inl (y 1, 8, .inl (zf tS1 8 f))), (wd, .inl (y 1, 80, .inl (zf tW1 15 g)))]) (w1 := [(sp, .inr (4, [w2, .int 0, .int 0]))]) hP hD [3] [0, 1, 2] rfl rfl (by decide) (by decide) hk1 hFc hP1 hD1
  generalize H1 = H at hP hS ⊢
  have hP : va_P D vwCl [(h0, .inr (5, [.ref st, .ref wd, .int 0])), (st, .inl (y 1, 8, .inl (zf tS1 8 f))), (wd, .inl (y 1, 80, .inl (zf tW1 15 g))), (sp, .inr (4, [w2, .int 0, .int 0]))] H := hP
  have hD : va_D A [(h0, .inr (5, [.ref st, .ref wd, .int 0])), (st, .inl (y 1, 8, .inl (zf tS1 8 f))), (wd, .inl (y 1, 80, .inl (zf tW1 15 g))), (sp, .inr (4, [w2, .int 0, .int 0]))] := hD
  have hw : r90 = 0 := hw
  subst hw
  refine va_iast hx hb hK hP hD hS 2 1 rfl rfl (by unfold vp_in; decide) dX1_make_107 (fun H locs hP hD hS => ?_)
  have hP : va_P D vwCl [(h0, .inr (5, [.ref st, .ref wd, .int 0])), (st, .inl (y 1, 8, .inl (zf tS1 8 f))), (wd, .inl (y 1, 80, .inl (upd (zf tW1 15 g) (nI 15).toNatClampNeg (0 : Int32)))), (sp, .inr (4, [w2, .int 0, .int 0]))] H := hP
  have hD : va_D A [(h0, .inr (5, [.ref st, .ref wd, .int 0])), (st, .inl (y 1, 8, .inl (zf tS1 8 f))), (wd, .inl (y 1, 80, .inl (upd (zf tW1 15 g) (nI 15).toNatClampNeg (0 : Int32)))), (sp, .inr (4, [w2, .int 0, .int 0]))] := hD
  have u91 : upd (zf tW1 15 g) (nI 15).toNatClampNeg (0 : Int32) = zf tW1 16 g := (zf_st (n := 15) (by decide) (by decide +kernel))
  rw [u91] at hP hD
  have hP : va_P D vwCl [(h0, .inr (5, [.ref st, .ref wd, .int 0])), (st, .inl (y 1, 8, .inl (zf tS1 8 f))), (wd, .inl (y 1, 80, .inl (zf tW1 16 g))), (sp, .inr (4, [w2, .int 0, .int 0]))] H := hP
  have hD : va_D A [(h0, .inr (5, [.ref st, .ref wd, .int 0])), (st, .inl (y 1, 8, .inl (zf tS1 8 f))), (wd, .inl (y 1, 80, .inl (zf tW1 16 g))), (sp, .inr (4, [w2, .int 0, .int 0]))] := hD
  refine lv_iinc (v := 16) (lv' := [(5, .int 16), (4, .int 0), (3, .int 1), (0, .ref h0), (1, .int 2), (2, .ref sp)]) hx hb dX1_make_108 hl (k := 0) rfl (by decide) (by decide) rfl (fun ls hl => ?_)
  refine lv_goto (tgt := 80) hx hb dX1_make_111 (by decide) ?_
  refine lv_iload hx hb dX1_make_80 (lv_at hl 0 rfl) ?_
  refine lv_bipush (v := 16) hx hb dX1_make_82 (by decide) ?_
  refine lv_icmp_ge (tgt := 114) hx hb dX1_make_84 (by decide) (fun _ => ?_) (fun c9 => absurd (by decide) c9)
  refine lv_iload hx hb dX1_make_114 (lv_at hl 1 rfl) ?_
  refine lv_iload_n hx hb dX1_make_116 rfl (lv_at hl 2 rfl) ?_
  refine lv_iconst (v := 1) hx hb dX1_make_117 (by decide) ?_
  refine lv_isub hx hb dX1_make_118 ?_
  refine lv_topi (fun v92 ev92 => ?_)
  have ev92 : v92 = 0 := ev92.trans (by decide +kernel)
  subst ev92
  refine lv_icmp_ne (tgt := 136) hx hb dX1_make_119 (by decide) (fun c9 => absurd (by decide) c9) (fun _ => ?_)
  refine lv_aload_n hx hb dX1_make_122 rfl (lv_at hl 3 rfl) ?_
  refine va_get (D := D) (ci := 5) (v := .ref wd) (C := RX1) (T := TX1) (N := 3) hx hb hts (by decide +kernel) hown hK hP 0 rfl rfl 1 (by decide) (hts (.fieldLink RX1 15 "SignetRing$Digest" "words" "[I") (by decide +kernel)) (fun _ h9 => h9) rfl dX1_make_123 ?_
  refine lv_bipush (v := 15) hx hb dX1_make_126 (by decide) ?_
  refine lv_bipush (v := 8) hx hb dX1_make_128 (by decide) ?_
  refine lv_aload_n hx hb dX1_make_130 rfl (lv_at hl 5 rfl) ?_
  refine va_get (D := D) (ci := 4) (v := .int 0) (C := RX0) (T := TX0) (N := 3) hx hb hts (by decide +kernel) hown hK hP 3 rfl rfl 2 (by decide) (hts (.fieldLink RX1 28 "SignetRing$Span" "size" "I") (by decide +kernel)) (fun _ h9 => h9) rfl dX1_make_131 ?_
  refine lv_imul hx hb dX1_make_134 ?_
  refine lv_topi (fun v93 ev93 => ?_)
  have ev93 : v93 = 0 := ev93.trans (by decide +kernel)
  subst ev93
  refine va_iast hx hb hK hP hD hS 2 1 rfl rfl (by unfold vp_in; decide) dX1_make_135 (fun H locs hP hD hS => ?_)
  have hP : va_P D vwCl [(h0, .inr (5, [.ref st, .ref wd, .int 0])), (st, .inl (y 1, 8, .inl (zf tS1 8 f))), (wd, .inl (y 1, 80, .inl (upd (zf tW1 16 g) (nI 15).toNatClampNeg (0 : Int32)))), (sp, .inr (4, [w2, .int 0, .int 0]))] H := hP
  have hD : va_D A [(h0, .inr (5, [.ref st, .ref wd, .int 0])), (st, .inl (y 1, 8, .inl (zf tS1 8 f))), (wd, .inl (y 1, 80, .inl (upd (zf tW1 16 g) (nI 15).toNatClampNeg (0 : Int32)))), (sp, .inr (4, [w2, .int 0, .int 0]))] := hD
  have u94 : upd (zf tW1 16 g) (nI 15).toNatClampNeg (0 : Int32) = zf tW1 16 g := (zf_ow (j := 15) (by omega) (by omega) (by decide +kernel))
  rw [u94] at hP hD
  have hP : va_P D vwCl [(h0, .inr (5, [.ref st, .ref wd, .int 0])), (st, .inl (y 1, 8, .inl (zf tS1 8 f))), (wd, .inl (y 1, 80, .inl (zf tW1 16 g))), (sp, .inr (4, [w2, .int 0, .int 0]))] H := hP
  have hD : va_D A [(h0, .inr (5, [.ref st, .ref wd, .int 0])), (st, .inl (y 1, 8, .inl (zf tS1 8 f))), (wd, .inl (y 1, 80, .inl (zf tW1 16 g))), (sp, .inr (4, [w2, .int 0, .int 0]))] := hD
  refine lv_aload_n hx hb dX1_make_136 rfl (lv_at hl 3 rfl) ?_
  refine va_get (D := D) (ci := 5) (v := .int 0) (C := RX1) (T := TX1) (N := 3) hx hb hts (by decide +kernel) hown hK hP 0 rfl rfl 2 (by decide) (hts (.fieldLink RX1 18 "SignetRing$Digest" "second" "Z") (by decide +kernel)) (fun _ h9 => h9) rfl dX1_make_137 ?_
  refine lv_if_eq (tgt := 150) hx hb dX1_make_140 (by decide) (fun _ => ?_) (fun c9 => absurd (by decide) c9)
  refine lv_aload_n hx hb dX1_make_150 rfl (lv_at hl 3 rfl) ?_
  have hPc := hP.sub (ws' := [(h0, .inr (5, [.ref st, .ref wd, .int 0])), (st, .inl (y 1, 8, .inl (zf tS1 8 f))), (wd, .inl (y 1, 80, .inl (zf tW1 16 g)))]) [0, 1, 2] rfl
  have hDc := hD.sub (ws' := [(h0, .inr (5, [.ref st, .ref wd, .int 0])), (st, .inl (y 1, 8, .inl (zf tS1 8 f))), (wd, .inl (y 1, 80, .inl (zf tW1 16 g)))]) [0, 1, 2] (by decide) rfl
  have hFc := va_free (wc := [(h0, .inr (5, [.ref st, .ref wd, .int 0])), (st, .inl (y 1, 8, .inl (zf tS1 8 f))), (wd, .inl (y 1, 80, .inl (zf tW1 16 g)))]) hD hS hA [0, 1, 2] rfl
  refine va_callv (va_runV (As := []) (rest := []) ⟨hx, hb, hml, hown, hts⟩ (c_X1_mixFirst l D y H.size h0 st wd ((.int 0)) f g) (cwV 0 hts gv_c_X1_make_1_c_X1_mixFirst_41 rfl rfl rfl (by decide +kernel) ⟨(Nat.le_of_ble_eq_true rfl), (Nat.le_of_ble_eq_true rfl)⟩) (zB.preV hPc hDc hK hN hE hO hT hG hS hFc (fun _ h => nomatch h) (fun _ h => nomatch h) (fun _ h => nomatch h) (fun _ h => nomatch h) (va_recv hK hPc (ci := 5) (q0 := 0) rfl rfl)) rfl rfl hl.1 rfl (lv_room (Nat.le_of_ble_eq_true rfl)) dX1_make_151 ⟨(Nat.le_of_ble_eq_true rfl), (Nat.le_of_ble_eq_true rfl)⟩) hS (fun q _ h => hFc q h) hFc (fun u t H1 locs ht hvm hw hB hz1 hk1 hS => ?_)
  obtain ⟨hP1, hD1⟩ := hB
  rw [ht] at hP1
  obtain ⟨hP, hD⟩ := va_join (wr := [(sp, .inr (4, [w2, .int 0, .int 0]))]) (w1 := [(h0, .inr (5, [.ref st, .ref wd, .int 0])), (st, .inl (y 1, 8, .inl (zf tD1 5 (zf tS1 8 f)))), (wd, .inl (y 1, 80, .inl (zf tW1 80 g)))]) hP hD [0, 1, 2] [3] rfl rfl (by decide) (by decide) hk1 hFc hP1 hD1
  generalize H1 = H at hP hS ⊢
  have hP : va_P D vwCl [(sp, .inr (4, [w2, .int 0, .int 0])), (h0, .inr (5, [.ref st, .ref wd, .int 0])), (st, .inl (y 1, 8, .inl (zf tD1 5 (zf tS1 8 f)))), (wd, .inl (y 1, 80, .inl (zf tW1 80 g)))] H := hP
  have hD : va_D A [(sp, .inr (4, [w2, .int 0, .int 0])), (h0, .inr (5, [.ref st, .ref wd, .int 0])), (st, .inl (y 1, 8, .inl (zf tD1 5 (zf tS1 8 f)))), (wd, .inl (y 1, 80, .inl (zf tW1 80 g)))] := hD
  refine lv_iinc (v := 1) (lv' := [(4, .int 1), (5, .int 16), (3, .int 1), (0, .ref h0), (1, .int 2), (2, .ref sp)]) hx hb dX1_make_154 hl (k := 1) rfl (by decide) (by decide) rfl (fun ls hl => ?_)
  refine lv_goto (tgt := 71) hx hb dX1_make_157 (by decide) ?_
  refine lv_iload hx hb dX1_make_71 (lv_at hl 0 rfl) ?_
  refine lv_iload_n hx hb dX1_make_73 rfl (lv_at hl 2 rfl) ?_
  refine lv_icmp_ge (tgt := 160) hx hb dX1_make_74 (by decide) (fun _ => ?_) (fun c9 => absurd (by decide) c9)
  have hP9 := hP.sub (ws' := [(h0, .inr (5, [.ref st, .ref wd, .int 0])), (st, .inl (y 1, 8, .inl (zf tD1 5 (zf tS1 8 f)))), (wd, .inl (y 1, 80, .inl (zf tW1 80 g))), (sp, .inr (4, [w2, .int 0, .int 0]))]) [1, 2, 3, 0] rfl
  have hD9 := hD.sub (ws' := [(h0, .inr (5, [.ref st, .ref wd, .int 0])), (st, .inl (y 1, 8, .inl (zf tD1 5 (zf tS1 8 f)))), (wd, .inl (y 1, 80, .inl (zf tW1 80 g))), (sp, .inr (4, [w2, .int 0, .int 0]))]) [1, 2, 3, 0] (by decide) rfl
  refine W.widen (k := 0) (n := 0) (Nat.le_of_ble_eq_true rfl) (Nat.le_of_ble_eq_true rfl) ?_
  exact W.vret hx hb hr (fun t ht hW => ⟨⟨(), rfl, trivial, by rw [ht]; exact hP9, hD9⟩, hS.F ht⟩) hS.2.2 dX1_make_160
def wz_c_X1_make_2 : List Cond := .code yX1_make cX1_make 6 none :: ([.fieldLink RX1 18 "SignetRing$Digest" "second" "Z", .fieldLink RX1 9 "SignetRing$Digest" "state" "[I", .fieldLink RX1 22 "SignetRing$Digest" "START_SECOND" "[I", .fieldLink RX1 28 "SignetRing$Span" "size" "I", .fieldLink RX1 15 "SignetRing$Digest" "words" "[I", .methodLink RX1 34 yX1_wordOf, .static yX1_wordOf, .initialized RX1, .methodLink RX1 38 yX1_mixSecond, .instanceMethod yX1_mixSecond, .selects RX1 yX1_mixSecond yX1_mixSecond] ++ (wsX10 ++ (wsX00 ++ (wz_c_X1_wordOf_0 ++ (wz_c_X1_wordOf_4 ++ (wz_c_X1_wordOf_8 ++ (wz_c_X1_wordOf_12 ++ (wz_c_X1_wordOf_16 ++ (wz_c_X1_wordOf_20 ++ (wz_c_X1_wordOf_24 ++ (wz_c_X1_wordOf_28 ++ (wz_c_X1_wordOf_32 ++ (wz_c_X1_wordOf_36 ++ (wz_c_X1_wordOf_40 ++ (wz_c_X1_wordOf_44 ++ (wz_c_X1_wordOf_48 ++ (wz_c_X1_wordOf_52 ++ (wz_c_X1_wordOf_56 ++ (wz_c_X1_wordOf_60 ++ (wz_c_X1_mixSecond ++ ([])))))))))))))))))))))
set_option maxRecDepth 100000 in
theorem gz_c_X1_make_2_c_X1_wordOf_0 : GoodIn wz_c_X1_make_2 wz_c_X1_wordOf_0 := goodIn_sub (fun w h => List.mem_cons_of_mem _ (List.mem_append_right _ (List.mem_append_right _ (List.mem_append_right _ (List.mem_append_left _ h))))) (by decide +kernel)
set_option maxRecDepth 100000 in
theorem gz_c_X1_make_2_c_X1_wordOf_4 : GoodIn wz_c_X1_make_2 wz_c_X1_wordOf_4 := goodIn_sub (fun w h => List.mem_cons_of_mem _ (List.mem_append_right _ (List.mem_append_right _ (List.mem_append_right _ (List.mem_append_right _ (List.mem_append_left _ h)))))) (by decide +kernel)
set_option maxRecDepth 100000 in
theorem gz_c_X1_make_2_c_X1_wordOf_8 : GoodIn wz_c_X1_make_2 wz_c_X1_wordOf_8 := goodIn_sub (fun w h => List.mem_cons_of_mem _ (List.mem_append_right _ (List.mem_append_right _ (List.mem_append_right _ (List.mem_append_right _ (List.mem_append_right _ (List.mem_append_left _ h))))))) (by decide +kernel)
set_option maxRecDepth 100000 in
theorem gz_c_X1_make_2_c_X1_wordOf_12 : GoodIn wz_c_X1_make_2 wz_c_X1_wordOf_12 := goodIn_sub (fun w h => List.mem_cons_of_mem _ (List.mem_append_right _ (List.mem_append_right _ (List.mem_append_right _ (List.mem_append_right _ (List.mem_append_right _ (List.mem_append_right _ (List.mem_append_left _ h)))))))) (by decide +kernel)
set_option maxRecDepth 100000 in
theorem gz_c_X1_make_2_c_X1_wordOf_16 : GoodIn wz_c_X1_make_2 wz_c_X1_wordOf_16 := goodIn_sub (fun w h => List.mem_cons_of_mem _ (List.mem_append_right _ (List.mem_append_right _ (List.mem_append_right _ (List.mem_append_right _ (List.mem_append_right _ (List.mem_append_right _ (List.mem_append_right _ (List.mem_append_left _ h))))))))) (by decide +kernel)
set_option maxRecDepth 100000 in
theorem gz_c_X1_make_2_c_X1_wordOf_20 : GoodIn wz_c_X1_make_2 wz_c_X1_wordOf_20 := goodIn_sub (fun w h => List.mem_cons_of_mem _ (List.mem_append_right _ (List.mem_append_right _ (List.mem_append_right _ (List.mem_append_right _ (List.mem_append_right _ (List.mem_append_right _ (List.mem_append_right _ (List.mem_append_right _ (List.mem_append_left _ h)))))))))) (by decide +kernel)
set_option maxRecDepth 100000 in
theorem gz_c_X1_make_2_c_X1_wordOf_24 : GoodIn wz_c_X1_make_2 wz_c_X1_wordOf_24 := goodIn_sub (fun w h => List.mem_cons_of_mem _ (List.mem_append_right _ (List.mem_append_right _ (List.mem_append_right _ (List.mem_append_right _ (List.mem_append_right _ (List.mem_append_right _ (List.mem_append_right _ (List.mem_append_right _ (List.mem_append_right _ (List.mem_append_left _ h))))))))))) (by decide +kernel)
set_option maxRecDepth 100000 in
theorem gz_c_X1_make_2_c_X1_wordOf_28 : GoodIn wz_c_X1_make_2 wz_c_X1_wordOf_28 := goodIn_sub (fun w h => List.mem_cons_of_mem _ (List.mem_append_right _ (List.mem_append_right _ (List.mem_append_right _ (List.mem_append_right _ (List.mem_append_right _ (List.mem_append_right _ (List.mem_append_right _ (List.mem_append_right _ (List.mem_append_right _ (List.mem_append_right _ (List.mem_append_left _ h)))))))))))) (by decide +kernel)
set_option maxRecDepth 100000 in
theorem gz_c_X1_make_2_c_X1_wordOf_32 : GoodIn wz_c_X1_make_2 wz_c_X1_wordOf_32 := goodIn_sub (fun w h => List.mem_cons_of_mem _ (List.mem_append_right _ (List.mem_append_right _ (List.mem_append_right _ (List.mem_append_right _ (List.mem_append_right _ (List.mem_append_right _ (List.mem_append_right _ (List.mem_append_right _ (List.mem_append_right _ (List.mem_append_right _ (List.mem_append_right _ (List.mem_append_left _ h))))))))))))) (by decide +kernel)
set_option maxRecDepth 100000 in
theorem gz_c_X1_make_2_c_X1_wordOf_36 : GoodIn wz_c_X1_make_2 wz_c_X1_wordOf_36 := goodIn_sub (fun w h => List.mem_cons_of_mem _ (List.mem_append_right _ (List.mem_append_right _ (List.mem_append_right _ (List.mem_append_right _ (List.mem_append_right _ (List.mem_append_right _ (List.mem_append_right _ (List.mem_append_right _ (List.mem_append_right _ (List.mem_append_right _ (List.mem_append_right _ (List.mem_append_right _ (List.mem_append_left _ h)))))))))))))) (by decide +kernel)
set_option maxRecDepth 100000 in
theorem gz_c_X1_make_2_c_X1_wordOf_40 : GoodIn wz_c_X1_make_2 wz_c_X1_wordOf_40 := goodIn_sub (fun w h => List.mem_cons_of_mem _ (List.mem_append_right _ (List.mem_append_right _ (List.mem_append_right _ (List.mem_append_right _ (List.mem_append_right _ (List.mem_append_right _ (List.mem_append_right _ (List.mem_append_right _ (List.mem_append_right _ (List.mem_append_right _ (List.mem_append_right _ (List.mem_append_right _ (List.mem_append_right _ (List.mem_append_left _ h))))))))))))))) (by decide +kernel)
set_option maxRecDepth 100000 in
theorem gz_c_X1_make_2_c_X1_wordOf_44 : GoodIn wz_c_X1_make_2 wz_c_X1_wordOf_44 := goodIn_sub (fun w h => List.mem_cons_of_mem _ (List.mem_append_right _ (List.mem_append_right _ (List.mem_append_right _ (List.mem_append_right _ (List.mem_append_right _ (List.mem_append_right _ (List.mem_append_right _ (List.mem_append_right _ (List.mem_append_right _ (List.mem_append_right _ (List.mem_append_right _ (List.mem_append_right _ (List.mem_append_right _ (List.mem_append_right _ (List.mem_append_left _ h)))))))))))))))) (by decide +kernel)
set_option maxRecDepth 100000 in
theorem gz_c_X1_make_2_c_X1_wordOf_48 : GoodIn wz_c_X1_make_2 wz_c_X1_wordOf_48 := goodIn_sub (fun w h => List.mem_cons_of_mem _ (List.mem_append_right _ (List.mem_append_right _ (List.mem_append_right _ (List.mem_append_right _ (List.mem_append_right _ (List.mem_append_right _ (List.mem_append_right _ (List.mem_append_right _ (List.mem_append_right _ (List.mem_append_right _ (List.mem_append_right _ (List.mem_append_right _ (List.mem_append_right _ (List.mem_append_right _ (List.mem_append_right _ (List.mem_append_left _ h))))))))))))))))) (by decide +kernel)
set_option maxRecDepth 100000 in
theorem gz_c_X1_make_2_c_X1_wordOf_52 : GoodIn wz_c_X1_make_2 wz_c_X1_wordOf_52 := goodIn_sub (fun w h => List.mem_cons_of_mem _ (List.mem_append_right _ (List.mem_append_right _ (List.mem_append_right _ (List.mem_append_right _ (List.mem_append_right _ (List.mem_append_right _ (List.mem_append_right _ (List.mem_append_right _ (List.mem_append_right _ (List.mem_append_right _ (List.mem_append_right _ (List.mem_append_right _ (List.mem_append_right _ (List.mem_append_right _ (List.mem_append_right _ (List.mem_append_right _ (List.mem_append_left _ h)))))))))))))))))) (by decide +kernel)
set_option maxRecDepth 100000 in
theorem gz_c_X1_make_2_c_X1_wordOf_56 : GoodIn wz_c_X1_make_2 wz_c_X1_wordOf_56 := goodIn_sub (fun w h => List.mem_cons_of_mem _ (List.mem_append_right _ (List.mem_append_right _ (List.mem_append_right _ (List.mem_append_right _ (List.mem_append_right _ (List.mem_append_right _ (List.mem_append_right _ (List.mem_append_right _ (List.mem_append_right _ (List.mem_append_right _ (List.mem_append_right _ (List.mem_append_right _ (List.mem_append_right _ (List.mem_append_right _ (List.mem_append_right _ (List.mem_append_right _ (List.mem_append_right _ (List.mem_append_left _ h))))))))))))))))))) (by decide +kernel)
set_option maxRecDepth 100000 in
theorem gz_c_X1_make_2_c_X1_wordOf_60 : GoodIn wz_c_X1_make_2 wz_c_X1_wordOf_60 := goodIn_sub (fun w h => List.mem_cons_of_mem _ (List.mem_append_right _ (List.mem_append_right _ (List.mem_append_right _ (List.mem_append_right _ (List.mem_append_right _ (List.mem_append_right _ (List.mem_append_right _ (List.mem_append_right _ (List.mem_append_right _ (List.mem_append_right _ (List.mem_append_right _ (List.mem_append_right _ (List.mem_append_right _ (List.mem_append_right _ (List.mem_append_right _ (List.mem_append_right _ (List.mem_append_right _ (List.mem_append_right _ (List.mem_append_left _ h)))))))))))))))))))) (by decide +kernel)
set_option maxRecDepth 100000 in
theorem gz_c_X1_make_2_c_X1_mixSecond : GoodIn wz_c_X1_make_2 wz_c_X1_mixSecond := goodIn_sub (fun w h => List.mem_cons_of_mem _ (List.mem_append_right _ (List.mem_append_right _ (List.mem_append_right _ (List.mem_append_right _ (List.mem_append_right _ (List.mem_append_right _ (List.mem_append_right _ (List.mem_append_right _ (List.mem_append_right _ (List.mem_append_right _ (List.mem_append_right _ (List.mem_append_right _ (List.mem_append_right _ (List.mem_append_right _ (List.mem_append_right _ (List.mem_append_right _ (List.mem_append_right _ (List.mem_append_right _ (List.mem_append_right _ (List.mem_append_left _ h))))))))))))))))))))) (by decide +kernel)
set_option maxRecDepth 100000 in
theorem gv_c_X1_make_2_c_X1_wordOf_0_34 : GoodIn wz_c_X1_make_2 (va_wsS RX1 34 yX1_wordOf wz_c_X1_wordOf_0) := goodIn_app (goodIn_of _ (by decide +kernel)) gz_c_X1_make_2_c_X1_wordOf_0
set_option maxRecDepth 100000 in
theorem gv_c_X1_make_2_c_X1_wordOf_4_34 : GoodIn wz_c_X1_make_2 (va_wsS RX1 34 yX1_wordOf wz_c_X1_wordOf_4) := goodIn_app (goodIn_of _ (by decide +kernel)) gz_c_X1_make_2_c_X1_wordOf_4
set_option maxRecDepth 100000 in
theorem gv_c_X1_make_2_c_X1_wordOf_8_34 : GoodIn wz_c_X1_make_2 (va_wsS RX1 34 yX1_wordOf wz_c_X1_wordOf_8) := goodIn_app (goodIn_of _ (by decide +kernel)) gz_c_X1_make_2_c_X1_wordOf_8
set_option maxRecDepth 100000 in
theorem gv_c_X1_make_2_c_X1_wordOf_12_34 : GoodIn wz_c_X1_make_2 (va_wsS RX1 34 yX1_wordOf wz_c_X1_wordOf_12) := goodIn_app (goodIn_of _ (by decide +kernel)) gz_c_X1_make_2_c_X1_wordOf_12
set_option maxRecDepth 100000 in
theorem gv_c_X1_make_2_c_X1_wordOf_16_34 : GoodIn wz_c_X1_make_2 (va_wsS RX1 34 yX1_wordOf wz_c_X1_wordOf_16) := goodIn_app (goodIn_of _ (by decide +kernel)) gz_c_X1_make_2_c_X1_wordOf_16
set_option maxRecDepth 100000 in
theorem gv_c_X1_make_2_c_X1_wordOf_20_34 : GoodIn wz_c_X1_make_2 (va_wsS RX1 34 yX1_wordOf wz_c_X1_wordOf_20) := goodIn_app (goodIn_of _ (by decide +kernel)) gz_c_X1_make_2_c_X1_wordOf_20
set_option maxRecDepth 100000 in
theorem gv_c_X1_make_2_c_X1_wordOf_24_34 : GoodIn wz_c_X1_make_2 (va_wsS RX1 34 yX1_wordOf wz_c_X1_wordOf_24) := goodIn_app (goodIn_of _ (by decide +kernel)) gz_c_X1_make_2_c_X1_wordOf_24
set_option maxRecDepth 100000 in
theorem gv_c_X1_make_2_c_X1_wordOf_28_34 : GoodIn wz_c_X1_make_2 (va_wsS RX1 34 yX1_wordOf wz_c_X1_wordOf_28) := goodIn_app (goodIn_of _ (by decide +kernel)) gz_c_X1_make_2_c_X1_wordOf_28
set_option maxRecDepth 100000 in
theorem gv_c_X1_make_2_c_X1_wordOf_32_34 : GoodIn wz_c_X1_make_2 (va_wsS RX1 34 yX1_wordOf wz_c_X1_wordOf_32) := goodIn_app (goodIn_of _ (by decide +kernel)) gz_c_X1_make_2_c_X1_wordOf_32
set_option maxRecDepth 100000 in
theorem gv_c_X1_make_2_c_X1_wordOf_36_34 : GoodIn wz_c_X1_make_2 (va_wsS RX1 34 yX1_wordOf wz_c_X1_wordOf_36) := goodIn_app (goodIn_of _ (by decide +kernel)) gz_c_X1_make_2_c_X1_wordOf_36
set_option maxRecDepth 100000 in
theorem gv_c_X1_make_2_c_X1_wordOf_40_34 : GoodIn wz_c_X1_make_2 (va_wsS RX1 34 yX1_wordOf wz_c_X1_wordOf_40) := goodIn_app (goodIn_of _ (by decide +kernel)) gz_c_X1_make_2_c_X1_wordOf_40
set_option maxRecDepth 100000 in
theorem gv_c_X1_make_2_c_X1_wordOf_44_34 : GoodIn wz_c_X1_make_2 (va_wsS RX1 34 yX1_wordOf wz_c_X1_wordOf_44) := goodIn_app (goodIn_of _ (by decide +kernel)) gz_c_X1_make_2_c_X1_wordOf_44
set_option maxRecDepth 100000 in
theorem gv_c_X1_make_2_c_X1_wordOf_48_34 : GoodIn wz_c_X1_make_2 (va_wsS RX1 34 yX1_wordOf wz_c_X1_wordOf_48) := goodIn_app (goodIn_of _ (by decide +kernel)) gz_c_X1_make_2_c_X1_wordOf_48
set_option maxRecDepth 100000 in
theorem gv_c_X1_make_2_c_X1_wordOf_52_34 : GoodIn wz_c_X1_make_2 (va_wsS RX1 34 yX1_wordOf wz_c_X1_wordOf_52) := goodIn_app (goodIn_of _ (by decide +kernel)) gz_c_X1_make_2_c_X1_wordOf_52
set_option maxRecDepth 100000 in
theorem gv_c_X1_make_2_c_X1_wordOf_56_34 : GoodIn wz_c_X1_make_2 (va_wsS RX1 34 yX1_wordOf wz_c_X1_wordOf_56) := goodIn_app (goodIn_of _ (by decide +kernel)) gz_c_X1_make_2_c_X1_wordOf_56
set_option maxRecDepth 100000 in
theorem gv_c_X1_make_2_c_X1_wordOf_60_34 : GoodIn wz_c_X1_make_2 (va_wsS RX1 34 yX1_wordOf wz_c_X1_wordOf_60) := goodIn_app (goodIn_of _ (by decide +kernel)) gz_c_X1_make_2_c_X1_wordOf_60
set_option maxRecDepth 100000 in
theorem gv_c_X1_make_2_c_X1_mixSecond_38 : GoodIn wz_c_X1_make_2 (wsV RX1 38 RX1 yX1_mixSecond wz_c_X1_mixSecond) := goodIn_app (goodIn_of _ (by decide +kernel)) gz_c_X1_make_2_c_X1_mixSecond
set_option maxHeartbeats 4000000 in
set_option maxRecDepth 100000 in
theorem c_X1_make_2 (l : Launch) (D : va_G) (y : Nat → ClassId) (sz : Nat) (h0 : Nat) (st : Nat) (wd : Nat) (w1 : Value) (sp : Nat) (w2 : Value) (f : Nat → Int32) (g : Nat → Int32) (e2 : Nat) (e3 : Nat) : Met l yX1_make wz_c_X1_make_2 ({ frames := 2, cells := 0, slots := 0, locals := 50 }) (va_Pc [.ref h0, .int 8, .ref sp] (zB D y [(h0, .inr (5, [.ref st, .ref wd, w1])), (st, .inl (y 1, 8, .inl f)), (wd, .inl (y 1, 80, .inl g)), (sp, .inr (4, [w2, .int 0, .int 0]))] sz [] [("SignetRing$Digest", "START_SECOND", "[I", .ref e2), ("SignetRing$Digest", "ROUNDS", "[I", .ref e3)] [] [.inl (e2, 8, tS2), .inl (e3, 64, tK)])) (va_Qv (fun _ : Unit => True) (fun _ t => va_P D vwCl [(h0, .inr (5, [.ref st, .ref wd, .int 1])), (st, .inl (y 1, 8, .inl (zf tD2 8 (zf tS2 8 f)))), (wd, .inl (y 1, 80, .inl (zf tW2 64 g))), (sp, .inr (4, [w2, .int 0, .int 0]))] t.heap ∧ va_D (va_A [(h0, .inr (5, [.ref st, .ref wd, w1])), (st, .inl (y 1, 8, .inl f)), (wd, .inl (y 1, 80, .inl g)), (sp, .inr (4, [w2, .int 0, .int 0]))] sz) [(h0, .inr (5, [.ref st, .ref wd, .int 1])), (st, .inl (y 1, 8, .inl (zf tD2 8 (zf tS2 8 f)))), (wd, .inl (y 1, 80, .inl (zf tW2 64 g))), (sp, .inr (4, [w2, .int 0, .int 0]))]) (va_A [(h0, .inr (5, [.ref st, .ref wd, w1])), (st, .inl (y 1, 8, .inl f)), (wd, .inl (y 1, 80, .inl g)), (sp, .inr (4, [w2, .int 0, .int 0]))] sz)) 0 0 (va_A [(h0, .inr (5, [.ref st, .ref wd, w1])), (st, .inl (y 1, 8, .inl f)), (wd, .inl (y 1, 80, .inl g)), (sp, .inr (4, [w2, .int 0, .int 0]))] sz) := by
  refine Met.ofW (cc := cX1_make) (maxL := 6) (ret := none) (by decide) rfl ?_
  intro p e s m args below meth c s₁ B hml hv
  obtain ⟨rfl, hsz, hP, hK, hD0, hN, hE, hO, hT, hG⟩ := hv
  have hx := B.exec
  have hb := B.bytes
  have hr := B.returns
  have hts := atoms_spec (ws := wz_c_X1_make_2) B.pre
  have hown : s.vm.findClass RX1 = some m.cls := findClass_of_methodNamed B.named
  have hlocks := B.notSynchronized
  subst hsz
  have hD := hD0.self (sz := s.heap.size)
  generalize hAe : va_A [(h0, .inr (5, [.ref st, .ref wd, w1])), (st, .inl (y 1, 8, .inl f)), (wd, .inl (y 1, 80, .inl g)), (sp, .inr (4, [w2, .int 0, .int 0]))] s.heap.size = A at hD hE hT hG ⊢
  have hA : ∀ q : Nat, s.heap.size ≤ q → A q := fun q h => by rw [← hAe]; exact Or.inr h
  have hS : va_S A s.heap s.heap [] := va_S.rf
  have hl := lv_entry ([.ref h0, .int 8, .ref sp]) (n := 6) (Nat.le_of_ble_eq_true rfl)
  rw [lg_entry_eq]
  generalize (lg_sl ([.ref h0, .int 8, .ref sp]) ++ List.replicate (6 - (lg_sl ([.ref h0, .int 8, .ref sp])).length) Slot.unset).toArray = ls at hl ⊢
  have hl : lv_has ls 6 [(0, .ref h0), (1, .int 8), (2, .ref sp)] := hl
  refine lv_aload_n hx hb dX1_make_0 rfl (lv_at hl 0 rfl) ?_
  refine lv_iload_n hx hb dX1_make_1 rfl (lv_at hl 1 rfl) ?_
  refine lv_bipush (v := 8) hx hb dX1_make_2 (by decide) ?_
  refine lv_icmp_ne (tgt := 11) hx hb dX1_make_4 (by decide) (fun c9 => absurd (by decide) c9) (fun _ => ?_)
  refine lv_iconst (v := 1) hx hb dX1_make_7 (by decide) ?_
  refine lv_goto (tgt := 12) hx hb dX1_make_8 (by decide) ?_
  refine va_put (D := D) (ci := 5) (v := .int 1) (ty := .boolean) (C := RX1) (T := TX1) (N := 3) hx hb hts (by decide +kernel) tyX1 tyX1_ok nmX1 hown hK hP hD hS 0 rfl rfl 2 (by decide) (hts (.fieldLink RX1 18 "SignetRing$Digest" "second" "Z") (by decide +kernel)) (fun _ h9 => h9) rfl (by decide +kernel) rfl rfl (Nat.le_of_ble_eq_true rfl) dX1_make_12 (fun H locs hP hD hS => ?_)
  have hP : va_P D vwCl [(h0, .inr (5, [.ref st, .ref wd, .int 1])), (st, .inl (y 1, 8, .inl f)), (wd, .inl (y 1, 80, .inl g)), (sp, .inr (4, [w2, .int 0, .int 0]))] H := hP
  have hD : va_D A [(h0, .inr (5, [.ref st, .ref wd, .int 1])), (st, .inl (y 1, 8, .inl f)), (wd, .inl (y 1, 80, .inl g)), (sp, .inr (4, [w2, .int 0, .int 0]))] := hD
  refine lv_iconst (v := 0) hx hb dX1_make_15 (by decide) ?_
  refine lv_istore_n (lv' := [(3, .int 0), (0, .ref h0), (1, .int 8), (2, .ref sp)]) hx hb dX1_make_16 rfl hl (by decide) rfl (fun ls hl => ?_)
  refine lv_iload_n hx hb dX1_make_17 rfl (lv_at hl 0 rfl) ?_
  refine lv_bipush (v := 8) hx hb dX1_make_18 (by decide) ?_
  refine lv_icmp_ge (tgt := 55) hx hb dX1_make_20 (by decide) (fun c9 => absurd c9 (by decide)) (fun _ => ?_)
  refine lv_aload_n hx hb dX1_make_23 rfl (lv_at hl 1 rfl) ?_
  refine va_get (D := D) (ci := 5) (v := .ref st) (C := RX1) (T := TX1) (N := 3) hx hb hts (by decide +kernel) hown hK hP 0 rfl rfl 0 (by decide) (hts (.fieldLink RX1 9 "SignetRing$Digest" "state" "[I") (by decide +kernel)) (fun _ h9 => h9) rfl dX1_make_24 ?_
  refine lv_iload_n hx hb dX1_make_27 rfl (lv_at hl 0 rfl) ?_
  refine lv_aload_n hx hb dX1_make_28 rfl (lv_at hl 1 rfl) ?_
  refine va_get (D := D) (ci := 5) (v := .int 1) (C := RX1) (T := TX1) (N := 3) hx hb hts (by decide +kernel) hown hK hP 0 rfl rfl 2 (by decide) (hts (.fieldLink RX1 18 "SignetRing$Digest" "second" "Z") (by decide +kernel)) (fun _ h9 => h9) rfl dX1_make_29 ?_
  refine lv_if_eq (tgt := 43) hx hb dX1_make_32 (by decide) (fun c9 => absurd c9 (by decide)) (fun _ => ?_)
  refine va_gets hx hb (hE ("SignetRing$Digest", "START_SECOND", "[I", .ref e2) (List.mem_of_getElem? (i := 0) rfl)) hS hown (hts (.fieldLink RX1 22 "SignetRing$Digest" "START_SECOND" "[I") (by decide +kernel)) (fun _ h9 => h9) dX1_make_35 ?_
  refine lv_iload_n hx hb dX1_make_38 rfl (lv_at hl 0 rfl) ?_
  refine va_ti (v := .int (tS2 0)) hx hb (show va_T .int e2 8 (fun j => .int (tS2 j)) A s s.heap from (hG (.inl (e2, 8, tS2)) (List.mem_of_getElem? (i := 0) rfl))) hS (by unfold vp_in; decide) (congrArg (fun j => Value.int (tS2 j)) (nI_clamp (n := 0) (by decide))) dX1_make_39 ?_
  refine lv_goto (tgt := 48) hx hb dX1_make_40 (by decide) ?_
  refine va_iast hx hb hK hP hD hS 1 1 rfl rfl (by unfold vp_in; decide) dX1_make_48 (fun H locs hP hD hS => ?_)
  have hP : va_P D vwCl [(h0, .inr (5, [.ref st, .ref wd, .int 1])), (st, .inl (y 1, 8, .inl (upd (zf tS2 0 f) (nI 0).toNatClampNeg (tS2 0)))), (wd, .inl (y 1, 80, .inl g)), (sp, .inr (4, [w2, .int 0, .int 0]))] H := hP
  have hD : va_D A [(h0, .inr (5, [.ref st, .ref wd, .int 1])), (st, .inl (y 1, 8, .inl (upd (zf tS2 0 f) (nI 0).toNatClampNeg (tS2 0)))), (wd, .inl (y 1, 80, .inl g)), (sp, .inr (4, [w2, .int 0, .int 0]))] := hD
  have u1 : upd (zf tS2 0 f) (nI 0).toNatClampNeg (tS2 0) = zf tS2 1 f := (zf_st (n := 0) (by decide) rfl)
  rw [u1] at hP hD
  have hP : va_P D vwCl [(h0, .inr (5, [.ref st, .ref wd, .int 1])), (st, .inl (y 1, 8, .inl (zf tS2 1 f))), (wd, .inl (y 1, 80, .inl g)), (sp, .inr (4, [w2, .int 0, .int 0]))] H := hP
  have hD : va_D A [(h0, .inr (5, [.ref st, .ref wd, .int 1])), (st, .inl (y 1, 8, .inl (zf tS2 1 f))), (wd, .inl (y 1, 80, .inl g)), (sp, .inr (4, [w2, .int 0, .int 0]))] := hD
  refine lv_iinc (v := 1) (lv' := [(3, .int 1), (0, .ref h0), (1, .int 8), (2, .ref sp)]) hx hb dX1_make_49 hl (k := 0) rfl (by decide) (by decide) rfl (fun ls hl => ?_)
  refine lv_goto (tgt := 17) hx hb dX1_make_52 (by decide) ?_
  refine lv_iload_n hx hb dX1_make_17 rfl (lv_at hl 0 rfl) ?_
  refine lv_bipush (v := 8) hx hb dX1_make_18 (by decide) ?_
  refine lv_icmp_ge (tgt := 55) hx hb dX1_make_20 (by decide) (fun c9 => absurd c9 (by decide)) (fun _ => ?_)
  refine lv_aload_n hx hb dX1_make_23 rfl (lv_at hl 1 rfl) ?_
  refine va_get (D := D) (ci := 5) (v := .ref st) (C := RX1) (T := TX1) (N := 3) hx hb hts (by decide +kernel) hown hK hP 0 rfl rfl 0 (by decide) (hts (.fieldLink RX1 9 "SignetRing$Digest" "state" "[I") (by decide +kernel)) (fun _ h9 => h9) rfl dX1_make_24 ?_
  refine lv_iload_n hx hb dX1_make_27 rfl (lv_at hl 0 rfl) ?_
  refine lv_aload_n hx hb dX1_make_28 rfl (lv_at hl 1 rfl) ?_
  refine va_get (D := D) (ci := 5) (v := .int 1) (C := RX1) (T := TX1) (N := 3) hx hb hts (by decide +kernel) hown hK hP 0 rfl rfl 2 (by decide) (hts (.fieldLink RX1 18 "SignetRing$Digest" "second" "Z") (by decide +kernel)) (fun _ h9 => h9) rfl dX1_make_29 ?_
  refine lv_if_eq (tgt := 43) hx hb dX1_make_32 (by decide) (fun c9 => absurd c9 (by decide)) (fun _ => ?_)
  refine va_gets hx hb (hE ("SignetRing$Digest", "START_SECOND", "[I", .ref e2) (List.mem_of_getElem? (i := 0) rfl)) hS hown (hts (.fieldLink RX1 22 "SignetRing$Digest" "START_SECOND" "[I") (by decide +kernel)) (fun _ h9 => h9) dX1_make_35 ?_
  refine lv_iload_n hx hb dX1_make_38 rfl (lv_at hl 0 rfl) ?_
  refine va_ti (v := .int (tS2 1)) hx hb (show va_T .int e2 8 (fun j => .int (tS2 j)) A s s.heap from (hG (.inl (e2, 8, tS2)) (List.mem_of_getElem? (i := 0) rfl))) hS (by unfold vp_in; decide) (congrArg (fun j => Value.int (tS2 j)) (nI_clamp (n := 1) (by decide))) dX1_make_39 ?_
  refine lv_goto (tgt := 48) hx hb dX1_make_40 (by decide) ?_
  refine va_iast hx hb hK hP hD hS 1 1 rfl rfl (by unfold vp_in; decide) dX1_make_48 (fun H locs hP hD hS => ?_)
  have hP : va_P D vwCl [(h0, .inr (5, [.ref st, .ref wd, .int 1])), (st, .inl (y 1, 8, .inl (upd (zf tS2 1 f) (nI 1).toNatClampNeg (tS2 1)))), (wd, .inl (y 1, 80, .inl g)), (sp, .inr (4, [w2, .int 0, .int 0]))] H := hP
  have hD : va_D A [(h0, .inr (5, [.ref st, .ref wd, .int 1])), (st, .inl (y 1, 8, .inl (upd (zf tS2 1 f) (nI 1).toNatClampNeg (tS2 1)))), (wd, .inl (y 1, 80, .inl g)), (sp, .inr (4, [w2, .int 0, .int 0]))] := hD
  have u2 : upd (zf tS2 1 f) (nI 1).toNatClampNeg (tS2 1) = zf tS2 2 f := (zf_st (n := 1) (by decide) rfl)
  rw [u2] at hP hD
  have hP : va_P D vwCl [(h0, .inr (5, [.ref st, .ref wd, .int 1])), (st, .inl (y 1, 8, .inl (zf tS2 2 f))), (wd, .inl (y 1, 80, .inl g)), (sp, .inr (4, [w2, .int 0, .int 0]))] H := hP
  have hD : va_D A [(h0, .inr (5, [.ref st, .ref wd, .int 1])), (st, .inl (y 1, 8, .inl (zf tS2 2 f))), (wd, .inl (y 1, 80, .inl g)), (sp, .inr (4, [w2, .int 0, .int 0]))] := hD
  refine lv_iinc (v := 2) (lv' := [(3, .int 2), (0, .ref h0), (1, .int 8), (2, .ref sp)]) hx hb dX1_make_49 hl (k := 0) rfl (by decide) (by decide) rfl (fun ls hl => ?_)
  refine lv_goto (tgt := 17) hx hb dX1_make_52 (by decide) ?_
  refine lv_iload_n hx hb dX1_make_17 rfl (lv_at hl 0 rfl) ?_
  refine lv_bipush (v := 8) hx hb dX1_make_18 (by decide) ?_
  refine lv_icmp_ge (tgt := 55) hx hb dX1_make_20 (by decide) (fun c9 => absurd c9 (by decide)) (fun _ => ?_)
  refine lv_aload_n hx hb dX1_make_23 rfl (lv_at hl 1 rfl) ?_
  refine va_get (D := D) (ci := 5) (v := .ref st) (C := RX1) (T := TX1) (N := 3) hx hb hts (by decide +kernel) hown hK hP 0 rfl rfl 0 (by decide) (hts (.fieldLink RX1 9 "SignetRing$Digest" "state" "[I") (by decide +kernel)) (fun _ h9 => h9) rfl dX1_make_24 ?_
  refine lv_iload_n hx hb dX1_make_27 rfl (lv_at hl 0 rfl) ?_
  refine lv_aload_n hx hb dX1_make_28 rfl (lv_at hl 1 rfl) ?_
  refine va_get (D := D) (ci := 5) (v := .int 1) (C := RX1) (T := TX1) (N := 3) hx hb hts (by decide +kernel) hown hK hP 0 rfl rfl 2 (by decide) (hts (.fieldLink RX1 18 "SignetRing$Digest" "second" "Z") (by decide +kernel)) (fun _ h9 => h9) rfl dX1_make_29 ?_
  refine lv_if_eq (tgt := 43) hx hb dX1_make_32 (by decide) (fun c9 => absurd c9 (by decide)) (fun _ => ?_)
  refine va_gets hx hb (hE ("SignetRing$Digest", "START_SECOND", "[I", .ref e2) (List.mem_of_getElem? (i := 0) rfl)) hS hown (hts (.fieldLink RX1 22 "SignetRing$Digest" "START_SECOND" "[I") (by decide +kernel)) (fun _ h9 => h9) dX1_make_35 ?_
  refine lv_iload_n hx hb dX1_make_38 rfl (lv_at hl 0 rfl) ?_
  refine va_ti (v := .int (tS2 2)) hx hb (show va_T .int e2 8 (fun j => .int (tS2 j)) A s s.heap from (hG (.inl (e2, 8, tS2)) (List.mem_of_getElem? (i := 0) rfl))) hS (by unfold vp_in; decide) (congrArg (fun j => Value.int (tS2 j)) (nI_clamp (n := 2) (by decide))) dX1_make_39 ?_
  refine lv_goto (tgt := 48) hx hb dX1_make_40 (by decide) ?_
  refine va_iast hx hb hK hP hD hS 1 1 rfl rfl (by unfold vp_in; decide) dX1_make_48 (fun H locs hP hD hS => ?_)
  have hP : va_P D vwCl [(h0, .inr (5, [.ref st, .ref wd, .int 1])), (st, .inl (y 1, 8, .inl (upd (zf tS2 2 f) (nI 2).toNatClampNeg (tS2 2)))), (wd, .inl (y 1, 80, .inl g)), (sp, .inr (4, [w2, .int 0, .int 0]))] H := hP
  have hD : va_D A [(h0, .inr (5, [.ref st, .ref wd, .int 1])), (st, .inl (y 1, 8, .inl (upd (zf tS2 2 f) (nI 2).toNatClampNeg (tS2 2)))), (wd, .inl (y 1, 80, .inl g)), (sp, .inr (4, [w2, .int 0, .int 0]))] := hD
  have u3 : upd (zf tS2 2 f) (nI 2).toNatClampNeg (tS2 2) = zf tS2 3 f := (zf_st (n := 2) (by decide) rfl)
  rw [u3] at hP hD
  have hP : va_P D vwCl [(h0, .inr (5, [.ref st, .ref wd, .int 1])), (st, .inl (y 1, 8, .inl (zf tS2 3 f))), (wd, .inl (y 1, 80, .inl g)), (sp, .inr (4, [w2, .int 0, .int 0]))] H := hP
  have hD : va_D A [(h0, .inr (5, [.ref st, .ref wd, .int 1])), (st, .inl (y 1, 8, .inl (zf tS2 3 f))), (wd, .inl (y 1, 80, .inl g)), (sp, .inr (4, [w2, .int 0, .int 0]))] := hD
  refine lv_iinc (v := 3) (lv' := [(3, .int 3), (0, .ref h0), (1, .int 8), (2, .ref sp)]) hx hb dX1_make_49 hl (k := 0) rfl (by decide) (by decide) rfl (fun ls hl => ?_)
  refine lv_goto (tgt := 17) hx hb dX1_make_52 (by decide) ?_
  refine lv_iload_n hx hb dX1_make_17 rfl (lv_at hl 0 rfl) ?_
  refine lv_bipush (v := 8) hx hb dX1_make_18 (by decide) ?_
  refine lv_icmp_ge (tgt := 55) hx hb dX1_make_20 (by decide) (fun c9 => absurd c9 (by decide)) (fun _ => ?_)
  refine lv_aload_n hx hb dX1_make_23 rfl (lv_at hl 1 rfl) ?_
  refine va_get (D := D) (ci := 5) (v := .ref st) (C := RX1) (T := TX1) (N := 3) hx hb hts (by decide +kernel) hown hK hP 0 rfl rfl 0 (by decide) (hts (.fieldLink RX1 9 "SignetRing$Digest" "state" "[I") (by decide +kernel)) (fun _ h9 => h9) rfl dX1_make_24 ?_
  refine lv_iload_n hx hb dX1_make_27 rfl (lv_at hl 0 rfl) ?_
  refine lv_aload_n hx hb dX1_make_28 rfl (lv_at hl 1 rfl) ?_
  refine va_get (D := D) (ci := 5) (v := .int 1) (C := RX1) (T := TX1) (N := 3) hx hb hts (by decide +kernel) hown hK hP 0 rfl rfl 2 (by decide) (hts (.fieldLink RX1 18 "SignetRing$Digest" "second" "Z") (by decide +kernel)) (fun _ h9 => h9) rfl dX1_make_29 ?_
  refine lv_if_eq (tgt := 43) hx hb dX1_make_32 (by decide) (fun c9 => absurd c9 (by decide)) (fun _ => ?_)
  refine va_gets hx hb (hE ("SignetRing$Digest", "START_SECOND", "[I", .ref e2) (List.mem_of_getElem? (i := 0) rfl)) hS hown (hts (.fieldLink RX1 22 "SignetRing$Digest" "START_SECOND" "[I") (by decide +kernel)) (fun _ h9 => h9) dX1_make_35 ?_
  refine lv_iload_n hx hb dX1_make_38 rfl (lv_at hl 0 rfl) ?_
  refine va_ti (v := .int (tS2 3)) hx hb (show va_T .int e2 8 (fun j => .int (tS2 j)) A s s.heap from (hG (.inl (e2, 8, tS2)) (List.mem_of_getElem? (i := 0) rfl))) hS (by unfold vp_in; decide) (congrArg (fun j => Value.int (tS2 j)) (nI_clamp (n := 3) (by decide))) dX1_make_39 ?_
  refine lv_goto (tgt := 48) hx hb dX1_make_40 (by decide) ?_
  refine va_iast hx hb hK hP hD hS 1 1 rfl rfl (by unfold vp_in; decide) dX1_make_48 (fun H locs hP hD hS => ?_)
  have hP : va_P D vwCl [(h0, .inr (5, [.ref st, .ref wd, .int 1])), (st, .inl (y 1, 8, .inl (upd (zf tS2 3 f) (nI 3).toNatClampNeg (tS2 3)))), (wd, .inl (y 1, 80, .inl g)), (sp, .inr (4, [w2, .int 0, .int 0]))] H := hP
  have hD : va_D A [(h0, .inr (5, [.ref st, .ref wd, .int 1])), (st, .inl (y 1, 8, .inl (upd (zf tS2 3 f) (nI 3).toNatClampNeg (tS2 3)))), (wd, .inl (y 1, 80, .inl g)), (sp, .inr (4, [w2, .int 0, .int 0]))] := hD
  have u4 : upd (zf tS2 3 f) (nI 3).toNatClampNeg (tS2 3) = zf tS2 4 f := (zf_st (n := 3) (by decide) rfl)
  rw [u4] at hP hD
  have hP : va_P D vwCl [(h0, .inr (5, [.ref st, .ref wd, .int 1])), (st, .inl (y 1, 8, .inl (zf tS2 4 f))), (wd, .inl (y 1, 80, .inl g)), (sp, .inr (4, [w2, .int 0, .int 0]))] H := hP
  have hD : va_D A [(h0, .inr (5, [.ref st, .ref wd, .int 1])), (st, .inl (y 1, 8, .inl (zf tS2 4 f))), (wd, .inl (y 1, 80, .inl g)), (sp, .inr (4, [w2, .int 0, .int 0]))] := hD
  refine lv_iinc (v := 4) (lv' := [(3, .int 4), (0, .ref h0), (1, .int 8), (2, .ref sp)]) hx hb dX1_make_49 hl (k := 0) rfl (by decide) (by decide) rfl (fun ls hl => ?_)
  refine lv_goto (tgt := 17) hx hb dX1_make_52 (by decide) ?_
  refine lv_iload_n hx hb dX1_make_17 rfl (lv_at hl 0 rfl) ?_
  refine lv_bipush (v := 8) hx hb dX1_make_18 (by decide) ?_
  refine lv_icmp_ge (tgt := 55) hx hb dX1_make_20 (by decide) (fun c9 => absurd c9 (by decide)) (fun _ => ?_)
  refine lv_aload_n hx hb dX1_make_23 rfl (lv_at hl 1 rfl) ?_
  refine va_get (D := D) (ci := 5) (v := .ref st) (C := RX1) (T := TX1) (N := 3) hx hb hts (by decide +kernel) hown hK hP 0 rfl rfl 0 (by decide) (hts (.fieldLink RX1 9 "SignetRing$Digest" "state" "[I") (by decide +kernel)) (fun _ h9 => h9) rfl dX1_make_24 ?_
  refine lv_iload_n hx hb dX1_make_27 rfl (lv_at hl 0 rfl) ?_
  refine lv_aload_n hx hb dX1_make_28 rfl (lv_at hl 1 rfl) ?_
  refine va_get (D := D) (ci := 5) (v := .int 1) (C := RX1) (T := TX1) (N := 3) hx hb hts (by decide +kernel) hown hK hP 0 rfl rfl 2 (by decide) (hts (.fieldLink RX1 18 "SignetRing$Digest" "second" "Z") (by decide +kernel)) (fun _ h9 => h9) rfl dX1_make_29 ?_
  refine lv_if_eq (tgt := 43) hx hb dX1_make_32 (by decide) (fun c9 => absurd c9 (by decide)) (fun _ => ?_)
  refine va_gets hx hb (hE ("SignetRing$Digest", "START_SECOND", "[I", .ref e2) (List.mem_of_getElem? (i := 0) rfl)) hS hown (hts (.fieldLink RX1 22 "SignetRing$Digest" "START_SECOND" "[I") (by decide +kernel)) (fun _ h9 => h9) dX1_make_35 ?_
  refine lv_iload_n hx hb dX1_make_38 rfl (lv_at hl 0 rfl) ?_
  refine va_ti (v := .int (tS2 4)) hx hb (show va_T .int e2 8 (fun j => .int (tS2 j)) A s s.heap from (hG (.inl (e2, 8, tS2)) (List.mem_of_getElem? (i := 0) rfl))) hS (by unfold vp_in; decide) (congrArg (fun j => Value.int (tS2 j)) (nI_clamp (n := 4) (by decide))) dX1_make_39 ?_
  refine lv_goto (tgt := 48) hx hb dX1_make_40 (by decide) ?_
  refine va_iast hx hb hK hP hD hS 1 1 rfl rfl (by unfold vp_in; decide) dX1_make_48 (fun H locs hP hD hS => ?_)
  have hP : va_P D vwCl [(h0, .inr (5, [.ref st, .ref wd, .int 1])), (st, .inl (y 1, 8, .inl (upd (zf tS2 4 f) (nI 4).toNatClampNeg (tS2 4)))), (wd, .inl (y 1, 80, .inl g)), (sp, .inr (4, [w2, .int 0, .int 0]))] H := hP
  have hD : va_D A [(h0, .inr (5, [.ref st, .ref wd, .int 1])), (st, .inl (y 1, 8, .inl (upd (zf tS2 4 f) (nI 4).toNatClampNeg (tS2 4)))), (wd, .inl (y 1, 80, .inl g)), (sp, .inr (4, [w2, .int 0, .int 0]))] := hD
  have u5 : upd (zf tS2 4 f) (nI 4).toNatClampNeg (tS2 4) = zf tS2 5 f := (zf_st (n := 4) (by decide) rfl)
  rw [u5] at hP hD
  have hP : va_P D vwCl [(h0, .inr (5, [.ref st, .ref wd, .int 1])), (st, .inl (y 1, 8, .inl (zf tS2 5 f))), (wd, .inl (y 1, 80, .inl g)), (sp, .inr (4, [w2, .int 0, .int 0]))] H := hP
  have hD : va_D A [(h0, .inr (5, [.ref st, .ref wd, .int 1])), (st, .inl (y 1, 8, .inl (zf tS2 5 f))), (wd, .inl (y 1, 80, .inl g)), (sp, .inr (4, [w2, .int 0, .int 0]))] := hD
  refine lv_iinc (v := 5) (lv' := [(3, .int 5), (0, .ref h0), (1, .int 8), (2, .ref sp)]) hx hb dX1_make_49 hl (k := 0) rfl (by decide) (by decide) rfl (fun ls hl => ?_)
  refine lv_goto (tgt := 17) hx hb dX1_make_52 (by decide) ?_
  refine lv_iload_n hx hb dX1_make_17 rfl (lv_at hl 0 rfl) ?_
  refine lv_bipush (v := 8) hx hb dX1_make_18 (by decide) ?_
  refine lv_icmp_ge (tgt := 55) hx hb dX1_make_20 (by decide) (fun c9 => absurd c9 (by decide)) (fun _ => ?_)
  refine lv_aload_n hx hb dX1_make_23 rfl (lv_at hl 1 rfl) ?_
  refine va_get (D := D) (ci := 5) (v := .ref st) (C := RX1) (T := TX1) (N := 3) hx hb hts (by decide +kernel) hown hK hP 0 rfl rfl 0 (by decide) (hts (.fieldLink RX1 9 "SignetRing$Digest" "state" "[I") (by decide +kernel)) (fun _ h9 => h9) rfl dX1_make_24 ?_
  refine lv_iload_n hx hb dX1_make_27 rfl (lv_at hl 0 rfl) ?_
  refine lv_aload_n hx hb dX1_make_28 rfl (lv_at hl 1 rfl) ?_
  refine va_get (D := D) (ci := 5) (v := .int 1) (C := RX1) (T := TX1) (N := 3) hx hb hts (by decide +kernel) hown hK hP 0 rfl rfl 2 (by decide) (hts (.fieldLink RX1 18 "SignetRing$Digest" "second" "Z") (by decide +kernel)) (fun _ h9 => h9) rfl dX1_make_29 ?_
  refine lv_if_eq (tgt := 43) hx hb dX1_make_32 (by decide) (fun c9 => absurd c9 (by decide)) (fun _ => ?_)
  refine va_gets hx hb (hE ("SignetRing$Digest", "START_SECOND", "[I", .ref e2) (List.mem_of_getElem? (i := 0) rfl)) hS hown (hts (.fieldLink RX1 22 "SignetRing$Digest" "START_SECOND" "[I") (by decide +kernel)) (fun _ h9 => h9) dX1_make_35 ?_
  refine lv_iload_n hx hb dX1_make_38 rfl (lv_at hl 0 rfl) ?_
  refine va_ti (v := .int (tS2 5)) hx hb (show va_T .int e2 8 (fun j => .int (tS2 j)) A s s.heap from (hG (.inl (e2, 8, tS2)) (List.mem_of_getElem? (i := 0) rfl))) hS (by unfold vp_in; decide) (congrArg (fun j => Value.int (tS2 j)) (nI_clamp (n := 5) (by decide))) dX1_make_39 ?_
  refine lv_goto (tgt := 48) hx hb dX1_make_40 (by decide) ?_
  refine va_iast hx hb hK hP hD hS 1 1 rfl rfl (by unfold vp_in; decide) dX1_make_48 (fun H locs hP hD hS => ?_)
  have hP : va_P D vwCl [(h0, .inr (5, [.ref st, .ref wd, .int 1])), (st, .inl (y 1, 8, .inl (upd (zf tS2 5 f) (nI 5).toNatClampNeg (tS2 5)))), (wd, .inl (y 1, 80, .inl g)), (sp, .inr (4, [w2, .int 0, .int 0]))] H := hP
  have hD : va_D A [(h0, .inr (5, [.ref st, .ref wd, .int 1])), (st, .inl (y 1, 8, .inl (upd (zf tS2 5 f) (nI 5).toNatClampNeg (tS2 5)))), (wd, .inl (y 1, 80, .inl g)), (sp, .inr (4, [w2, .int 0, .int 0]))] := hD
  have u6 : upd (zf tS2 5 f) (nI 5).toNatClampNeg (tS2 5) = zf tS2 6 f := (zf_st (n := 5) (by decide) rfl)
  rw [u6] at hP hD
  have hP : va_P D vwCl [(h0, .inr (5, [.ref st, .ref wd, .int 1])), (st, .inl (y 1, 8, .inl (zf tS2 6 f))), (wd, .inl (y 1, 80, .inl g)), (sp, .inr (4, [w2, .int 0, .int 0]))] H := hP
  have hD : va_D A [(h0, .inr (5, [.ref st, .ref wd, .int 1])), (st, .inl (y 1, 8, .inl (zf tS2 6 f))), (wd, .inl (y 1, 80, .inl g)), (sp, .inr (4, [w2, .int 0, .int 0]))] := hD
  refine lv_iinc (v := 6) (lv' := [(3, .int 6), (0, .ref h0), (1, .int 8), (2, .ref sp)]) hx hb dX1_make_49 hl (k := 0) rfl (by decide) (by decide) rfl (fun ls hl => ?_)
  refine lv_goto (tgt := 17) hx hb dX1_make_52 (by decide) ?_
  refine lv_iload_n hx hb dX1_make_17 rfl (lv_at hl 0 rfl) ?_
  refine lv_bipush (v := 8) hx hb dX1_make_18 (by decide) ?_
  refine lv_icmp_ge (tgt := 55) hx hb dX1_make_20 (by decide) (fun c9 => absurd c9 (by decide)) (fun _ => ?_)
  refine lv_aload_n hx hb dX1_make_23 rfl (lv_at hl 1 rfl) ?_
  refine va_get (D := D) (ci := 5) (v := .ref st) (C := RX1) (T := TX1) (N := 3) hx hb hts (by decide +kernel) hown hK hP 0 rfl rfl 0 (by decide) (hts (.fieldLink RX1 9 "SignetRing$Digest" "state" "[I") (by decide +kernel)) (fun _ h9 => h9) rfl dX1_make_24 ?_
  refine lv_iload_n hx hb dX1_make_27 rfl (lv_at hl 0 rfl) ?_
  refine lv_aload_n hx hb dX1_make_28 rfl (lv_at hl 1 rfl) ?_
  refine va_get (D := D) (ci := 5) (v := .int 1) (C := RX1) (T := TX1) (N := 3) hx hb hts (by decide +kernel) hown hK hP 0 rfl rfl 2 (by decide) (hts (.fieldLink RX1 18 "SignetRing$Digest" "second" "Z") (by decide +kernel)) (fun _ h9 => h9) rfl dX1_make_29 ?_
  refine lv_if_eq (tgt := 43) hx hb dX1_make_32 (by decide) (fun c9 => absurd c9 (by decide)) (fun _ => ?_)
  refine va_gets hx hb (hE ("SignetRing$Digest", "START_SECOND", "[I", .ref e2) (List.mem_of_getElem? (i := 0) rfl)) hS hown (hts (.fieldLink RX1 22 "SignetRing$Digest" "START_SECOND" "[I") (by decide +kernel)) (fun _ h9 => h9) dX1_make_35 ?_
  refine lv_iload_n hx hb dX1_make_38 rfl (lv_at hl 0 rfl) ?_
  refine va_ti (v := .int (tS2 6)) hx hb (show va_T .int e2 8 (fun j => .int (tS2 j)) A s s.heap from (hG (.inl (e2, 8, tS2)) (List.mem_of_getElem? (i := 0) rfl))) hS (by unfold vp_in; decide) (congrArg (fun j => Value.int (tS2 j)) (nI_clamp (n := 6) (by decide))) dX1_make_39 ?_
  refine lv_goto (tgt := 48) hx hb dX1_make_40 (by decide) ?_
  refine va_iast hx hb hK hP hD hS 1 1 rfl rfl (by unfold vp_in; decide) dX1_make_48 (fun H locs hP hD hS => ?_)
  have hP : va_P D vwCl [(h0, .inr (5, [.ref st, .ref wd, .int 1])), (st, .inl (y 1, 8, .inl (upd (zf tS2 6 f) (nI 6).toNatClampNeg (tS2 6)))), (wd, .inl (y 1, 80, .inl g)), (sp, .inr (4, [w2, .int 0, .int 0]))] H := hP
  have hD : va_D A [(h0, .inr (5, [.ref st, .ref wd, .int 1])), (st, .inl (y 1, 8, .inl (upd (zf tS2 6 f) (nI 6).toNatClampNeg (tS2 6)))), (wd, .inl (y 1, 80, .inl g)), (sp, .inr (4, [w2, .int 0, .int 0]))] := hD
  have u7 : upd (zf tS2 6 f) (nI 6).toNatClampNeg (tS2 6) = zf tS2 7 f := (zf_st (n := 6) (by decide) rfl)
  rw [u7] at hP hD
  have hP : va_P D vwCl [(h0, .inr (5, [.ref st, .ref wd, .int 1])), (st, .inl (y 1, 8, .inl (zf tS2 7 f))), (wd, .inl (y 1, 80, .inl g)), (sp, .inr (4, [w2, .int 0, .int 0]))] H := hP
  have hD : va_D A [(h0, .inr (5, [.ref st, .ref wd, .int 1])), (st, .inl (y 1, 8, .inl (zf tS2 7 f))), (wd, .inl (y 1, 80, .inl g)), (sp, .inr (4, [w2, .int 0, .int 0]))] := hD
  refine lv_iinc (v := 7) (lv' := [(3, .int 7), (0, .ref h0), (1, .int 8), (2, .ref sp)]) hx hb dX1_make_49 hl (k := 0) rfl (by decide) (by decide) rfl (fun ls hl => ?_)
  refine lv_goto (tgt := 17) hx hb dX1_make_52 (by decide) ?_
  refine lv_iload_n hx hb dX1_make_17 rfl (lv_at hl 0 rfl) ?_
  refine lv_bipush (v := 8) hx hb dX1_make_18 (by decide) ?_
  refine lv_icmp_ge (tgt := 55) hx hb dX1_make_20 (by decide) (fun c9 => absurd c9 (by decide)) (fun _ => ?_)
  refine lv_aload_n hx hb dX1_make_23 rfl (lv_at hl 1 rfl) ?_
  refine va_get (D := D) (ci := 5) (v := .ref st) (C := RX1) (T := TX1) (N := 3) hx hb hts (by decide +kernel) hown hK hP 0 rfl rfl 0 (by decide) (hts (.fieldLink RX1 9 "SignetRing$Digest" "state" "[I") (by decide +kernel)) (fun _ h9 => h9) rfl dX1_make_24 ?_
  refine lv_iload_n hx hb dX1_make_27 rfl (lv_at hl 0 rfl) ?_
  refine lv_aload_n hx hb dX1_make_28 rfl (lv_at hl 1 rfl) ?_
  refine va_get (D := D) (ci := 5) (v := .int 1) (C := RX1) (T := TX1) (N := 3) hx hb hts (by decide +kernel) hown hK hP 0 rfl rfl 2 (by decide) (hts (.fieldLink RX1 18 "SignetRing$Digest" "second" "Z") (by decide +kernel)) (fun _ h9 => h9) rfl dX1_make_29 ?_
  refine lv_if_eq (tgt := 43) hx hb dX1_make_32 (by decide) (fun c9 => absurd c9 (by decide)) (fun _ => ?_)
  refine va_gets hx hb (hE ("SignetRing$Digest", "START_SECOND", "[I", .ref e2) (List.mem_of_getElem? (i := 0) rfl)) hS hown (hts (.fieldLink RX1 22 "SignetRing$Digest" "START_SECOND" "[I") (by decide +kernel)) (fun _ h9 => h9) dX1_make_35 ?_
  refine lv_iload_n hx hb dX1_make_38 rfl (lv_at hl 0 rfl) ?_
  refine va_ti (v := .int (tS2 7)) hx hb (show va_T .int e2 8 (fun j => .int (tS2 j)) A s s.heap from (hG (.inl (e2, 8, tS2)) (List.mem_of_getElem? (i := 0) rfl))) hS (by unfold vp_in; decide) (congrArg (fun j => Value.int (tS2 j)) (nI_clamp (n := 7) (by decide))) dX1_make_39 ?_
  refine lv_goto (tgt := 48) hx hb dX1_make_40 (by decide) ?_
  refine va_iast hx hb hK hP hD hS 1 1 rfl rfl (by unfold vp_in; decide) dX1_make_48 (fun H locs hP hD hS => ?_)
  have hP : va_P D vwCl [(h0, .inr (5, [.ref st, .ref wd, .int 1])), (st, .inl (y 1, 8, .inl (upd (zf tS2 7 f) (nI 7).toNatClampNeg (tS2 7)))), (wd, .inl (y 1, 80, .inl g)), (sp, .inr (4, [w2, .int 0, .int 0]))] H := hP
  have hD : va_D A [(h0, .inr (5, [.ref st, .ref wd, .int 1])), (st, .inl (y 1, 8, .inl (upd (zf tS2 7 f) (nI 7).toNatClampNeg (tS2 7)))), (wd, .inl (y 1, 80, .inl g)), (sp, .inr (4, [w2, .int 0, .int 0]))] := hD
  have u8 : upd (zf tS2 7 f) (nI 7).toNatClampNeg (tS2 7) = zf tS2 8 f := (zf_st (n := 7) (by decide) rfl)
  rw [u8] at hP hD
  have hP : va_P D vwCl [(h0, .inr (5, [.ref st, .ref wd, .int 1])), (st, .inl (y 1, 8, .inl (zf tS2 8 f))), (wd, .inl (y 1, 80, .inl g)), (sp, .inr (4, [w2, .int 0, .int 0]))] H := hP
  have hD : va_D A [(h0, .inr (5, [.ref st, .ref wd, .int 1])), (st, .inl (y 1, 8, .inl (zf tS2 8 f))), (wd, .inl (y 1, 80, .inl g)), (sp, .inr (4, [w2, .int 0, .int 0]))] := hD
  refine lv_iinc (v := 8) (lv' := [(3, .int 8), (0, .ref h0), (1, .int 8), (2, .ref sp)]) hx hb dX1_make_49 hl (k := 0) rfl (by decide) (by decide) rfl (fun ls hl => ?_)
  refine lv_goto (tgt := 17) hx hb dX1_make_52 (by decide) ?_
  refine lv_iload_n hx hb dX1_make_17 rfl (lv_at hl 0 rfl) ?_
  refine lv_bipush (v := 8) hx hb dX1_make_18 (by decide) ?_
  refine lv_icmp_ge (tgt := 55) hx hb dX1_make_20 (by decide) (fun _ => ?_) (fun c9 => absurd (by decide) c9)
  refine lv_aload_n hx hb dX1_make_55 rfl (lv_at hl 3 rfl) ?_
  refine va_get (D := D) (ci := 4) (v := .int 0) (C := RX0) (T := TX0) (N := 3) hx hb hts (by decide +kernel) hown hK hP 3 rfl rfl 2 (by decide) (hts (.fieldLink RX1 28 "SignetRing$Span" "size" "I") (by decide +kernel)) (fun _ h9 => h9) rfl dX1_make_56 ?_
  refine lv_bipush (v := 8) hx hb dX1_make_59 (by decide) ?_
  refine lv_iadd hx hb dX1_make_61 ?_
  refine lv_topi (fun v9 ev9 => ?_)
  have ev9 : v9 = 8 := ev9.trans (by decide +kernel)
  subst ev9
  refine lv_bipush (v := 64) hx hb dX1_make_62 (by decide) ?_
  refine lv_idiv hx hb dX1_make_64 (by decide) ?_
  refine lv_topi (fun v10 ev10 => ?_)
  have ev10 : v10 = 0 := ev10.trans (by decide +kernel)
  subst ev10
  refine lv_iconst (v := 1) hx hb dX1_make_65 (by decide) ?_
  refine lv_iadd hx hb dX1_make_66 ?_
  refine lv_topi (fun v11 ev11 => ?_)
  have ev11 : v11 = 1 := ev11.trans (by decide +kernel)
  subst ev11
  refine lv_istore_n (lv' := [(3, .int 1), (0, .ref h0), (1, .int 8), (2, .ref sp)]) hx hb dX1_make_67 rfl hl (by decide) rfl (fun ls hl => ?_)
  refine lv_iconst (v := 0) hx hb dX1_make_68 (by decide) ?_
  refine lv_istore (lv' := [(4, .int 0), (3, .int 1), (0, .ref h0), (1, .int 8), (2, .ref sp)]) hx hb dX1_make_69 hl (by decide) rfl (fun ls hl => ?_)
  refine lv_iload hx hb dX1_make_71 (lv_at hl 0 rfl) ?_
  refine lv_iload_n hx hb dX1_make_73 rfl (lv_at hl 1 rfl) ?_
  refine lv_icmp_ge (tgt := 160) hx hb dX1_make_74 (by decide) (fun c9 => absurd c9 (by decide)) (fun _ => ?_)
  refine lv_iconst (v := 0) hx hb dX1_make_77 (by decide) ?_
  refine lv_istore (lv' := [(5, .int 0), (4, .int 0), (3, .int 1), (0, .ref h0), (1, .int 8), (2, .ref sp)]) hx hb dX1_make_78 hl (by decide) rfl (fun ls hl => ?_)
  refine lv_iload hx hb dX1_make_80 (lv_at hl 0 rfl) ?_
  refine lv_bipush (v := 16) hx hb dX1_make_82 (by decide) ?_
  refine lv_icmp_ge (tgt := 114) hx hb dX1_make_84 (by decide) (fun c9 => absurd c9 (by decide)) (fun _ => ?_)
  refine lv_aload_n hx hb dX1_make_87 rfl (lv_at hl 3 rfl) ?_
  refine va_get (D := D) (ci := 5) (v := .ref wd) (C := RX1) (T := TX1) (N := 3) hx hb hts (by decide +kernel) hown hK hP 0 rfl rfl 1 (by decide) (hts (.fieldLink RX1 15 "SignetRing$Digest" "words" "[I") (by decide +kernel)) (fun _ h9 => h9) rfl dX1_make_88 ?_
  refine lv_iload hx hb dX1_make_91 (lv_at hl 0 rfl) ?_
  refine lv_aload_n hx hb dX1_make_93 rfl (lv_at hl 5 rfl) ?_
  refine lv_bipush (v := 64) hx hb dX1_make_94 (by decide) ?_
  refine lv_iload hx hb dX1_make_96 (lv_at hl 1 rfl) ?_
  refine lv_imul hx hb dX1_make_98 ?_
  refine lv_topi (fun v12 ev12 => ?_)
  have ev12 : v12 = 0 := ev12.trans (by decide +kernel)
  subst ev12
  refine lv_iconst (v := 4) hx hb dX1_make_99 (by decide) ?_
  refine lv_iload hx hb dX1_make_100 (lv_at hl 0 rfl) ?_
  refine lv_imul hx hb dX1_make_102 ?_
  refine lv_topi (fun v13 ev13 => ?_)
  have ev13 : v13 = 0 := ev13.trans (by decide +kernel)
  subst ev13
  refine lv_iadd hx hb dX1_make_103 ?_
  refine lv_topi (fun v14 ev14 => ?_)
  have ev14 : v14 = 0 := ev14.trans (by decide +kernel)
  subst ev14
  have hPc := hP.sub (ws' := [(sp, .inr (4, [w2, .int 0, .int 0]))]) [3] rfl
  have hDc := hD.sub (ws' := [(sp, .inr (4, [w2, .int 0, .int 0]))]) [3] (by decide) rfl
  have hFc := va_free (wc := [(sp, .inr (4, [w2, .int 0, .int 0]))]) hD hS hA [3] rfl
  refine va_calli (va_runS (As := [.ref sp, .int 0]) (rest := [.int 0, .ref wd]) ⟨hx, hb, hml, hown, hts⟩ (c_X1_wordOf_0 l D y H.size sp w2) (va_cwS 2 hts gv_c_X1_make_2_c_X1_wordOf_0_34 rfl rfl rfl (by decide +kernel) ⟨(Nat.le_of_ble_eq_true rfl), (Nat.le_of_ble_eq_true rfl)⟩) (zB.preS hPc hDc hK hN hE hO hT hG hS hFc (fun _ h => nomatch h) (fun _ h => nomatch h) (fun _ h => nomatch h) (fun _ h => nomatch h)) rfl rfl hl.1 rfl (lv_room (Nat.le_of_ble_eq_true rfl)) dX1_make_104 ⟨(Nat.le_of_ble_eq_true rfl), (Nat.le_of_ble_eq_true rfl)⟩) hS (fun q _ h => hFc q h) hFc (fun r15 u t H1 locs ht hvm hw hB hz1 hk1 hS => ?_)
  obtain ⟨hP1, hD1⟩ := hB
  rw [ht] at hP1
  obtain ⟨hP, hD⟩ := va_join (wr := [(h0, .inr (5, [.ref st, .ref wd, .int 1])), (st, .inl (y 1, 8, .inl (zf tS2 8 f))), (wd, .inl (y 1, 80, .inl g))]) (w1 := [(sp, .inr (4, [w2, .int 0, .int 0]))]) hP hD [3] [0, 1, 2] rfl rfl (by decide) (by decide) hk1 hFc hP1 hD1
  generalize H1 = H at hP hS ⊢
  have hP : va_P D vwCl [(h0, .inr (5, [.ref st, .ref wd, .int 1])), (st, .inl (y 1, 8, .inl (zf tS2 8 f))), (wd, .inl (y 1, 80, .inl g)), (sp, .inr (4, [w2, .int 0, .int 0]))] H := hP
  have hD : va_D A [(h0, .inr (5, [.ref st, .ref wd, .int 1])), (st, .inl (y 1, 8, .inl (zf tS2 8 f))), (wd, .inl (y 1, 80, .inl g)), (sp, .inr (4, [w2, .int 0, .int 0]))] := hD
  have hw : r15 = -2147483648 := hw
  subst hw
  refine va_iast hx hb hK hP hD hS 2 1 rfl rfl (by unfold vp_in; decide) dX1_make_107 (fun H locs hP hD hS => ?_)
  have hP : va_P D vwCl [(h0, .inr (5, [.ref st, .ref wd, .int 1])), (st, .inl (y 1, 8, .inl (zf tS2 8 f))), (wd, .inl (y 1, 80, .inl (upd (zf tW2 0 g) (nI 0).toNatClampNeg (-2147483648 : Int32)))), (sp, .inr (4, [w2, .int 0, .int 0]))] H := hP
  have hD : va_D A [(h0, .inr (5, [.ref st, .ref wd, .int 1])), (st, .inl (y 1, 8, .inl (zf tS2 8 f))), (wd, .inl (y 1, 80, .inl (upd (zf tW2 0 g) (nI 0).toNatClampNeg (-2147483648 : Int32)))), (sp, .inr (4, [w2, .int 0, .int 0]))] := hD
  have u16 : upd (zf tW2 0 g) (nI 0).toNatClampNeg (-2147483648 : Int32) = zf tW2 1 g := (zf_st (n := 0) (by decide) (by decide +kernel))
  rw [u16] at hP hD
  have hP : va_P D vwCl [(h0, .inr (5, [.ref st, .ref wd, .int 1])), (st, .inl (y 1, 8, .inl (zf tS2 8 f))), (wd, .inl (y 1, 80, .inl (zf tW2 1 g))), (sp, .inr (4, [w2, .int 0, .int 0]))] H := hP
  have hD : va_D A [(h0, .inr (5, [.ref st, .ref wd, .int 1])), (st, .inl (y 1, 8, .inl (zf tS2 8 f))), (wd, .inl (y 1, 80, .inl (zf tW2 1 g))), (sp, .inr (4, [w2, .int 0, .int 0]))] := hD
  refine lv_iinc (v := 1) (lv' := [(5, .int 1), (4, .int 0), (3, .int 1), (0, .ref h0), (1, .int 8), (2, .ref sp)]) hx hb dX1_make_108 hl (k := 0) rfl (by decide) (by decide) rfl (fun ls hl => ?_)
  refine lv_goto (tgt := 80) hx hb dX1_make_111 (by decide) ?_
  refine lv_iload hx hb dX1_make_80 (lv_at hl 0 rfl) ?_
  refine lv_bipush (v := 16) hx hb dX1_make_82 (by decide) ?_
  refine lv_icmp_ge (tgt := 114) hx hb dX1_make_84 (by decide) (fun c9 => absurd c9 (by decide)) (fun _ => ?_)
  refine lv_aload_n hx hb dX1_make_87 rfl (lv_at hl 3 rfl) ?_
  refine va_get (D := D) (ci := 5) (v := .ref wd) (C := RX1) (T := TX1) (N := 3) hx hb hts (by decide +kernel) hown hK hP 0 rfl rfl 1 (by decide) (hts (.fieldLink RX1 15 "SignetRing$Digest" "words" "[I") (by decide +kernel)) (fun _ h9 => h9) rfl dX1_make_88 ?_
  refine lv_iload hx hb dX1_make_91 (lv_at hl 0 rfl) ?_
  refine lv_aload_n hx hb dX1_make_93 rfl (lv_at hl 5 rfl) ?_
  refine lv_bipush (v := 64) hx hb dX1_make_94 (by decide) ?_
  refine lv_iload hx hb dX1_make_96 (lv_at hl 1 rfl) ?_
  refine lv_imul hx hb dX1_make_98 ?_
  refine lv_topi (fun v17 ev17 => ?_)
  have ev17 : v17 = 0 := ev17.trans (by decide +kernel)
  subst ev17
  refine lv_iconst (v := 4) hx hb dX1_make_99 (by decide) ?_
  refine lv_iload hx hb dX1_make_100 (lv_at hl 0 rfl) ?_
  refine lv_imul hx hb dX1_make_102 ?_
  refine lv_topi (fun v18 ev18 => ?_)
  have ev18 : v18 = 4 := ev18.trans (by decide +kernel)
  subst ev18
  refine lv_iadd hx hb dX1_make_103 ?_
  refine lv_topi (fun v19 ev19 => ?_)
  have ev19 : v19 = 4 := ev19.trans (by decide +kernel)
  subst ev19
  have hPc := hP.sub (ws' := [(sp, .inr (4, [w2, .int 0, .int 0]))]) [3] rfl
  have hDc := hD.sub (ws' := [(sp, .inr (4, [w2, .int 0, .int 0]))]) [3] (by decide) rfl
  have hFc := va_free (wc := [(sp, .inr (4, [w2, .int 0, .int 0]))]) hD hS hA [3] rfl
  refine va_calli (va_runS (As := [.ref sp, .int 4]) (rest := [.int 1, .ref wd]) ⟨hx, hb, hml, hown, hts⟩ (c_X1_wordOf_4 l D y H.size sp w2) (va_cwS 2 hts gv_c_X1_make_2_c_X1_wordOf_4_34 rfl rfl rfl (by decide +kernel) ⟨(Nat.le_of_ble_eq_true rfl), (Nat.le_of_ble_eq_true rfl)⟩) (zB.preS hPc hDc hK hN hE hO hT hG hS hFc (fun _ h => nomatch h) (fun _ h => nomatch h) (fun _ h => nomatch h) (fun _ h => nomatch h)) rfl rfl hl.1 rfl (lv_room (Nat.le_of_ble_eq_true rfl)) dX1_make_104 ⟨(Nat.le_of_ble_eq_true rfl), (Nat.le_of_ble_eq_true rfl)⟩) hS (fun q _ h => hFc q h) hFc (fun r20 u t H1 locs ht hvm hw hB hz1 hk1 hS => ?_)
  obtain ⟨hP1, hD1⟩ := hB
  rw [ht] at hP1
  obtain ⟨hP, hD⟩ := va_join (wr := [(h0, .inr (5, [.ref st, .ref wd, .int 1])), (st, .inl (y 1, 8, .inl (zf tS2 8 f))), (wd, .inl (y 1, 80, .inl (zf tW2 1 g)))]) (w1 := [(sp, .inr (4, [w2, .int 0, .int 0]))]) hP hD [3] [0, 1, 2] rfl rfl (by decide) (by decide) hk1 hFc hP1 hD1
  generalize H1 = H at hP hS ⊢
  have hP : va_P D vwCl [(h0, .inr (5, [.ref st, .ref wd, .int 1])), (st, .inl (y 1, 8, .inl (zf tS2 8 f))), (wd, .inl (y 1, 80, .inl (zf tW2 1 g))), (sp, .inr (4, [w2, .int 0, .int 0]))] H := hP
  have hD : va_D A [(h0, .inr (5, [.ref st, .ref wd, .int 1])), (st, .inl (y 1, 8, .inl (zf tS2 8 f))), (wd, .inl (y 1, 80, .inl (zf tW2 1 g))), (sp, .inr (4, [w2, .int 0, .int 0]))] := hD
  have hw : r20 = 0 := hw
  subst hw
  refine va_iast hx hb hK hP hD hS 2 1 rfl rfl (by unfold vp_in; decide) dX1_make_107 (fun H locs hP hD hS => ?_)
  have hP : va_P D vwCl [(h0, .inr (5, [.ref st, .ref wd, .int 1])), (st, .inl (y 1, 8, .inl (zf tS2 8 f))), (wd, .inl (y 1, 80, .inl (upd (zf tW2 1 g) (nI 1).toNatClampNeg (0 : Int32)))), (sp, .inr (4, [w2, .int 0, .int 0]))] H := hP
  have hD : va_D A [(h0, .inr (5, [.ref st, .ref wd, .int 1])), (st, .inl (y 1, 8, .inl (zf tS2 8 f))), (wd, .inl (y 1, 80, .inl (upd (zf tW2 1 g) (nI 1).toNatClampNeg (0 : Int32)))), (sp, .inr (4, [w2, .int 0, .int 0]))] := hD
  have u21 : upd (zf tW2 1 g) (nI 1).toNatClampNeg (0 : Int32) = zf tW2 2 g := (zf_st (n := 1) (by decide) (by decide +kernel))
  rw [u21] at hP hD
  have hP : va_P D vwCl [(h0, .inr (5, [.ref st, .ref wd, .int 1])), (st, .inl (y 1, 8, .inl (zf tS2 8 f))), (wd, .inl (y 1, 80, .inl (zf tW2 2 g))), (sp, .inr (4, [w2, .int 0, .int 0]))] H := hP
  have hD : va_D A [(h0, .inr (5, [.ref st, .ref wd, .int 1])), (st, .inl (y 1, 8, .inl (zf tS2 8 f))), (wd, .inl (y 1, 80, .inl (zf tW2 2 g))), (sp, .inr (4, [w2, .int 0, .int 0]))] := hD
  refine lv_iinc (v := 2) (lv' := [(5, .int 2), (4, .int 0), (3, .int 1), (0, .ref h0), (1, .int 8), (2, .ref sp)]) hx hb dX1_make_108 hl (k := 0) rfl (by decide) (by decide) rfl (fun ls hl => ?_)
  refine lv_goto (tgt := 80) hx hb dX1_make_111 (by decide) ?_
  refine lv_iload hx hb dX1_make_80 (lv_at hl 0 rfl) ?_
  refine lv_bipush (v := 16) hx hb dX1_make_82 (by decide) ?_
  refine lv_icmp_ge (tgt := 114) hx hb dX1_make_84 (by decide) (fun c9 => absurd c9 (by decide)) (fun _ => ?_)
  refine lv_aload_n hx hb dX1_make_87 rfl (lv_at hl 3 rfl) ?_
  refine va_get (D := D) (ci := 5) (v := .ref wd) (C := RX1) (T := TX1) (N := 3) hx hb hts (by decide +kernel) hown hK hP 0 rfl rfl 1 (by decide) (hts (.fieldLink RX1 15 "SignetRing$Digest" "words" "[I") (by decide +kernel)) (fun _ h9 => h9) rfl dX1_make_88 ?_
  refine lv_iload hx hb dX1_make_91 (lv_at hl 0 rfl) ?_
  refine lv_aload_n hx hb dX1_make_93 rfl (lv_at hl 5 rfl) ?_
  refine lv_bipush (v := 64) hx hb dX1_make_94 (by decide) ?_
  refine lv_iload hx hb dX1_make_96 (lv_at hl 1 rfl) ?_
  refine lv_imul hx hb dX1_make_98 ?_
  refine lv_topi (fun v22 ev22 => ?_)
  have ev22 : v22 = 0 := ev22.trans (by decide +kernel)
  subst ev22
  refine lv_iconst (v := 4) hx hb dX1_make_99 (by decide) ?_
  refine lv_iload hx hb dX1_make_100 (lv_at hl 0 rfl) ?_
  refine lv_imul hx hb dX1_make_102 ?_
  refine lv_topi (fun v23 ev23 => ?_)
  have ev23 : v23 = 8 := ev23.trans (by decide +kernel)
  subst ev23
  refine lv_iadd hx hb dX1_make_103 ?_
  refine lv_topi (fun v24 ev24 => ?_)
  have ev24 : v24 = 8 := ev24.trans (by decide +kernel)
  subst ev24
  have hPc := hP.sub (ws' := [(sp, .inr (4, [w2, .int 0, .int 0]))]) [3] rfl
  have hDc := hD.sub (ws' := [(sp, .inr (4, [w2, .int 0, .int 0]))]) [3] (by decide) rfl
  have hFc := va_free (wc := [(sp, .inr (4, [w2, .int 0, .int 0]))]) hD hS hA [3] rfl
  refine va_calli (va_runS (As := [.ref sp, .int 8]) (rest := [.int 2, .ref wd]) ⟨hx, hb, hml, hown, hts⟩ (c_X1_wordOf_8 l D y H.size sp w2) (va_cwS 2 hts gv_c_X1_make_2_c_X1_wordOf_8_34 rfl rfl rfl (by decide +kernel) ⟨(Nat.le_of_ble_eq_true rfl), (Nat.le_of_ble_eq_true rfl)⟩) (zB.preS hPc hDc hK hN hE hO hT hG hS hFc (fun _ h => nomatch h) (fun _ h => nomatch h) (fun _ h => nomatch h) (fun _ h => nomatch h)) rfl rfl hl.1 rfl (lv_room (Nat.le_of_ble_eq_true rfl)) dX1_make_104 ⟨(Nat.le_of_ble_eq_true rfl), (Nat.le_of_ble_eq_true rfl)⟩) hS (fun q _ h => hFc q h) hFc (fun r25 u t H1 locs ht hvm hw hB hz1 hk1 hS => ?_)
  obtain ⟨hP1, hD1⟩ := hB
  rw [ht] at hP1
  obtain ⟨hP, hD⟩ := va_join (wr := [(h0, .inr (5, [.ref st, .ref wd, .int 1])), (st, .inl (y 1, 8, .inl (zf tS2 8 f))), (wd, .inl (y 1, 80, .inl (zf tW2 2 g)))]) (w1 := [(sp, .inr (4, [w2, .int 0, .int 0]))]) hP hD [3] [0, 1, 2] rfl rfl (by decide) (by decide) hk1 hFc hP1 hD1
  generalize H1 = H at hP hS ⊢
  have hP : va_P D vwCl [(h0, .inr (5, [.ref st, .ref wd, .int 1])), (st, .inl (y 1, 8, .inl (zf tS2 8 f))), (wd, .inl (y 1, 80, .inl (zf tW2 2 g))), (sp, .inr (4, [w2, .int 0, .int 0]))] H := hP
  have hD : va_D A [(h0, .inr (5, [.ref st, .ref wd, .int 1])), (st, .inl (y 1, 8, .inl (zf tS2 8 f))), (wd, .inl (y 1, 80, .inl (zf tW2 2 g))), (sp, .inr (4, [w2, .int 0, .int 0]))] := hD
  have hw : r25 = 0 := hw
  subst hw
  refine va_iast hx hb hK hP hD hS 2 1 rfl rfl (by unfold vp_in; decide) dX1_make_107 (fun H locs hP hD hS => ?_)
  have hP : va_P D vwCl [(h0, .inr (5, [.ref st, .ref wd, .int 1])), (st, .inl (y 1, 8, .inl (zf tS2 8 f))), (wd, .inl (y 1, 80, .inl (upd (zf tW2 2 g) (nI 2).toNatClampNeg (0 : Int32)))), (sp, .inr (4, [w2, .int 0, .int 0]))] H := hP
  have hD : va_D A [(h0, .inr (5, [.ref st, .ref wd, .int 1])), (st, .inl (y 1, 8, .inl (zf tS2 8 f))), (wd, .inl (y 1, 80, .inl (upd (zf tW2 2 g) (nI 2).toNatClampNeg (0 : Int32)))), (sp, .inr (4, [w2, .int 0, .int 0]))] := hD
  have u26 : upd (zf tW2 2 g) (nI 2).toNatClampNeg (0 : Int32) = zf tW2 3 g := (zf_st (n := 2) (by decide) (by decide +kernel))
  rw [u26] at hP hD
  have hP : va_P D vwCl [(h0, .inr (5, [.ref st, .ref wd, .int 1])), (st, .inl (y 1, 8, .inl (zf tS2 8 f))), (wd, .inl (y 1, 80, .inl (zf tW2 3 g))), (sp, .inr (4, [w2, .int 0, .int 0]))] H := hP
  have hD : va_D A [(h0, .inr (5, [.ref st, .ref wd, .int 1])), (st, .inl (y 1, 8, .inl (zf tS2 8 f))), (wd, .inl (y 1, 80, .inl (zf tW2 3 g))), (sp, .inr (4, [w2, .int 0, .int 0]))] := hD
  refine lv_iinc (v := 3) (lv' := [(5, .int 3), (4, .int 0), (3, .int 1), (0, .ref h0), (1, .int 8), (2, .ref sp)]) hx hb dX1_make_108 hl (k := 0) rfl (by decide) (by decide) rfl (fun ls hl => ?_)
  refine lv_goto (tgt := 80) hx hb dX1_make_111 (by decide) ?_
  refine lv_iload hx hb dX1_make_80 (lv_at hl 0 rfl) ?_
  refine lv_bipush (v := 16) hx hb dX1_make_82 (by decide) ?_
  refine lv_icmp_ge (tgt := 114) hx hb dX1_make_84 (by decide) (fun c9 => absurd c9 (by decide)) (fun _ => ?_)
  refine lv_aload_n hx hb dX1_make_87 rfl (lv_at hl 3 rfl) ?_
  refine va_get (D := D) (ci := 5) (v := .ref wd) (C := RX1) (T := TX1) (N := 3) hx hb hts (by decide +kernel) hown hK hP 0 rfl rfl 1 (by decide) (hts (.fieldLink RX1 15 "SignetRing$Digest" "words" "[I") (by decide +kernel)) (fun _ h9 => h9) rfl dX1_make_88 ?_
  refine lv_iload hx hb dX1_make_91 (lv_at hl 0 rfl) ?_
  refine lv_aload_n hx hb dX1_make_93 rfl (lv_at hl 5 rfl) ?_
  refine lv_bipush (v := 64) hx hb dX1_make_94 (by decide) ?_
  refine lv_iload hx hb dX1_make_96 (lv_at hl 1 rfl) ?_
  refine lv_imul hx hb dX1_make_98 ?_
  refine lv_topi (fun v27 ev27 => ?_)
  have ev27 : v27 = 0 := ev27.trans (by decide +kernel)
  subst ev27
  refine lv_iconst (v := 4) hx hb dX1_make_99 (by decide) ?_
  refine lv_iload hx hb dX1_make_100 (lv_at hl 0 rfl) ?_
  refine lv_imul hx hb dX1_make_102 ?_
  refine lv_topi (fun v28 ev28 => ?_)
  have ev28 : v28 = 12 := ev28.trans (by decide +kernel)
  subst ev28
  refine lv_iadd hx hb dX1_make_103 ?_
  refine lv_topi (fun v29 ev29 => ?_)
  have ev29 : v29 = 12 := ev29.trans (by decide +kernel)
  subst ev29
  have hPc := hP.sub (ws' := [(sp, .inr (4, [w2, .int 0, .int 0]))]) [3] rfl
  have hDc := hD.sub (ws' := [(sp, .inr (4, [w2, .int 0, .int 0]))]) [3] (by decide) rfl
  have hFc := va_free (wc := [(sp, .inr (4, [w2, .int 0, .int 0]))]) hD hS hA [3] rfl
  refine va_calli (va_runS (As := [.ref sp, .int 12]) (rest := [.int 3, .ref wd]) ⟨hx, hb, hml, hown, hts⟩ (c_X1_wordOf_12 l D y H.size sp w2) (va_cwS 2 hts gv_c_X1_make_2_c_X1_wordOf_12_34 rfl rfl rfl (by decide +kernel) ⟨(Nat.le_of_ble_eq_true rfl), (Nat.le_of_ble_eq_true rfl)⟩) (zB.preS hPc hDc hK hN hE hO hT hG hS hFc (fun _ h => nomatch h) (fun _ h => nomatch h) (fun _ h => nomatch h) (fun _ h => nomatch h)) rfl rfl hl.1 rfl (lv_room (Nat.le_of_ble_eq_true rfl)) dX1_make_104 ⟨(Nat.le_of_ble_eq_true rfl), (Nat.le_of_ble_eq_true rfl)⟩) hS (fun q _ h => hFc q h) hFc (fun r30 u t H1 locs ht hvm hw hB hz1 hk1 hS => ?_)
  obtain ⟨hP1, hD1⟩ := hB
  rw [ht] at hP1
  obtain ⟨hP, hD⟩ := va_join (wr := [(h0, .inr (5, [.ref st, .ref wd, .int 1])), (st, .inl (y 1, 8, .inl (zf tS2 8 f))), (wd, .inl (y 1, 80, .inl (zf tW2 3 g)))]) (w1 := [(sp, .inr (4, [w2, .int 0, .int 0]))]) hP hD [3] [0, 1, 2] rfl rfl (by decide) (by decide) hk1 hFc hP1 hD1
  generalize H1 = H at hP hS ⊢
  have hP : va_P D vwCl [(h0, .inr (5, [.ref st, .ref wd, .int 1])), (st, .inl (y 1, 8, .inl (zf tS2 8 f))), (wd, .inl (y 1, 80, .inl (zf tW2 3 g))), (sp, .inr (4, [w2, .int 0, .int 0]))] H := hP
  have hD : va_D A [(h0, .inr (5, [.ref st, .ref wd, .int 1])), (st, .inl (y 1, 8, .inl (zf tS2 8 f))), (wd, .inl (y 1, 80, .inl (zf tW2 3 g))), (sp, .inr (4, [w2, .int 0, .int 0]))] := hD
  have hw : r30 = 0 := hw
  subst hw
  refine va_iast hx hb hK hP hD hS 2 1 rfl rfl (by unfold vp_in; decide) dX1_make_107 (fun H locs hP hD hS => ?_)
  have hP : va_P D vwCl [(h0, .inr (5, [.ref st, .ref wd, .int 1])), (st, .inl (y 1, 8, .inl (zf tS2 8 f))), (wd, .inl (y 1, 80, .inl (upd (zf tW2 3 g) (nI 3).toNatClampNeg (0 : Int32)))), (sp, .inr (4, [w2, .int 0, .int 0]))] H := hP
  have hD : va_D A [(h0, .inr (5, [.ref st, .ref wd, .int 1])), (st, .inl (y 1, 8, .inl (zf tS2 8 f))), (wd, .inl (y 1, 80, .inl (upd (zf tW2 3 g) (nI 3).toNatClampNeg (0 : Int32)))), (sp, .inr (4, [w2, .int 0, .int 0]))] := hD
  have u31 : upd (zf tW2 3 g) (nI 3).toNatClampNeg (0 : Int32) = zf tW2 4 g := (zf_st (n := 3) (by decide) (by decide +kernel))
  rw [u31] at hP hD
  have hP : va_P D vwCl [(h0, .inr (5, [.ref st, .ref wd, .int 1])), (st, .inl (y 1, 8, .inl (zf tS2 8 f))), (wd, .inl (y 1, 80, .inl (zf tW2 4 g))), (sp, .inr (4, [w2, .int 0, .int 0]))] H := hP
  have hD : va_D A [(h0, .inr (5, [.ref st, .ref wd, .int 1])), (st, .inl (y 1, 8, .inl (zf tS2 8 f))), (wd, .inl (y 1, 80, .inl (zf tW2 4 g))), (sp, .inr (4, [w2, .int 0, .int 0]))] := hD
  refine lv_iinc (v := 4) (lv' := [(5, .int 4), (4, .int 0), (3, .int 1), (0, .ref h0), (1, .int 8), (2, .ref sp)]) hx hb dX1_make_108 hl (k := 0) rfl (by decide) (by decide) rfl (fun ls hl => ?_)
  refine lv_goto (tgt := 80) hx hb dX1_make_111 (by decide) ?_
  refine lv_iload hx hb dX1_make_80 (lv_at hl 0 rfl) ?_
  refine lv_bipush (v := 16) hx hb dX1_make_82 (by decide) ?_
  refine lv_icmp_ge (tgt := 114) hx hb dX1_make_84 (by decide) (fun c9 => absurd c9 (by decide)) (fun _ => ?_)
  refine lv_aload_n hx hb dX1_make_87 rfl (lv_at hl 3 rfl) ?_
  refine va_get (D := D) (ci := 5) (v := .ref wd) (C := RX1) (T := TX1) (N := 3) hx hb hts (by decide +kernel) hown hK hP 0 rfl rfl 1 (by decide) (hts (.fieldLink RX1 15 "SignetRing$Digest" "words" "[I") (by decide +kernel)) (fun _ h9 => h9) rfl dX1_make_88 ?_
  refine lv_iload hx hb dX1_make_91 (lv_at hl 0 rfl) ?_
  refine lv_aload_n hx hb dX1_make_93 rfl (lv_at hl 5 rfl) ?_
  refine lv_bipush (v := 64) hx hb dX1_make_94 (by decide) ?_
  refine lv_iload hx hb dX1_make_96 (lv_at hl 1 rfl) ?_
  refine lv_imul hx hb dX1_make_98 ?_
  refine lv_topi (fun v32 ev32 => ?_)
  have ev32 : v32 = 0 := ev32.trans (by decide +kernel)
  subst ev32
  refine lv_iconst (v := 4) hx hb dX1_make_99 (by decide) ?_
  refine lv_iload hx hb dX1_make_100 (lv_at hl 0 rfl) ?_
  refine lv_imul hx hb dX1_make_102 ?_
  refine lv_topi (fun v33 ev33 => ?_)
  have ev33 : v33 = 16 := ev33.trans (by decide +kernel)
  subst ev33
  refine lv_iadd hx hb dX1_make_103 ?_
  refine lv_topi (fun v34 ev34 => ?_)
  have ev34 : v34 = 16 := ev34.trans (by decide +kernel)
  subst ev34
  have hPc := hP.sub (ws' := [(sp, .inr (4, [w2, .int 0, .int 0]))]) [3] rfl
  have hDc := hD.sub (ws' := [(sp, .inr (4, [w2, .int 0, .int 0]))]) [3] (by decide) rfl
  have hFc := va_free (wc := [(sp, .inr (4, [w2, .int 0, .int 0]))]) hD hS hA [3] rfl
  refine va_calli (va_runS (As := [.ref sp, .int 16]) (rest := [.int 4, .ref wd]) ⟨hx, hb, hml, hown, hts⟩ (c_X1_wordOf_16 l D y H.size sp w2) (va_cwS 2 hts gv_c_X1_make_2_c_X1_wordOf_16_34 rfl rfl rfl (by decide +kernel) ⟨(Nat.le_of_ble_eq_true rfl), (Nat.le_of_ble_eq_true rfl)⟩) (zB.preS hPc hDc hK hN hE hO hT hG hS hFc (fun _ h => nomatch h) (fun _ h => nomatch h) (fun _ h => nomatch h) (fun _ h => nomatch h)) rfl rfl hl.1 rfl (lv_room (Nat.le_of_ble_eq_true rfl)) dX1_make_104 ⟨(Nat.le_of_ble_eq_true rfl), (Nat.le_of_ble_eq_true rfl)⟩) hS (fun q _ h => hFc q h) hFc (fun r35 u t H1 locs ht hvm hw hB hz1 hk1 hS => ?_)
  obtain ⟨hP1, hD1⟩ := hB
  rw [ht] at hP1
  obtain ⟨hP, hD⟩ := va_join (wr := [(h0, .inr (5, [.ref st, .ref wd, .int 1])), (st, .inl (y 1, 8, .inl (zf tS2 8 f))), (wd, .inl (y 1, 80, .inl (zf tW2 4 g)))]) (w1 := [(sp, .inr (4, [w2, .int 0, .int 0]))]) hP hD [3] [0, 1, 2] rfl rfl (by decide) (by decide) hk1 hFc hP1 hD1
  generalize H1 = H at hP hS ⊢
  have hP : va_P D vwCl [(h0, .inr (5, [.ref st, .ref wd, .int 1])), (st, .inl (y 1, 8, .inl (zf tS2 8 f))), (wd, .inl (y 1, 80, .inl (zf tW2 4 g))), (sp, .inr (4, [w2, .int 0, .int 0]))] H := hP
  have hD : va_D A [(h0, .inr (5, [.ref st, .ref wd, .int 1])), (st, .inl (y 1, 8, .inl (zf tS2 8 f))), (wd, .inl (y 1, 80, .inl (zf tW2 4 g))), (sp, .inr (4, [w2, .int 0, .int 0]))] := hD
  have hw : r35 = 0 := hw
  subst hw
  refine va_iast hx hb hK hP hD hS 2 1 rfl rfl (by unfold vp_in; decide) dX1_make_107 (fun H locs hP hD hS => ?_)
  have hP : va_P D vwCl [(h0, .inr (5, [.ref st, .ref wd, .int 1])), (st, .inl (y 1, 8, .inl (zf tS2 8 f))), (wd, .inl (y 1, 80, .inl (upd (zf tW2 4 g) (nI 4).toNatClampNeg (0 : Int32)))), (sp, .inr (4, [w2, .int 0, .int 0]))] H := hP
  have hD : va_D A [(h0, .inr (5, [.ref st, .ref wd, .int 1])), (st, .inl (y 1, 8, .inl (zf tS2 8 f))), (wd, .inl (y 1, 80, .inl (upd (zf tW2 4 g) (nI 4).toNatClampNeg (0 : Int32)))), (sp, .inr (4, [w2, .int 0, .int 0]))] := hD
  have u36 : upd (zf tW2 4 g) (nI 4).toNatClampNeg (0 : Int32) = zf tW2 5 g := (zf_st (n := 4) (by decide) (by decide +kernel))
  rw [u36] at hP hD
  have hP : va_P D vwCl [(h0, .inr (5, [.ref st, .ref wd, .int 1])), (st, .inl (y 1, 8, .inl (zf tS2 8 f))), (wd, .inl (y 1, 80, .inl (zf tW2 5 g))), (sp, .inr (4, [w2, .int 0, .int 0]))] H := hP
  have hD : va_D A [(h0, .inr (5, [.ref st, .ref wd, .int 1])), (st, .inl (y 1, 8, .inl (zf tS2 8 f))), (wd, .inl (y 1, 80, .inl (zf tW2 5 g))), (sp, .inr (4, [w2, .int 0, .int 0]))] := hD
  refine lv_iinc (v := 5) (lv' := [(5, .int 5), (4, .int 0), (3, .int 1), (0, .ref h0), (1, .int 8), (2, .ref sp)]) hx hb dX1_make_108 hl (k := 0) rfl (by decide) (by decide) rfl (fun ls hl => ?_)
  refine lv_goto (tgt := 80) hx hb dX1_make_111 (by decide) ?_
  refine lv_iload hx hb dX1_make_80 (lv_at hl 0 rfl) ?_
  refine lv_bipush (v := 16) hx hb dX1_make_82 (by decide) ?_
  refine lv_icmp_ge (tgt := 114) hx hb dX1_make_84 (by decide) (fun c9 => absurd c9 (by decide)) (fun _ => ?_)
  refine lv_aload_n hx hb dX1_make_87 rfl (lv_at hl 3 rfl) ?_
  refine va_get (D := D) (ci := 5) (v := .ref wd) (C := RX1) (T := TX1) (N := 3) hx hb hts (by decide +kernel) hown hK hP 0 rfl rfl 1 (by decide) (hts (.fieldLink RX1 15 "SignetRing$Digest" "words" "[I") (by decide +kernel)) (fun _ h9 => h9) rfl dX1_make_88 ?_
  refine lv_iload hx hb dX1_make_91 (lv_at hl 0 rfl) ?_
  refine lv_aload_n hx hb dX1_make_93 rfl (lv_at hl 5 rfl) ?_
  refine lv_bipush (v := 64) hx hb dX1_make_94 (by decide) ?_
  refine lv_iload hx hb dX1_make_96 (lv_at hl 1 rfl) ?_
  refine lv_imul hx hb dX1_make_98 ?_
  refine lv_topi (fun v37 ev37 => ?_)
  have ev37 : v37 = 0 := ev37.trans (by decide +kernel)
  subst ev37
  refine lv_iconst (v := 4) hx hb dX1_make_99 (by decide) ?_
  refine lv_iload hx hb dX1_make_100 (lv_at hl 0 rfl) ?_
  refine lv_imul hx hb dX1_make_102 ?_
  refine lv_topi (fun v38 ev38 => ?_)
  have ev38 : v38 = 20 := ev38.trans (by decide +kernel)
  subst ev38
  refine lv_iadd hx hb dX1_make_103 ?_
  refine lv_topi (fun v39 ev39 => ?_)
  have ev39 : v39 = 20 := ev39.trans (by decide +kernel)
  subst ev39
  have hPc := hP.sub (ws' := [(sp, .inr (4, [w2, .int 0, .int 0]))]) [3] rfl
  have hDc := hD.sub (ws' := [(sp, .inr (4, [w2, .int 0, .int 0]))]) [3] (by decide) rfl
  have hFc := va_free (wc := [(sp, .inr (4, [w2, .int 0, .int 0]))]) hD hS hA [3] rfl
  refine va_calli (va_runS (As := [.ref sp, .int 20]) (rest := [.int 5, .ref wd]) ⟨hx, hb, hml, hown, hts⟩ (c_X1_wordOf_20 l D y H.size sp w2) (va_cwS 2 hts gv_c_X1_make_2_c_X1_wordOf_20_34 rfl rfl rfl (by decide +kernel) ⟨(Nat.le_of_ble_eq_true rfl), (Nat.le_of_ble_eq_true rfl)⟩) (zB.preS hPc hDc hK hN hE hO hT hG hS hFc (fun _ h => nomatch h) (fun _ h => nomatch h) (fun _ h => nomatch h) (fun _ h => nomatch h)) rfl rfl hl.1 rfl (lv_room (Nat.le_of_ble_eq_true rfl)) dX1_make_104 ⟨(Nat.le_of_ble_eq_true rfl), (Nat.le_of_ble_eq_true rfl)⟩) hS (fun q _ h => hFc q h) hFc (fun r40 u t H1 locs ht hvm hw hB hz1 hk1 hS => ?_)
  obtain ⟨hP1, hD1⟩ := hB
  rw [ht] at hP1
  obtain ⟨hP, hD⟩ := va_join (wr := [(h0, .inr (5, [.ref st, .ref wd, .int 1])), (st, .inl (y 1, 8, .inl (zf tS2 8 f))), (wd, .inl (y 1, 80, .inl (zf tW2 5 g)))]) (w1 := [(sp, .inr (4, [w2, .int 0, .int 0]))]) hP hD [3] [0, 1, 2] rfl rfl (by decide) (by decide) hk1 hFc hP1 hD1
  generalize H1 = H at hP hS ⊢
  have hP : va_P D vwCl [(h0, .inr (5, [.ref st, .ref wd, .int 1])), (st, .inl (y 1, 8, .inl (zf tS2 8 f))), (wd, .inl (y 1, 80, .inl (zf tW2 5 g))), (sp, .inr (4, [w2, .int 0, .int 0]))] H := hP
  have hD : va_D A [(h0, .inr (5, [.ref st, .ref wd, .int 1])), (st, .inl (y 1, 8, .inl (zf tS2 8 f))), (wd, .inl (y 1, 80, .inl (zf tW2 5 g))), (sp, .inr (4, [w2, .int 0, .int 0]))] := hD
  have hw : r40 = 0 := hw
  subst hw
  refine va_iast hx hb hK hP hD hS 2 1 rfl rfl (by unfold vp_in; decide) dX1_make_107 (fun H locs hP hD hS => ?_)
  have hP : va_P D vwCl [(h0, .inr (5, [.ref st, .ref wd, .int 1])), (st, .inl (y 1, 8, .inl (zf tS2 8 f))), (wd, .inl (y 1, 80, .inl (upd (zf tW2 5 g) (nI 5).toNatClampNeg (0 : Int32)))), (sp, .inr (4, [w2, .int 0, .int 0]))] H := hP
  have hD : va_D A [(h0, .inr (5, [.ref st, .ref wd, .int 1])), (st, .inl (y 1, 8, .inl (zf tS2 8 f))), (wd, .inl (y 1, 80, .inl (upd (zf tW2 5 g) (nI 5).toNatClampNeg (0 : Int32)))), (sp, .inr (4, [w2, .int 0, .int 0]))] := hD
  have u41 : upd (zf tW2 5 g) (nI 5).toNatClampNeg (0 : Int32) = zf tW2 6 g := (zf_st (n := 5) (by decide) (by decide +kernel))
  rw [u41] at hP hD
  have hP : va_P D vwCl [(h0, .inr (5, [.ref st, .ref wd, .int 1])), (st, .inl (y 1, 8, .inl (zf tS2 8 f))), (wd, .inl (y 1, 80, .inl (zf tW2 6 g))), (sp, .inr (4, [w2, .int 0, .int 0]))] H := hP
  have hD : va_D A [(h0, .inr (5, [.ref st, .ref wd, .int 1])), (st, .inl (y 1, 8, .inl (zf tS2 8 f))), (wd, .inl (y 1, 80, .inl (zf tW2 6 g))), (sp, .inr (4, [w2, .int 0, .int 0]))] := hD
  refine lv_iinc (v := 6) (lv' := [(5, .int 6), (4, .int 0), (3, .int 1), (0, .ref h0), (1, .int 8), (2, .ref sp)]) hx hb dX1_make_108 hl (k := 0) rfl (by decide) (by decide) rfl (fun ls hl => ?_)
  refine lv_goto (tgt := 80) hx hb dX1_make_111 (by decide) ?_
  refine lv_iload hx hb dX1_make_80 (lv_at hl 0 rfl) ?_
  refine lv_bipush (v := 16) hx hb dX1_make_82 (by decide) ?_
  refine lv_icmp_ge (tgt := 114) hx hb dX1_make_84 (by decide) (fun c9 => absurd c9 (by decide)) (fun _ => ?_)
  refine lv_aload_n hx hb dX1_make_87 rfl (lv_at hl 3 rfl) ?_
  refine va_get (D := D) (ci := 5) (v := .ref wd) (C := RX1) (T := TX1) (N := 3) hx hb hts (by decide +kernel) hown hK hP 0 rfl rfl 1 (by decide) (hts (.fieldLink RX1 15 "SignetRing$Digest" "words" "[I") (by decide +kernel)) (fun _ h9 => h9) rfl dX1_make_88 ?_
  refine lv_iload hx hb dX1_make_91 (lv_at hl 0 rfl) ?_
  refine lv_aload_n hx hb dX1_make_93 rfl (lv_at hl 5 rfl) ?_
  refine lv_bipush (v := 64) hx hb dX1_make_94 (by decide) ?_
  refine lv_iload hx hb dX1_make_96 (lv_at hl 1 rfl) ?_
  refine lv_imul hx hb dX1_make_98 ?_
  refine lv_topi (fun v42 ev42 => ?_)
  have ev42 : v42 = 0 := ev42.trans (by decide +kernel)
  subst ev42
  refine lv_iconst (v := 4) hx hb dX1_make_99 (by decide) ?_
  refine lv_iload hx hb dX1_make_100 (lv_at hl 0 rfl) ?_
  refine lv_imul hx hb dX1_make_102 ?_
  refine lv_topi (fun v43 ev43 => ?_)
  have ev43 : v43 = 24 := ev43.trans (by decide +kernel)
  subst ev43
  refine lv_iadd hx hb dX1_make_103 ?_
  refine lv_topi (fun v44 ev44 => ?_)
  have ev44 : v44 = 24 := ev44.trans (by decide +kernel)
  subst ev44
  have hPc := hP.sub (ws' := [(sp, .inr (4, [w2, .int 0, .int 0]))]) [3] rfl
  have hDc := hD.sub (ws' := [(sp, .inr (4, [w2, .int 0, .int 0]))]) [3] (by decide) rfl
  have hFc := va_free (wc := [(sp, .inr (4, [w2, .int 0, .int 0]))]) hD hS hA [3] rfl
  refine va_calli (va_runS (As := [.ref sp, .int 24]) (rest := [.int 6, .ref wd]) ⟨hx, hb, hml, hown, hts⟩ (c_X1_wordOf_24 l D y H.size sp w2) (va_cwS 2 hts gv_c_X1_make_2_c_X1_wordOf_24_34 rfl rfl rfl (by decide +kernel) ⟨(Nat.le_of_ble_eq_true rfl), (Nat.le_of_ble_eq_true rfl)⟩) (zB.preS hPc hDc hK hN hE hO hT hG hS hFc (fun _ h => nomatch h) (fun _ h => nomatch h) (fun _ h => nomatch h) (fun _ h => nomatch h)) rfl rfl hl.1 rfl (lv_room (Nat.le_of_ble_eq_true rfl)) dX1_make_104 ⟨(Nat.le_of_ble_eq_true rfl), (Nat.le_of_ble_eq_true rfl)⟩) hS (fun q _ h => hFc q h) hFc (fun r45 u t H1 locs ht hvm hw hB hz1 hk1 hS => ?_)
  obtain ⟨hP1, hD1⟩ := hB
  rw [ht] at hP1
  obtain ⟨hP, hD⟩ := va_join (wr := [(h0, .inr (5, [.ref st, .ref wd, .int 1])), (st, .inl (y 1, 8, .inl (zf tS2 8 f))), (wd, .inl (y 1, 80, .inl (zf tW2 6 g)))]) (w1 := [(sp, .inr (4, [w2, .int 0, .int 0]))]) hP hD [3] [0, 1, 2] rfl rfl (by decide) (by decide) hk1 hFc hP1 hD1
  generalize H1 = H at hP hS ⊢
  have hP : va_P D vwCl [(h0, .inr (5, [.ref st, .ref wd, .int 1])), (st, .inl (y 1, 8, .inl (zf tS2 8 f))), (wd, .inl (y 1, 80, .inl (zf tW2 6 g))), (sp, .inr (4, [w2, .int 0, .int 0]))] H := hP
  have hD : va_D A [(h0, .inr (5, [.ref st, .ref wd, .int 1])), (st, .inl (y 1, 8, .inl (zf tS2 8 f))), (wd, .inl (y 1, 80, .inl (zf tW2 6 g))), (sp, .inr (4, [w2, .int 0, .int 0]))] := hD
  have hw : r45 = 0 := hw
  subst hw
  refine va_iast hx hb hK hP hD hS 2 1 rfl rfl (by unfold vp_in; decide) dX1_make_107 (fun H locs hP hD hS => ?_)
  have hP : va_P D vwCl [(h0, .inr (5, [.ref st, .ref wd, .int 1])), (st, .inl (y 1, 8, .inl (zf tS2 8 f))), (wd, .inl (y 1, 80, .inl (upd (zf tW2 6 g) (nI 6).toNatClampNeg (0 : Int32)))), (sp, .inr (4, [w2, .int 0, .int 0]))] H := hP
  have hD : va_D A [(h0, .inr (5, [.ref st, .ref wd, .int 1])), (st, .inl (y 1, 8, .inl (zf tS2 8 f))), (wd, .inl (y 1, 80, .inl (upd (zf tW2 6 g) (nI 6).toNatClampNeg (0 : Int32)))), (sp, .inr (4, [w2, .int 0, .int 0]))] := hD
  have u46 : upd (zf tW2 6 g) (nI 6).toNatClampNeg (0 : Int32) = zf tW2 7 g := (zf_st (n := 6) (by decide) (by decide +kernel))
  rw [u46] at hP hD
  have hP : va_P D vwCl [(h0, .inr (5, [.ref st, .ref wd, .int 1])), (st, .inl (y 1, 8, .inl (zf tS2 8 f))), (wd, .inl (y 1, 80, .inl (zf tW2 7 g))), (sp, .inr (4, [w2, .int 0, .int 0]))] H := hP
  have hD : va_D A [(h0, .inr (5, [.ref st, .ref wd, .int 1])), (st, .inl (y 1, 8, .inl (zf tS2 8 f))), (wd, .inl (y 1, 80, .inl (zf tW2 7 g))), (sp, .inr (4, [w2, .int 0, .int 0]))] := hD
  refine lv_iinc (v := 7) (lv' := [(5, .int 7), (4, .int 0), (3, .int 1), (0, .ref h0), (1, .int 8), (2, .ref sp)]) hx hb dX1_make_108 hl (k := 0) rfl (by decide) (by decide) rfl (fun ls hl => ?_)
  refine lv_goto (tgt := 80) hx hb dX1_make_111 (by decide) ?_
  refine lv_iload hx hb dX1_make_80 (lv_at hl 0 rfl) ?_
  refine lv_bipush (v := 16) hx hb dX1_make_82 (by decide) ?_
  refine lv_icmp_ge (tgt := 114) hx hb dX1_make_84 (by decide) (fun c9 => absurd c9 (by decide)) (fun _ => ?_)
  refine lv_aload_n hx hb dX1_make_87 rfl (lv_at hl 3 rfl) ?_
  refine va_get (D := D) (ci := 5) (v := .ref wd) (C := RX1) (T := TX1) (N := 3) hx hb hts (by decide +kernel) hown hK hP 0 rfl rfl 1 (by decide) (hts (.fieldLink RX1 15 "SignetRing$Digest" "words" "[I") (by decide +kernel)) (fun _ h9 => h9) rfl dX1_make_88 ?_
  refine lv_iload hx hb dX1_make_91 (lv_at hl 0 rfl) ?_
  refine lv_aload_n hx hb dX1_make_93 rfl (lv_at hl 5 rfl) ?_
  refine lv_bipush (v := 64) hx hb dX1_make_94 (by decide) ?_
  refine lv_iload hx hb dX1_make_96 (lv_at hl 1 rfl) ?_
  refine lv_imul hx hb dX1_make_98 ?_
  refine lv_topi (fun v47 ev47 => ?_)
  have ev47 : v47 = 0 := ev47.trans (by decide +kernel)
  subst ev47
  refine lv_iconst (v := 4) hx hb dX1_make_99 (by decide) ?_
  refine lv_iload hx hb dX1_make_100 (lv_at hl 0 rfl) ?_
  refine lv_imul hx hb dX1_make_102 ?_
  refine lv_topi (fun v48 ev48 => ?_)
  have ev48 : v48 = 28 := ev48.trans (by decide +kernel)
  subst ev48
  refine lv_iadd hx hb dX1_make_103 ?_
  refine lv_topi (fun v49 ev49 => ?_)
  have ev49 : v49 = 28 := ev49.trans (by decide +kernel)
  subst ev49
  have hPc := hP.sub (ws' := [(sp, .inr (4, [w2, .int 0, .int 0]))]) [3] rfl
  have hDc := hD.sub (ws' := [(sp, .inr (4, [w2, .int 0, .int 0]))]) [3] (by decide) rfl
  have hFc := va_free (wc := [(sp, .inr (4, [w2, .int 0, .int 0]))]) hD hS hA [3] rfl
  refine va_calli (va_runS (As := [.ref sp, .int 28]) (rest := [.int 7, .ref wd]) ⟨hx, hb, hml, hown, hts⟩ (c_X1_wordOf_28 l D y H.size sp w2) (va_cwS 2 hts gv_c_X1_make_2_c_X1_wordOf_28_34 rfl rfl rfl (by decide +kernel) ⟨(Nat.le_of_ble_eq_true rfl), (Nat.le_of_ble_eq_true rfl)⟩) (zB.preS hPc hDc hK hN hE hO hT hG hS hFc (fun _ h => nomatch h) (fun _ h => nomatch h) (fun _ h => nomatch h) (fun _ h => nomatch h)) rfl rfl hl.1 rfl (lv_room (Nat.le_of_ble_eq_true rfl)) dX1_make_104 ⟨(Nat.le_of_ble_eq_true rfl), (Nat.le_of_ble_eq_true rfl)⟩) hS (fun q _ h => hFc q h) hFc (fun r50 u t H1 locs ht hvm hw hB hz1 hk1 hS => ?_)
  obtain ⟨hP1, hD1⟩ := hB
  rw [ht] at hP1
  obtain ⟨hP, hD⟩ := va_join (wr := [(h0, .inr (5, [.ref st, .ref wd, .int 1])), (st, .inl (y 1, 8, .inl (zf tS2 8 f))), (wd, .inl (y 1, 80, .inl (zf tW2 7 g)))]) (w1 := [(sp, .inr (4, [w2, .int 0, .int 0]))]) hP hD [3] [0, 1, 2] rfl rfl (by decide) (by decide) hk1 hFc hP1 hD1
  generalize H1 = H at hP hS ⊢
  have hP : va_P D vwCl [(h0, .inr (5, [.ref st, .ref wd, .int 1])), (st, .inl (y 1, 8, .inl (zf tS2 8 f))), (wd, .inl (y 1, 80, .inl (zf tW2 7 g))), (sp, .inr (4, [w2, .int 0, .int 0]))] H := hP
  have hD : va_D A [(h0, .inr (5, [.ref st, .ref wd, .int 1])), (st, .inl (y 1, 8, .inl (zf tS2 8 f))), (wd, .inl (y 1, 80, .inl (zf tW2 7 g))), (sp, .inr (4, [w2, .int 0, .int 0]))] := hD
  have hw : r50 = 0 := hw
  subst hw
  refine va_iast hx hb hK hP hD hS 2 1 rfl rfl (by unfold vp_in; decide) dX1_make_107 (fun H locs hP hD hS => ?_)
  have hP : va_P D vwCl [(h0, .inr (5, [.ref st, .ref wd, .int 1])), (st, .inl (y 1, 8, .inl (zf tS2 8 f))), (wd, .inl (y 1, 80, .inl (upd (zf tW2 7 g) (nI 7).toNatClampNeg (0 : Int32)))), (sp, .inr (4, [w2, .int 0, .int 0]))] H := hP
  have hD : va_D A [(h0, .inr (5, [.ref st, .ref wd, .int 1])), (st, .inl (y 1, 8, .inl (zf tS2 8 f))), (wd, .inl (y 1, 80, .inl (upd (zf tW2 7 g) (nI 7).toNatClampNeg (0 : Int32)))), (sp, .inr (4, [w2, .int 0, .int 0]))] := hD
  have u51 : upd (zf tW2 7 g) (nI 7).toNatClampNeg (0 : Int32) = zf tW2 8 g := (zf_st (n := 7) (by decide) (by decide +kernel))
  rw [u51] at hP hD
  have hP : va_P D vwCl [(h0, .inr (5, [.ref st, .ref wd, .int 1])), (st, .inl (y 1, 8, .inl (zf tS2 8 f))), (wd, .inl (y 1, 80, .inl (zf tW2 8 g))), (sp, .inr (4, [w2, .int 0, .int 0]))] H := hP
  have hD : va_D A [(h0, .inr (5, [.ref st, .ref wd, .int 1])), (st, .inl (y 1, 8, .inl (zf tS2 8 f))), (wd, .inl (y 1, 80, .inl (zf tW2 8 g))), (sp, .inr (4, [w2, .int 0, .int 0]))] := hD
  refine lv_iinc (v := 8) (lv' := [(5, .int 8), (4, .int 0), (3, .int 1), (0, .ref h0), (1, .int 8), (2, .ref sp)]) hx hb dX1_make_108 hl (k := 0) rfl (by decide) (by decide) rfl (fun ls hl => ?_)
  refine lv_goto (tgt := 80) hx hb dX1_make_111 (by decide) ?_
  refine lv_iload hx hb dX1_make_80 (lv_at hl 0 rfl) ?_
  refine lv_bipush (v := 16) hx hb dX1_make_82 (by decide) ?_
  refine lv_icmp_ge (tgt := 114) hx hb dX1_make_84 (by decide) (fun c9 => absurd c9 (by decide)) (fun _ => ?_)
  refine lv_aload_n hx hb dX1_make_87 rfl (lv_at hl 3 rfl) ?_
  refine va_get (D := D) (ci := 5) (v := .ref wd) (C := RX1) (T := TX1) (N := 3) hx hb hts (by decide +kernel) hown hK hP 0 rfl rfl 1 (by decide) (hts (.fieldLink RX1 15 "SignetRing$Digest" "words" "[I") (by decide +kernel)) (fun _ h9 => h9) rfl dX1_make_88 ?_
  refine lv_iload hx hb dX1_make_91 (lv_at hl 0 rfl) ?_
  refine lv_aload_n hx hb dX1_make_93 rfl (lv_at hl 5 rfl) ?_
  refine lv_bipush (v := 64) hx hb dX1_make_94 (by decide) ?_
  refine lv_iload hx hb dX1_make_96 (lv_at hl 1 rfl) ?_
  refine lv_imul hx hb dX1_make_98 ?_
  refine lv_topi (fun v52 ev52 => ?_)
  have ev52 : v52 = 0 := ev52.trans (by decide +kernel)
  subst ev52
  refine lv_iconst (v := 4) hx hb dX1_make_99 (by decide) ?_
  refine lv_iload hx hb dX1_make_100 (lv_at hl 0 rfl) ?_
  refine lv_imul hx hb dX1_make_102 ?_
  refine lv_topi (fun v53 ev53 => ?_)
  have ev53 : v53 = 32 := ev53.trans (by decide +kernel)
  subst ev53
  refine lv_iadd hx hb dX1_make_103 ?_
  refine lv_topi (fun v54 ev54 => ?_)
  have ev54 : v54 = 32 := ev54.trans (by decide +kernel)
  subst ev54
  have hPc := hP.sub (ws' := [(sp, .inr (4, [w2, .int 0, .int 0]))]) [3] rfl
  have hDc := hD.sub (ws' := [(sp, .inr (4, [w2, .int 0, .int 0]))]) [3] (by decide) rfl
  have hFc := va_free (wc := [(sp, .inr (4, [w2, .int 0, .int 0]))]) hD hS hA [3] rfl
  refine va_calli (va_runS (As := [.ref sp, .int 32]) (rest := [.int 8, .ref wd]) ⟨hx, hb, hml, hown, hts⟩ (c_X1_wordOf_32 l D y H.size sp w2) (va_cwS 2 hts gv_c_X1_make_2_c_X1_wordOf_32_34 rfl rfl rfl (by decide +kernel) ⟨(Nat.le_of_ble_eq_true rfl), (Nat.le_of_ble_eq_true rfl)⟩) (zB.preS hPc hDc hK hN hE hO hT hG hS hFc (fun _ h => nomatch h) (fun _ h => nomatch h) (fun _ h => nomatch h) (fun _ h => nomatch h)) rfl rfl hl.1 rfl (lv_room (Nat.le_of_ble_eq_true rfl)) dX1_make_104 ⟨(Nat.le_of_ble_eq_true rfl), (Nat.le_of_ble_eq_true rfl)⟩) hS (fun q _ h => hFc q h) hFc (fun r55 u t H1 locs ht hvm hw hB hz1 hk1 hS => ?_)
  obtain ⟨hP1, hD1⟩ := hB
  rw [ht] at hP1
  obtain ⟨hP, hD⟩ := va_join (wr := [(h0, .inr (5, [.ref st, .ref wd, .int 1])), (st, .inl (y 1, 8, .inl (zf tS2 8 f))), (wd, .inl (y 1, 80, .inl (zf tW2 8 g)))]) (w1 := [(sp, .inr (4, [w2, .int 0, .int 0]))]) hP hD [3] [0, 1, 2] rfl rfl (by decide) (by decide) hk1 hFc hP1 hD1
  generalize H1 = H at hP hS ⊢
  have hP : va_P D vwCl [(h0, .inr (5, [.ref st, .ref wd, .int 1])), (st, .inl (y 1, 8, .inl (zf tS2 8 f))), (wd, .inl (y 1, 80, .inl (zf tW2 8 g))), (sp, .inr (4, [w2, .int 0, .int 0]))] H := hP
  have hD : va_D A [(h0, .inr (5, [.ref st, .ref wd, .int 1])), (st, .inl (y 1, 8, .inl (zf tS2 8 f))), (wd, .inl (y 1, 80, .inl (zf tW2 8 g))), (sp, .inr (4, [w2, .int 0, .int 0]))] := hD
  have hw : r55 = 0 := hw
  subst hw
  refine va_iast hx hb hK hP hD hS 2 1 rfl rfl (by unfold vp_in; decide) dX1_make_107 (fun H locs hP hD hS => ?_)
  have hP : va_P D vwCl [(h0, .inr (5, [.ref st, .ref wd, .int 1])), (st, .inl (y 1, 8, .inl (zf tS2 8 f))), (wd, .inl (y 1, 80, .inl (upd (zf tW2 8 g) (nI 8).toNatClampNeg (0 : Int32)))), (sp, .inr (4, [w2, .int 0, .int 0]))] H := hP
  have hD : va_D A [(h0, .inr (5, [.ref st, .ref wd, .int 1])), (st, .inl (y 1, 8, .inl (zf tS2 8 f))), (wd, .inl (y 1, 80, .inl (upd (zf tW2 8 g) (nI 8).toNatClampNeg (0 : Int32)))), (sp, .inr (4, [w2, .int 0, .int 0]))] := hD
  have u56 : upd (zf tW2 8 g) (nI 8).toNatClampNeg (0 : Int32) = zf tW2 9 g := (zf_st (n := 8) (by decide) (by decide +kernel))
  rw [u56] at hP hD
  have hP : va_P D vwCl [(h0, .inr (5, [.ref st, .ref wd, .int 1])), (st, .inl (y 1, 8, .inl (zf tS2 8 f))), (wd, .inl (y 1, 80, .inl (zf tW2 9 g))), (sp, .inr (4, [w2, .int 0, .int 0]))] H := hP
  have hD : va_D A [(h0, .inr (5, [.ref st, .ref wd, .int 1])), (st, .inl (y 1, 8, .inl (zf tS2 8 f))), (wd, .inl (y 1, 80, .inl (zf tW2 9 g))), (sp, .inr (4, [w2, .int 0, .int 0]))] := hD
  refine lv_iinc (v := 9) (lv' := [(5, .int 9), (4, .int 0), (3, .int 1), (0, .ref h0), (1, .int 8), (2, .ref sp)]) hx hb dX1_make_108 hl (k := 0) rfl (by decide) (by decide) rfl (fun ls hl => ?_)
  refine lv_goto (tgt := 80) hx hb dX1_make_111 (by decide) ?_
  refine lv_iload hx hb dX1_make_80 (lv_at hl 0 rfl) ?_
  refine lv_bipush (v := 16) hx hb dX1_make_82 (by decide) ?_
  refine lv_icmp_ge (tgt := 114) hx hb dX1_make_84 (by decide) (fun c9 => absurd c9 (by decide)) (fun _ => ?_)
  refine lv_aload_n hx hb dX1_make_87 rfl (lv_at hl 3 rfl) ?_
  refine va_get (D := D) (ci := 5) (v := .ref wd) (C := RX1) (T := TX1) (N := 3) hx hb hts (by decide +kernel) hown hK hP 0 rfl rfl 1 (by decide) (hts (.fieldLink RX1 15 "SignetRing$Digest" "words" "[I") (by decide +kernel)) (fun _ h9 => h9) rfl dX1_make_88 ?_
  refine lv_iload hx hb dX1_make_91 (lv_at hl 0 rfl) ?_
  refine lv_aload_n hx hb dX1_make_93 rfl (lv_at hl 5 rfl) ?_
  refine lv_bipush (v := 64) hx hb dX1_make_94 (by decide) ?_
  refine lv_iload hx hb dX1_make_96 (lv_at hl 1 rfl) ?_
  refine lv_imul hx hb dX1_make_98 ?_
  refine lv_topi (fun v57 ev57 => ?_)
  have ev57 : v57 = 0 := ev57.trans (by decide +kernel)
  subst ev57
  refine lv_iconst (v := 4) hx hb dX1_make_99 (by decide) ?_
  refine lv_iload hx hb dX1_make_100 (lv_at hl 0 rfl) ?_
  refine lv_imul hx hb dX1_make_102 ?_
  refine lv_topi (fun v58 ev58 => ?_)
  have ev58 : v58 = 36 := ev58.trans (by decide +kernel)
  subst ev58
  refine lv_iadd hx hb dX1_make_103 ?_
  refine lv_topi (fun v59 ev59 => ?_)
  have ev59 : v59 = 36 := ev59.trans (by decide +kernel)
  subst ev59
  have hPc := hP.sub (ws' := [(sp, .inr (4, [w2, .int 0, .int 0]))]) [3] rfl
  have hDc := hD.sub (ws' := [(sp, .inr (4, [w2, .int 0, .int 0]))]) [3] (by decide) rfl
  have hFc := va_free (wc := [(sp, .inr (4, [w2, .int 0, .int 0]))]) hD hS hA [3] rfl
  refine va_calli (va_runS (As := [.ref sp, .int 36]) (rest := [.int 9, .ref wd]) ⟨hx, hb, hml, hown, hts⟩ (c_X1_wordOf_36 l D y H.size sp w2) (va_cwS 2 hts gv_c_X1_make_2_c_X1_wordOf_36_34 rfl rfl rfl (by decide +kernel) ⟨(Nat.le_of_ble_eq_true rfl), (Nat.le_of_ble_eq_true rfl)⟩) (zB.preS hPc hDc hK hN hE hO hT hG hS hFc (fun _ h => nomatch h) (fun _ h => nomatch h) (fun _ h => nomatch h) (fun _ h => nomatch h)) rfl rfl hl.1 rfl (lv_room (Nat.le_of_ble_eq_true rfl)) dX1_make_104 ⟨(Nat.le_of_ble_eq_true rfl), (Nat.le_of_ble_eq_true rfl)⟩) hS (fun q _ h => hFc q h) hFc (fun r60 u t H1 locs ht hvm hw hB hz1 hk1 hS => ?_)
  obtain ⟨hP1, hD1⟩ := hB
  rw [ht] at hP1
  obtain ⟨hP, hD⟩ := va_join (wr := [(h0, .inr (5, [.ref st, .ref wd, .int 1])), (st, .inl (y 1, 8, .inl (zf tS2 8 f))), (wd, .inl (y 1, 80, .inl (zf tW2 9 g)))]) (w1 := [(sp, .inr (4, [w2, .int 0, .int 0]))]) hP hD [3] [0, 1, 2] rfl rfl (by decide) (by decide) hk1 hFc hP1 hD1
  generalize H1 = H at hP hS ⊢
  have hP : va_P D vwCl [(h0, .inr (5, [.ref st, .ref wd, .int 1])), (st, .inl (y 1, 8, .inl (zf tS2 8 f))), (wd, .inl (y 1, 80, .inl (zf tW2 9 g))), (sp, .inr (4, [w2, .int 0, .int 0]))] H := hP
  have hD : va_D A [(h0, .inr (5, [.ref st, .ref wd, .int 1])), (st, .inl (y 1, 8, .inl (zf tS2 8 f))), (wd, .inl (y 1, 80, .inl (zf tW2 9 g))), (sp, .inr (4, [w2, .int 0, .int 0]))] := hD
  have hw : r60 = 0 := hw
  subst hw
  refine va_iast hx hb hK hP hD hS 2 1 rfl rfl (by unfold vp_in; decide) dX1_make_107 (fun H locs hP hD hS => ?_)
  have hP : va_P D vwCl [(h0, .inr (5, [.ref st, .ref wd, .int 1])), (st, .inl (y 1, 8, .inl (zf tS2 8 f))), (wd, .inl (y 1, 80, .inl (upd (zf tW2 9 g) (nI 9).toNatClampNeg (0 : Int32)))), (sp, .inr (4, [w2, .int 0, .int 0]))] H := hP
  have hD : va_D A [(h0, .inr (5, [.ref st, .ref wd, .int 1])), (st, .inl (y 1, 8, .inl (zf tS2 8 f))), (wd, .inl (y 1, 80, .inl (upd (zf tW2 9 g) (nI 9).toNatClampNeg (0 : Int32)))), (sp, .inr (4, [w2, .int 0, .int 0]))] := hD
  have u61 : upd (zf tW2 9 g) (nI 9).toNatClampNeg (0 : Int32) = zf tW2 10 g := (zf_st (n := 9) (by decide) (by decide +kernel))
  rw [u61] at hP hD
  have hP : va_P D vwCl [(h0, .inr (5, [.ref st, .ref wd, .int 1])), (st, .inl (y 1, 8, .inl (zf tS2 8 f))), (wd, .inl (y 1, 80, .inl (zf tW2 10 g))), (sp, .inr (4, [w2, .int 0, .int 0]))] H := hP
  have hD : va_D A [(h0, .inr (5, [.ref st, .ref wd, .int 1])), (st, .inl (y 1, 8, .inl (zf tS2 8 f))), (wd, .inl (y 1, 80, .inl (zf tW2 10 g))), (sp, .inr (4, [w2, .int 0, .int 0]))] := hD
  refine lv_iinc (v := 10) (lv' := [(5, .int 10), (4, .int 0), (3, .int 1), (0, .ref h0), (1, .int 8), (2, .ref sp)]) hx hb dX1_make_108 hl (k := 0) rfl (by decide) (by decide) rfl (fun ls hl => ?_)
  refine lv_goto (tgt := 80) hx hb dX1_make_111 (by decide) ?_
  refine lv_iload hx hb dX1_make_80 (lv_at hl 0 rfl) ?_
  refine lv_bipush (v := 16) hx hb dX1_make_82 (by decide) ?_
  refine lv_icmp_ge (tgt := 114) hx hb dX1_make_84 (by decide) (fun c9 => absurd c9 (by decide)) (fun _ => ?_)
  refine lv_aload_n hx hb dX1_make_87 rfl (lv_at hl 3 rfl) ?_
  refine va_get (D := D) (ci := 5) (v := .ref wd) (C := RX1) (T := TX1) (N := 3) hx hb hts (by decide +kernel) hown hK hP 0 rfl rfl 1 (by decide) (hts (.fieldLink RX1 15 "SignetRing$Digest" "words" "[I") (by decide +kernel)) (fun _ h9 => h9) rfl dX1_make_88 ?_
  refine lv_iload hx hb dX1_make_91 (lv_at hl 0 rfl) ?_
  refine lv_aload_n hx hb dX1_make_93 rfl (lv_at hl 5 rfl) ?_
  refine lv_bipush (v := 64) hx hb dX1_make_94 (by decide) ?_
  refine lv_iload hx hb dX1_make_96 (lv_at hl 1 rfl) ?_
  refine lv_imul hx hb dX1_make_98 ?_
  refine lv_topi (fun v62 ev62 => ?_)
  have ev62 : v62 = 0 := ev62.trans (by decide +kernel)
  subst ev62
  refine lv_iconst (v := 4) hx hb dX1_make_99 (by decide) ?_
  refine lv_iload hx hb dX1_make_100 (lv_at hl 0 rfl) ?_
  refine lv_imul hx hb dX1_make_102 ?_
  refine lv_topi (fun v63 ev63 => ?_)
  have ev63 : v63 = 40 := ev63.trans (by decide +kernel)
  subst ev63
  refine lv_iadd hx hb dX1_make_103 ?_
  refine lv_topi (fun v64 ev64 => ?_)
  have ev64 : v64 = 40 := ev64.trans (by decide +kernel)
  subst ev64
  have hPc := hP.sub (ws' := [(sp, .inr (4, [w2, .int 0, .int 0]))]) [3] rfl
  have hDc := hD.sub (ws' := [(sp, .inr (4, [w2, .int 0, .int 0]))]) [3] (by decide) rfl
  have hFc := va_free (wc := [(sp, .inr (4, [w2, .int 0, .int 0]))]) hD hS hA [3] rfl
  refine va_calli (va_runS (As := [.ref sp, .int 40]) (rest := [.int 10, .ref wd]) ⟨hx, hb, hml, hown, hts⟩ (c_X1_wordOf_40 l D y H.size sp w2) (va_cwS 2 hts gv_c_X1_make_2_c_X1_wordOf_40_34 rfl rfl rfl (by decide +kernel) ⟨(Nat.le_of_ble_eq_true rfl), (Nat.le_of_ble_eq_true rfl)⟩) (zB.preS hPc hDc hK hN hE hO hT hG hS hFc (fun _ h => nomatch h) (fun _ h => nomatch h) (fun _ h => nomatch h) (fun _ h => nomatch h)) rfl rfl hl.1 rfl (lv_room (Nat.le_of_ble_eq_true rfl)) dX1_make_104 ⟨(Nat.le_of_ble_eq_true rfl), (Nat.le_of_ble_eq_true rfl)⟩) hS (fun q _ h => hFc q h) hFc (fun r65 u t H1 locs ht hvm hw hB hz1 hk1 hS => ?_)
  obtain ⟨hP1, hD1⟩ := hB
  rw [ht] at hP1
  obtain ⟨hP, hD⟩ := va_join (wr := [(h0, .inr (5, [.ref st, .ref wd, .int 1])), (st, .inl (y 1, 8, .inl (zf tS2 8 f))), (wd, .inl (y 1, 80, .inl (zf tW2 10 g)))]) (w1 := [(sp, .inr (4, [w2, .int 0, .int 0]))]) hP hD [3] [0, 1, 2] rfl rfl (by decide) (by decide) hk1 hFc hP1 hD1
  generalize H1 = H at hP hS ⊢
  have hP : va_P D vwCl [(h0, .inr (5, [.ref st, .ref wd, .int 1])), (st, .inl (y 1, 8, .inl (zf tS2 8 f))), (wd, .inl (y 1, 80, .inl (zf tW2 10 g))), (sp, .inr (4, [w2, .int 0, .int 0]))] H := hP
  have hD : va_D A [(h0, .inr (5, [.ref st, .ref wd, .int 1])), (st, .inl (y 1, 8, .inl (zf tS2 8 f))), (wd, .inl (y 1, 80, .inl (zf tW2 10 g))), (sp, .inr (4, [w2, .int 0, .int 0]))] := hD
  have hw : r65 = 0 := hw
  subst hw
  refine va_iast hx hb hK hP hD hS 2 1 rfl rfl (by unfold vp_in; decide) dX1_make_107 (fun H locs hP hD hS => ?_)
  have hP : va_P D vwCl [(h0, .inr (5, [.ref st, .ref wd, .int 1])), (st, .inl (y 1, 8, .inl (zf tS2 8 f))), (wd, .inl (y 1, 80, .inl (upd (zf tW2 10 g) (nI 10).toNatClampNeg (0 : Int32)))), (sp, .inr (4, [w2, .int 0, .int 0]))] H := hP
  have hD : va_D A [(h0, .inr (5, [.ref st, .ref wd, .int 1])), (st, .inl (y 1, 8, .inl (zf tS2 8 f))), (wd, .inl (y 1, 80, .inl (upd (zf tW2 10 g) (nI 10).toNatClampNeg (0 : Int32)))), (sp, .inr (4, [w2, .int 0, .int 0]))] := hD
  have u66 : upd (zf tW2 10 g) (nI 10).toNatClampNeg (0 : Int32) = zf tW2 11 g := (zf_st (n := 10) (by decide) (by decide +kernel))
  rw [u66] at hP hD
  have hP : va_P D vwCl [(h0, .inr (5, [.ref st, .ref wd, .int 1])), (st, .inl (y 1, 8, .inl (zf tS2 8 f))), (wd, .inl (y 1, 80, .inl (zf tW2 11 g))), (sp, .inr (4, [w2, .int 0, .int 0]))] H := hP
  have hD : va_D A [(h0, .inr (5, [.ref st, .ref wd, .int 1])), (st, .inl (y 1, 8, .inl (zf tS2 8 f))), (wd, .inl (y 1, 80, .inl (zf tW2 11 g))), (sp, .inr (4, [w2, .int 0, .int 0]))] := hD
  refine lv_iinc (v := 11) (lv' := [(5, .int 11), (4, .int 0), (3, .int 1), (0, .ref h0), (1, .int 8), (2, .ref sp)]) hx hb dX1_make_108 hl (k := 0) rfl (by decide) (by decide) rfl (fun ls hl => ?_)
  refine lv_goto (tgt := 80) hx hb dX1_make_111 (by decide) ?_
  refine lv_iload hx hb dX1_make_80 (lv_at hl 0 rfl) ?_
  refine lv_bipush (v := 16) hx hb dX1_make_82 (by decide) ?_
  refine lv_icmp_ge (tgt := 114) hx hb dX1_make_84 (by decide) (fun c9 => absurd c9 (by decide)) (fun _ => ?_)
  refine lv_aload_n hx hb dX1_make_87 rfl (lv_at hl 3 rfl) ?_
  refine va_get (D := D) (ci := 5) (v := .ref wd) (C := RX1) (T := TX1) (N := 3) hx hb hts (by decide +kernel) hown hK hP 0 rfl rfl 1 (by decide) (hts (.fieldLink RX1 15 "SignetRing$Digest" "words" "[I") (by decide +kernel)) (fun _ h9 => h9) rfl dX1_make_88 ?_
  refine lv_iload hx hb dX1_make_91 (lv_at hl 0 rfl) ?_
  refine lv_aload_n hx hb dX1_make_93 rfl (lv_at hl 5 rfl) ?_
  refine lv_bipush (v := 64) hx hb dX1_make_94 (by decide) ?_
  refine lv_iload hx hb dX1_make_96 (lv_at hl 1 rfl) ?_
  refine lv_imul hx hb dX1_make_98 ?_
  refine lv_topi (fun v67 ev67 => ?_)
  have ev67 : v67 = 0 := ev67.trans (by decide +kernel)
  subst ev67
  refine lv_iconst (v := 4) hx hb dX1_make_99 (by decide) ?_
  refine lv_iload hx hb dX1_make_100 (lv_at hl 0 rfl) ?_
  refine lv_imul hx hb dX1_make_102 ?_
  refine lv_topi (fun v68 ev68 => ?_)
  have ev68 : v68 = 44 := ev68.trans (by decide +kernel)
  subst ev68
  refine lv_iadd hx hb dX1_make_103 ?_
  refine lv_topi (fun v69 ev69 => ?_)
  have ev69 : v69 = 44 := ev69.trans (by decide +kernel)
  subst ev69
  have hPc := hP.sub (ws' := [(sp, .inr (4, [w2, .int 0, .int 0]))]) [3] rfl
  have hDc := hD.sub (ws' := [(sp, .inr (4, [w2, .int 0, .int 0]))]) [3] (by decide) rfl
  have hFc := va_free (wc := [(sp, .inr (4, [w2, .int 0, .int 0]))]) hD hS hA [3] rfl
  refine va_calli (va_runS (As := [.ref sp, .int 44]) (rest := [.int 11, .ref wd]) ⟨hx, hb, hml, hown, hts⟩ (c_X1_wordOf_44 l D y H.size sp w2) (va_cwS 2 hts gv_c_X1_make_2_c_X1_wordOf_44_34 rfl rfl rfl (by decide +kernel) ⟨(Nat.le_of_ble_eq_true rfl), (Nat.le_of_ble_eq_true rfl)⟩) (zB.preS hPc hDc hK hN hE hO hT hG hS hFc (fun _ h => nomatch h) (fun _ h => nomatch h) (fun _ h => nomatch h) (fun _ h => nomatch h)) rfl rfl hl.1 rfl (lv_room (Nat.le_of_ble_eq_true rfl)) dX1_make_104 ⟨(Nat.le_of_ble_eq_true rfl), (Nat.le_of_ble_eq_true rfl)⟩) hS (fun q _ h => hFc q h) hFc (fun r70 u t H1 locs ht hvm hw hB hz1 hk1 hS => ?_)
  obtain ⟨hP1, hD1⟩ := hB
  rw [ht] at hP1
  obtain ⟨hP, hD⟩ := va_join (wr := [(h0, .inr (5, [.ref st, .ref wd, .int 1])), (st, .inl (y 1, 8, .inl (zf tS2 8 f))), (wd, .inl (y 1, 80, .inl (zf tW2 11 g)))]) (w1 := [(sp, .inr (4, [w2, .int 0, .int 0]))]) hP hD [3] [0, 1, 2] rfl rfl (by decide) (by decide) hk1 hFc hP1 hD1
  generalize H1 = H at hP hS ⊢
  have hP : va_P D vwCl [(h0, .inr (5, [.ref st, .ref wd, .int 1])), (st, .inl (y 1, 8, .inl (zf tS2 8 f))), (wd, .inl (y 1, 80, .inl (zf tW2 11 g))), (sp, .inr (4, [w2, .int 0, .int 0]))] H := hP
  have hD : va_D A [(h0, .inr (5, [.ref st, .ref wd, .int 1])), (st, .inl (y 1, 8, .inl (zf tS2 8 f))), (wd, .inl (y 1, 80, .inl (zf tW2 11 g))), (sp, .inr (4, [w2, .int 0, .int 0]))] := hD
  have hw : r70 = 0 := hw
  subst hw
  refine va_iast hx hb hK hP hD hS 2 1 rfl rfl (by unfold vp_in; decide) dX1_make_107 (fun H locs hP hD hS => ?_)
  have hP : va_P D vwCl [(h0, .inr (5, [.ref st, .ref wd, .int 1])), (st, .inl (y 1, 8, .inl (zf tS2 8 f))), (wd, .inl (y 1, 80, .inl (upd (zf tW2 11 g) (nI 11).toNatClampNeg (0 : Int32)))), (sp, .inr (4, [w2, .int 0, .int 0]))] H := hP
  have hD : va_D A [(h0, .inr (5, [.ref st, .ref wd, .int 1])), (st, .inl (y 1, 8, .inl (zf tS2 8 f))), (wd, .inl (y 1, 80, .inl (upd (zf tW2 11 g) (nI 11).toNatClampNeg (0 : Int32)))), (sp, .inr (4, [w2, .int 0, .int 0]))] := hD
  have u71 : upd (zf tW2 11 g) (nI 11).toNatClampNeg (0 : Int32) = zf tW2 12 g := (zf_st (n := 11) (by decide) (by decide +kernel))
  rw [u71] at hP hD
  have hP : va_P D vwCl [(h0, .inr (5, [.ref st, .ref wd, .int 1])), (st, .inl (y 1, 8, .inl (zf tS2 8 f))), (wd, .inl (y 1, 80, .inl (zf tW2 12 g))), (sp, .inr (4, [w2, .int 0, .int 0]))] H := hP
  have hD : va_D A [(h0, .inr (5, [.ref st, .ref wd, .int 1])), (st, .inl (y 1, 8, .inl (zf tS2 8 f))), (wd, .inl (y 1, 80, .inl (zf tW2 12 g))), (sp, .inr (4, [w2, .int 0, .int 0]))] := hD
  refine lv_iinc (v := 12) (lv' := [(5, .int 12), (4, .int 0), (3, .int 1), (0, .ref h0), (1, .int 8), (2, .ref sp)]) hx hb dX1_make_108 hl (k := 0) rfl (by decide) (by decide) rfl (fun ls hl => ?_)
  refine lv_goto (tgt := 80) hx hb dX1_make_111 (by decide) ?_
  refine lv_iload hx hb dX1_make_80 (lv_at hl 0 rfl) ?_
  refine lv_bipush (v := 16) hx hb dX1_make_82 (by decide) ?_
  refine lv_icmp_ge (tgt := 114) hx hb dX1_make_84 (by decide) (fun c9 => absurd c9 (by decide)) (fun _ => ?_)
  refine lv_aload_n hx hb dX1_make_87 rfl (lv_at hl 3 rfl) ?_
  refine va_get (D := D) (ci := 5) (v := .ref wd) (C := RX1) (T := TX1) (N := 3) hx hb hts (by decide +kernel) hown hK hP 0 rfl rfl 1 (by decide) (hts (.fieldLink RX1 15 "SignetRing$Digest" "words" "[I") (by decide +kernel)) (fun _ h9 => h9) rfl dX1_make_88 ?_
  refine lv_iload hx hb dX1_make_91 (lv_at hl 0 rfl) ?_
  refine lv_aload_n hx hb dX1_make_93 rfl (lv_at hl 5 rfl) ?_
  refine lv_bipush (v := 64) hx hb dX1_make_94 (by decide) ?_
  refine lv_iload hx hb dX1_make_96 (lv_at hl 1 rfl) ?_
  refine lv_imul hx hb dX1_make_98 ?_
  refine lv_topi (fun v72 ev72 => ?_)
  have ev72 : v72 = 0 := ev72.trans (by decide +kernel)
  subst ev72
  refine lv_iconst (v := 4) hx hb dX1_make_99 (by decide) ?_
  refine lv_iload hx hb dX1_make_100 (lv_at hl 0 rfl) ?_
  refine lv_imul hx hb dX1_make_102 ?_
  refine lv_topi (fun v73 ev73 => ?_)
  have ev73 : v73 = 48 := ev73.trans (by decide +kernel)
  subst ev73
  refine lv_iadd hx hb dX1_make_103 ?_
  refine lv_topi (fun v74 ev74 => ?_)
  have ev74 : v74 = 48 := ev74.trans (by decide +kernel)
  subst ev74
  have hPc := hP.sub (ws' := [(sp, .inr (4, [w2, .int 0, .int 0]))]) [3] rfl
  have hDc := hD.sub (ws' := [(sp, .inr (4, [w2, .int 0, .int 0]))]) [3] (by decide) rfl
  have hFc := va_free (wc := [(sp, .inr (4, [w2, .int 0, .int 0]))]) hD hS hA [3] rfl
  refine va_calli (va_runS (As := [.ref sp, .int 48]) (rest := [.int 12, .ref wd]) ⟨hx, hb, hml, hown, hts⟩ (c_X1_wordOf_48 l D y H.size sp w2) (va_cwS 2 hts gv_c_X1_make_2_c_X1_wordOf_48_34 rfl rfl rfl (by decide +kernel) ⟨(Nat.le_of_ble_eq_true rfl), (Nat.le_of_ble_eq_true rfl)⟩) (zB.preS hPc hDc hK hN hE hO hT hG hS hFc (fun _ h => nomatch h) (fun _ h => nomatch h) (fun _ h => nomatch h) (fun _ h => nomatch h)) rfl rfl hl.1 rfl (lv_room (Nat.le_of_ble_eq_true rfl)) dX1_make_104 ⟨(Nat.le_of_ble_eq_true rfl), (Nat.le_of_ble_eq_true rfl)⟩) hS (fun q _ h => hFc q h) hFc (fun r75 u t H1 locs ht hvm hw hB hz1 hk1 hS => ?_)
  obtain ⟨hP1, hD1⟩ := hB
  rw [ht] at hP1
  obtain ⟨hP, hD⟩ := va_join (wr := [(h0, .inr (5, [.ref st, .ref wd, .int 1])), (st, .inl (y 1, 8, .inl (zf tS2 8 f))), (wd, .inl (y 1, 80, .inl (zf tW2 12 g)))]) (w1 := [(sp, .inr (4, [w2, .int 0, .int 0]))]) hP hD [3] [0, 1, 2] rfl rfl (by decide) (by decide) hk1 hFc hP1 hD1
  generalize H1 = H at hP hS ⊢
  have hP : va_P D vwCl [(h0, .inr (5, [.ref st, .ref wd, .int 1])), (st, .inl (y 1, 8, .inl (zf tS2 8 f))), (wd, .inl (y 1, 80, .inl (zf tW2 12 g))), (sp, .inr (4, [w2, .int 0, .int 0]))] H := hP
  have hD : va_D A [(h0, .inr (5, [.ref st, .ref wd, .int 1])), (st, .inl (y 1, 8, .inl (zf tS2 8 f))), (wd, .inl (y 1, 80, .inl (zf tW2 12 g))), (sp, .inr (4, [w2, .int 0, .int 0]))] := hD
  have hw : r75 = 0 := hw
  subst hw
  refine va_iast hx hb hK hP hD hS 2 1 rfl rfl (by unfold vp_in; decide) dX1_make_107 (fun H locs hP hD hS => ?_)
  have hP : va_P D vwCl [(h0, .inr (5, [.ref st, .ref wd, .int 1])), (st, .inl (y 1, 8, .inl (zf tS2 8 f))), (wd, .inl (y 1, 80, .inl (upd (zf tW2 12 g) (nI 12).toNatClampNeg (0 : Int32)))), (sp, .inr (4, [w2, .int 0, .int 0]))] H := hP
  have hD : va_D A [(h0, .inr (5, [.ref st, .ref wd, .int 1])), (st, .inl (y 1, 8, .inl (zf tS2 8 f))), (wd, .inl (y 1, 80, .inl (upd (zf tW2 12 g) (nI 12).toNatClampNeg (0 : Int32)))), (sp, .inr (4, [w2, .int 0, .int 0]))] := hD
  have u76 : upd (zf tW2 12 g) (nI 12).toNatClampNeg (0 : Int32) = zf tW2 13 g := (zf_st (n := 12) (by decide) (by decide +kernel))
  rw [u76] at hP hD
  have hP : va_P D vwCl [(h0, .inr (5, [.ref st, .ref wd, .int 1])), (st, .inl (y 1, 8, .inl (zf tS2 8 f))), (wd, .inl (y 1, 80, .inl (zf tW2 13 g))), (sp, .inr (4, [w2, .int 0, .int 0]))] H := hP
  have hD : va_D A [(h0, .inr (5, [.ref st, .ref wd, .int 1])), (st, .inl (y 1, 8, .inl (zf tS2 8 f))), (wd, .inl (y 1, 80, .inl (zf tW2 13 g))), (sp, .inr (4, [w2, .int 0, .int 0]))] := hD
  refine lv_iinc (v := 13) (lv' := [(5, .int 13), (4, .int 0), (3, .int 1), (0, .ref h0), (1, .int 8), (2, .ref sp)]) hx hb dX1_make_108 hl (k := 0) rfl (by decide) (by decide) rfl (fun ls hl => ?_)
  refine lv_goto (tgt := 80) hx hb dX1_make_111 (by decide) ?_
  refine lv_iload hx hb dX1_make_80 (lv_at hl 0 rfl) ?_
  refine lv_bipush (v := 16) hx hb dX1_make_82 (by decide) ?_
  refine lv_icmp_ge (tgt := 114) hx hb dX1_make_84 (by decide) (fun c9 => absurd c9 (by decide)) (fun _ => ?_)
  refine lv_aload_n hx hb dX1_make_87 rfl (lv_at hl 3 rfl) ?_
  refine va_get (D := D) (ci := 5) (v := .ref wd) (C := RX1) (T := TX1) (N := 3) hx hb hts (by decide +kernel) hown hK hP 0 rfl rfl 1 (by decide) (hts (.fieldLink RX1 15 "SignetRing$Digest" "words" "[I") (by decide +kernel)) (fun _ h9 => h9) rfl dX1_make_88 ?_
  refine lv_iload hx hb dX1_make_91 (lv_at hl 0 rfl) ?_
  refine lv_aload_n hx hb dX1_make_93 rfl (lv_at hl 5 rfl) ?_
  refine lv_bipush (v := 64) hx hb dX1_make_94 (by decide) ?_
  refine lv_iload hx hb dX1_make_96 (lv_at hl 1 rfl) ?_
  refine lv_imul hx hb dX1_make_98 ?_
  refine lv_topi (fun v77 ev77 => ?_)
  have ev77 : v77 = 0 := ev77.trans (by decide +kernel)
  subst ev77
  refine lv_iconst (v := 4) hx hb dX1_make_99 (by decide) ?_
  refine lv_iload hx hb dX1_make_100 (lv_at hl 0 rfl) ?_
  refine lv_imul hx hb dX1_make_102 ?_
  refine lv_topi (fun v78 ev78 => ?_)
  have ev78 : v78 = 52 := ev78.trans (by decide +kernel)
  subst ev78
  refine lv_iadd hx hb dX1_make_103 ?_
  refine lv_topi (fun v79 ev79 => ?_)
  have ev79 : v79 = 52 := ev79.trans (by decide +kernel)
  subst ev79
  have hPc := hP.sub (ws' := [(sp, .inr (4, [w2, .int 0, .int 0]))]) [3] rfl
  have hDc := hD.sub (ws' := [(sp, .inr (4, [w2, .int 0, .int 0]))]) [3] (by decide) rfl
  have hFc := va_free (wc := [(sp, .inr (4, [w2, .int 0, .int 0]))]) hD hS hA [3] rfl
  refine va_calli (va_runS (As := [.ref sp, .int 52]) (rest := [.int 13, .ref wd]) ⟨hx, hb, hml, hown, hts⟩ (c_X1_wordOf_52 l D y H.size sp w2) (va_cwS 2 hts gv_c_X1_make_2_c_X1_wordOf_52_34 rfl rfl rfl (by decide +kernel) ⟨(Nat.le_of_ble_eq_true rfl), (Nat.le_of_ble_eq_true rfl)⟩) (zB.preS hPc hDc hK hN hE hO hT hG hS hFc (fun _ h => nomatch h) (fun _ h => nomatch h) (fun _ h => nomatch h) (fun _ h => nomatch h)) rfl rfl hl.1 rfl (lv_room (Nat.le_of_ble_eq_true rfl)) dX1_make_104 ⟨(Nat.le_of_ble_eq_true rfl), (Nat.le_of_ble_eq_true rfl)⟩) hS (fun q _ h => hFc q h) hFc (fun r80 u t H1 locs ht hvm hw hB hz1 hk1 hS => ?_)
  obtain ⟨hP1, hD1⟩ := hB
  rw [ht] at hP1
  obtain ⟨hP, hD⟩ := va_join (wr := [(h0, .inr (5, [.ref st, .ref wd, .int 1])), (st, .inl (y 1, 8, .inl (zf tS2 8 f))), (wd, .inl (y 1, 80, .inl (zf tW2 13 g)))]) (w1 := [(sp, .inr (4, [w2, .int 0, .int 0]))]) hP hD [3] [0, 1, 2] rfl rfl (by decide) (by decide) hk1 hFc hP1 hD1
  generalize H1 = H at hP hS ⊢
  have hP : va_P D vwCl [(h0, .inr (5, [.ref st, .ref wd, .int 1])), (st, .inl (y 1, 8, .inl (zf tS2 8 f))), (wd, .inl (y 1, 80, .inl (zf tW2 13 g))), (sp, .inr (4, [w2, .int 0, .int 0]))] H := hP
  have hD : va_D A [(h0, .inr (5, [.ref st, .ref wd, .int 1])), (st, .inl (y 1, 8, .inl (zf tS2 8 f))), (wd, .inl (y 1, 80, .inl (zf tW2 13 g))), (sp, .inr (4, [w2, .int 0, .int 0]))] := hD
  have hw : r80 = 0 := hw
  subst hw
  refine va_iast hx hb hK hP hD hS 2 1 rfl rfl (by unfold vp_in; decide) dX1_make_107 (fun H locs hP hD hS => ?_)
  have hP : va_P D vwCl [(h0, .inr (5, [.ref st, .ref wd, .int 1])), (st, .inl (y 1, 8, .inl (zf tS2 8 f))), (wd, .inl (y 1, 80, .inl (upd (zf tW2 13 g) (nI 13).toNatClampNeg (0 : Int32)))), (sp, .inr (4, [w2, .int 0, .int 0]))] H := hP
  have hD : va_D A [(h0, .inr (5, [.ref st, .ref wd, .int 1])), (st, .inl (y 1, 8, .inl (zf tS2 8 f))), (wd, .inl (y 1, 80, .inl (upd (zf tW2 13 g) (nI 13).toNatClampNeg (0 : Int32)))), (sp, .inr (4, [w2, .int 0, .int 0]))] := hD
  have u81 : upd (zf tW2 13 g) (nI 13).toNatClampNeg (0 : Int32) = zf tW2 14 g := (zf_st (n := 13) (by decide) (by decide +kernel))
  rw [u81] at hP hD
  have hP : va_P D vwCl [(h0, .inr (5, [.ref st, .ref wd, .int 1])), (st, .inl (y 1, 8, .inl (zf tS2 8 f))), (wd, .inl (y 1, 80, .inl (zf tW2 14 g))), (sp, .inr (4, [w2, .int 0, .int 0]))] H := hP
  have hD : va_D A [(h0, .inr (5, [.ref st, .ref wd, .int 1])), (st, .inl (y 1, 8, .inl (zf tS2 8 f))), (wd, .inl (y 1, 80, .inl (zf tW2 14 g))), (sp, .inr (4, [w2, .int 0, .int 0]))] := hD
  refine lv_iinc (v := 14) (lv' := [(5, .int 14), (4, .int 0), (3, .int 1), (0, .ref h0), (1, .int 8), (2, .ref sp)]) hx hb dX1_make_108 hl (k := 0) rfl (by decide) (by decide) rfl (fun ls hl => ?_)
  refine lv_goto (tgt := 80) hx hb dX1_make_111 (by decide) ?_
  refine lv_iload hx hb dX1_make_80 (lv_at hl 0 rfl) ?_
  refine lv_bipush (v := 16) hx hb dX1_make_82 (by decide) ?_
  refine lv_icmp_ge (tgt := 114) hx hb dX1_make_84 (by decide) (fun c9 => absurd c9 (by decide)) (fun _ => ?_)
  refine lv_aload_n hx hb dX1_make_87 rfl (lv_at hl 3 rfl) ?_
  refine va_get (D := D) (ci := 5) (v := .ref wd) (C := RX1) (T := TX1) (N := 3) hx hb hts (by decide +kernel) hown hK hP 0 rfl rfl 1 (by decide) (hts (.fieldLink RX1 15 "SignetRing$Digest" "words" "[I") (by decide +kernel)) (fun _ h9 => h9) rfl dX1_make_88 ?_
  refine lv_iload hx hb dX1_make_91 (lv_at hl 0 rfl) ?_
  refine lv_aload_n hx hb dX1_make_93 rfl (lv_at hl 5 rfl) ?_
  refine lv_bipush (v := 64) hx hb dX1_make_94 (by decide) ?_
  refine lv_iload hx hb dX1_make_96 (lv_at hl 1 rfl) ?_
  refine lv_imul hx hb dX1_make_98 ?_
  refine lv_topi (fun v82 ev82 => ?_)
  have ev82 : v82 = 0 := ev82.trans (by decide +kernel)
  subst ev82
  refine lv_iconst (v := 4) hx hb dX1_make_99 (by decide) ?_
  refine lv_iload hx hb dX1_make_100 (lv_at hl 0 rfl) ?_
  refine lv_imul hx hb dX1_make_102 ?_
  refine lv_topi (fun v83 ev83 => ?_)
  have ev83 : v83 = 56 := ev83.trans (by decide +kernel)
  subst ev83
  refine lv_iadd hx hb dX1_make_103 ?_
  refine lv_topi (fun v84 ev84 => ?_)
  have ev84 : v84 = 56 := ev84.trans (by decide +kernel)
  subst ev84
  have hPc := hP.sub (ws' := [(sp, .inr (4, [w2, .int 0, .int 0]))]) [3] rfl
  have hDc := hD.sub (ws' := [(sp, .inr (4, [w2, .int 0, .int 0]))]) [3] (by decide) rfl
  have hFc := va_free (wc := [(sp, .inr (4, [w2, .int 0, .int 0]))]) hD hS hA [3] rfl
  refine va_calli (va_runS (As := [.ref sp, .int 56]) (rest := [.int 14, .ref wd]) ⟨hx, hb, hml, hown, hts⟩ (c_X1_wordOf_56 l D y H.size sp w2) (va_cwS 2 hts gv_c_X1_make_2_c_X1_wordOf_56_34 rfl rfl rfl (by decide +kernel) ⟨(Nat.le_of_ble_eq_true rfl), (Nat.le_of_ble_eq_true rfl)⟩) (zB.preS hPc hDc hK hN hE hO hT hG hS hFc (fun _ h => nomatch h) (fun _ h => nomatch h) (fun _ h => nomatch h) (fun _ h => nomatch h)) rfl rfl hl.1 rfl (lv_room (Nat.le_of_ble_eq_true rfl)) dX1_make_104 ⟨(Nat.le_of_ble_eq_true rfl), (Nat.le_of_ble_eq_true rfl)⟩) hS (fun q _ h => hFc q h) hFc (fun r85 u t H1 locs ht hvm hw hB hz1 hk1 hS => ?_)
  obtain ⟨hP1, hD1⟩ := hB
  rw [ht] at hP1
  obtain ⟨hP, hD⟩ := va_join (wr := [(h0, .inr (5, [.ref st, .ref wd, .int 1])), (st, .inl (y 1, 8, .inl (zf tS2 8 f))), (wd, .inl (y 1, 80, .inl (zf tW2 14 g)))]) (w1 := [(sp, .inr (4, [w2, .int 0, .int 0]))]) hP hD [3] [0, 1, 2] rfl rfl (by decide) (by decide) hk1 hFc hP1 hD1
  generalize H1 = H at hP hS ⊢
  have hP : va_P D vwCl [(h0, .inr (5, [.ref st, .ref wd, .int 1])), (st, .inl (y 1, 8, .inl (zf tS2 8 f))), (wd, .inl (y 1, 80, .inl (zf tW2 14 g))), (sp, .inr (4, [w2, .int 0, .int 0]))] H := hP
  have hD : va_D A [(h0, .inr (5, [.ref st, .ref wd, .int 1])), (st, .inl (y 1, 8, .inl (zf tS2 8 f))), (wd, .inl (y 1, 80, .inl (zf tW2 14 g))), (sp, .inr (4, [w2, .int 0, .int 0]))] := hD
  have hw : r85 = 0 := hw
  subst hw
  refine va_iast hx hb hK hP hD hS 2 1 rfl rfl (by unfold vp_in; decide) dX1_make_107 (fun H locs hP hD hS => ?_)
  have hP : va_P D vwCl [(h0, .inr (5, [.ref st, .ref wd, .int 1])), (st, .inl (y 1, 8, .inl (zf tS2 8 f))), (wd, .inl (y 1, 80, .inl (upd (zf tW2 14 g) (nI 14).toNatClampNeg (0 : Int32)))), (sp, .inr (4, [w2, .int 0, .int 0]))] H := hP
  have hD : va_D A [(h0, .inr (5, [.ref st, .ref wd, .int 1])), (st, .inl (y 1, 8, .inl (zf tS2 8 f))), (wd, .inl (y 1, 80, .inl (upd (zf tW2 14 g) (nI 14).toNatClampNeg (0 : Int32)))), (sp, .inr (4, [w2, .int 0, .int 0]))] := hD
  have u86 : upd (zf tW2 14 g) (nI 14).toNatClampNeg (0 : Int32) = zf tW2 15 g := (zf_st (n := 14) (by decide) (by decide +kernel))
  rw [u86] at hP hD
  have hP : va_P D vwCl [(h0, .inr (5, [.ref st, .ref wd, .int 1])), (st, .inl (y 1, 8, .inl (zf tS2 8 f))), (wd, .inl (y 1, 80, .inl (zf tW2 15 g))), (sp, .inr (4, [w2, .int 0, .int 0]))] H := hP
  have hD : va_D A [(h0, .inr (5, [.ref st, .ref wd, .int 1])), (st, .inl (y 1, 8, .inl (zf tS2 8 f))), (wd, .inl (y 1, 80, .inl (zf tW2 15 g))), (sp, .inr (4, [w2, .int 0, .int 0]))] := hD
  refine lv_iinc (v := 15) (lv' := [(5, .int 15), (4, .int 0), (3, .int 1), (0, .ref h0), (1, .int 8), (2, .ref sp)]) hx hb dX1_make_108 hl (k := 0) rfl (by decide) (by decide) rfl (fun ls hl => ?_)
  refine lv_goto (tgt := 80) hx hb dX1_make_111 (by decide) ?_
  refine lv_iload hx hb dX1_make_80 (lv_at hl 0 rfl) ?_
  refine lv_bipush (v := 16) hx hb dX1_make_82 (by decide) ?_
  refine lv_icmp_ge (tgt := 114) hx hb dX1_make_84 (by decide) (fun c9 => absurd c9 (by decide)) (fun _ => ?_)
  refine lv_aload_n hx hb dX1_make_87 rfl (lv_at hl 3 rfl) ?_
  refine va_get (D := D) (ci := 5) (v := .ref wd) (C := RX1) (T := TX1) (N := 3) hx hb hts (by decide +kernel) hown hK hP 0 rfl rfl 1 (by decide) (hts (.fieldLink RX1 15 "SignetRing$Digest" "words" "[I") (by decide +kernel)) (fun _ h9 => h9) rfl dX1_make_88 ?_
  refine lv_iload hx hb dX1_make_91 (lv_at hl 0 rfl) ?_
  refine lv_aload_n hx hb dX1_make_93 rfl (lv_at hl 5 rfl) ?_
  refine lv_bipush (v := 64) hx hb dX1_make_94 (by decide) ?_
  refine lv_iload hx hb dX1_make_96 (lv_at hl 1 rfl) ?_
  refine lv_imul hx hb dX1_make_98 ?_
  refine lv_topi (fun v87 ev87 => ?_)
  have ev87 : v87 = 0 := ev87.trans (by decide +kernel)
  subst ev87
  refine lv_iconst (v := 4) hx hb dX1_make_99 (by decide) ?_
  refine lv_iload hx hb dX1_make_100 (lv_at hl 0 rfl) ?_
  refine lv_imul hx hb dX1_make_102 ?_
  refine lv_topi (fun v88 ev88 => ?_)
  have ev88 : v88 = 60 := ev88.trans (by decide +kernel)
  subst ev88
  refine lv_iadd hx hb dX1_make_103 ?_
  refine lv_topi (fun v89 ev89 => ?_)
  have ev89 : v89 = 60 := ev89.trans (by decide +kernel)
  subst ev89
  have hPc := hP.sub (ws' := [(sp, .inr (4, [w2, .int 0, .int 0]))]) [3] rfl
  have hDc := hD.sub (ws' := [(sp, .inr (4, [w2, .int 0, .int 0]))]) [3] (by decide) rfl
  have hFc := va_free (wc := [(sp, .inr (4, [w2, .int 0, .int 0]))]) hD hS hA [3] rfl
  refine va_calli (va_runS (As := [.ref sp, .int 60]) (rest := [.int 15, .ref wd]) ⟨hx, hb, hml, hown, hts⟩ (c_X1_wordOf_60 l D y H.size sp w2) (va_cwS 2 hts gv_c_X1_make_2_c_X1_wordOf_60_34 rfl rfl rfl (by decide +kernel) ⟨(Nat.le_of_ble_eq_true rfl), (Nat.le_of_ble_eq_true rfl)⟩) (zB.preS hPc hDc hK hN hE hO hT hG hS hFc (fun _ h => nomatch h) (fun _ h => nomatch h) (fun _ h => nomatch h) (fun _ h => nomatch h)) rfl rfl hl.1 rfl (lv_room (Nat.le_of_ble_eq_true rfl)) dX1_make_104 ⟨(Nat.le_of_ble_eq_true rfl), (Nat.le_of_ble_eq_true rfl)⟩) hS (fun q _ h => hFc q h) hFc (fun r90 u t H1 locs ht hvm hw hB hz1 hk1 hS => ?_)
  obtain ⟨hP1, hD1⟩ := hB
  rw [ht] at hP1
  obtain ⟨hP, hD⟩ := va_join (wr := [(h0, .inr (5, [.ref st, .ref wd, .int 1])), (st, .inl (y 1, 8, .inl (zf tS2 8 f))), (wd, .inl (y 1, 80, .inl (zf tW2 15 g)))]) (w1 := [(sp, .inr (4, [w2, .int 0, .int 0]))]) hP hD [3] [0, 1, 2] rfl rfl (by decide) (by decide) hk1 hFc hP1 hD1
  generalize H1 = H at hP hS ⊢
  have hP : va_P D vwCl [(h0, .inr (5, [.ref st, .ref wd, .int 1])), (st, .inl (y 1, 8, .inl (zf tS2 8 f))), (wd, .inl (y 1, 80, .inl (zf tW2 15 g))), (sp, .inr (4, [w2, .int 0, .int 0]))] H := hP
  have hD : va_D A [(h0, .inr (5, [.ref st, .ref wd, .int 1])), (st, .inl (y 1, 8, .inl (zf tS2 8 f))), (wd, .inl (y 1, 80, .inl (zf tW2 15 g))), (sp, .inr (4, [w2, .int 0, .int 0]))] := hD
  have hw : r90 = 0 := hw
  subst hw
  refine va_iast hx hb hK hP hD hS 2 1 rfl rfl (by unfold vp_in; decide) dX1_make_107 (fun H locs hP hD hS => ?_)
  have hP : va_P D vwCl [(h0, .inr (5, [.ref st, .ref wd, .int 1])), (st, .inl (y 1, 8, .inl (zf tS2 8 f))), (wd, .inl (y 1, 80, .inl (upd (zf tW2 15 g) (nI 15).toNatClampNeg (0 : Int32)))), (sp, .inr (4, [w2, .int 0, .int 0]))] H := hP
  have hD : va_D A [(h0, .inr (5, [.ref st, .ref wd, .int 1])), (st, .inl (y 1, 8, .inl (zf tS2 8 f))), (wd, .inl (y 1, 80, .inl (upd (zf tW2 15 g) (nI 15).toNatClampNeg (0 : Int32)))), (sp, .inr (4, [w2, .int 0, .int 0]))] := hD
  have u91 : upd (zf tW2 15 g) (nI 15).toNatClampNeg (0 : Int32) = zf tW2 16 g := (zf_st (n := 15) (by decide) (by decide +kernel))
  rw [u91] at hP hD
  have hP : va_P D vwCl [(h0, .inr (5, [.ref st, .ref wd, .int 1])), (st, .inl (y 1, 8, .inl (zf tS2 8 f))), (wd, .inl (y 1, 80, .inl (zf tW2 16 g))), (sp, .inr (4, [w2, .int 0, .int 0]))] H := hP
  have hD : va_D A [(h0, .inr (5, [.ref st, .ref wd, .int 1])), (st, .inl (y 1, 8, .inl (zf tS2 8 f))), (wd, .inl (y 1, 80, .inl (zf tW2 16 g))), (sp, .inr (4, [w2, .int 0, .int 0]))] := hD
  refine lv_iinc (v := 16) (lv' := [(5, .int 16), (4, .int 0), (3, .int 1), (0, .ref h0), (1, .int 8), (2, .ref sp)]) hx hb dX1_make_108 hl (k := 0) rfl (by decide) (by decide) rfl (fun ls hl => ?_)
  refine lv_goto (tgt := 80) hx hb dX1_make_111 (by decide) ?_
  refine lv_iload hx hb dX1_make_80 (lv_at hl 0 rfl) ?_
  refine lv_bipush (v := 16) hx hb dX1_make_82 (by decide) ?_
  refine lv_icmp_ge (tgt := 114) hx hb dX1_make_84 (by decide) (fun _ => ?_) (fun c9 => absurd (by decide) c9)
  refine lv_iload hx hb dX1_make_114 (lv_at hl 1 rfl) ?_
  refine lv_iload_n hx hb dX1_make_116 rfl (lv_at hl 2 rfl) ?_
  refine lv_iconst (v := 1) hx hb dX1_make_117 (by decide) ?_
  refine lv_isub hx hb dX1_make_118 ?_
  refine lv_topi (fun v92 ev92 => ?_)
  have ev92 : v92 = 0 := ev92.trans (by decide +kernel)
  subst ev92
  refine lv_icmp_ne (tgt := 136) hx hb dX1_make_119 (by decide) (fun c9 => absurd (by decide) c9) (fun _ => ?_)
  refine lv_aload_n hx hb dX1_make_122 rfl (lv_at hl 3 rfl) ?_
  refine va_get (D := D) (ci := 5) (v := .ref wd) (C := RX1) (T := TX1) (N := 3) hx hb hts (by decide +kernel) hown hK hP 0 rfl rfl 1 (by decide) (hts (.fieldLink RX1 15 "SignetRing$Digest" "words" "[I") (by decide +kernel)) (fun _ h9 => h9) rfl dX1_make_123 ?_
  refine lv_bipush (v := 15) hx hb dX1_make_126 (by decide) ?_
  refine lv_bipush (v := 8) hx hb dX1_make_128 (by decide) ?_
  refine lv_aload_n hx hb dX1_make_130 rfl (lv_at hl 5 rfl) ?_
  refine va_get (D := D) (ci := 4) (v := .int 0) (C := RX0) (T := TX0) (N := 3) hx hb hts (by decide +kernel) hown hK hP 3 rfl rfl 2 (by decide) (hts (.fieldLink RX1 28 "SignetRing$Span" "size" "I") (by decide +kernel)) (fun _ h9 => h9) rfl dX1_make_131 ?_
  refine lv_imul hx hb dX1_make_134 ?_
  refine lv_topi (fun v93 ev93 => ?_)
  have ev93 : v93 = 0 := ev93.trans (by decide +kernel)
  subst ev93
  refine va_iast hx hb hK hP hD hS 2 1 rfl rfl (by unfold vp_in; decide) dX1_make_135 (fun H locs hP hD hS => ?_)
  have hP : va_P D vwCl [(h0, .inr (5, [.ref st, .ref wd, .int 1])), (st, .inl (y 1, 8, .inl (zf tS2 8 f))), (wd, .inl (y 1, 80, .inl (upd (zf tW2 16 g) (nI 15).toNatClampNeg (0 : Int32)))), (sp, .inr (4, [w2, .int 0, .int 0]))] H := hP
  have hD : va_D A [(h0, .inr (5, [.ref st, .ref wd, .int 1])), (st, .inl (y 1, 8, .inl (zf tS2 8 f))), (wd, .inl (y 1, 80, .inl (upd (zf tW2 16 g) (nI 15).toNatClampNeg (0 : Int32)))), (sp, .inr (4, [w2, .int 0, .int 0]))] := hD
  have u94 : upd (zf tW2 16 g) (nI 15).toNatClampNeg (0 : Int32) = zf tW2 16 g := (zf_ow (j := 15) (by omega) (by omega) (by decide +kernel))
  rw [u94] at hP hD
  have hP : va_P D vwCl [(h0, .inr (5, [.ref st, .ref wd, .int 1])), (st, .inl (y 1, 8, .inl (zf tS2 8 f))), (wd, .inl (y 1, 80, .inl (zf tW2 16 g))), (sp, .inr (4, [w2, .int 0, .int 0]))] H := hP
  have hD : va_D A [(h0, .inr (5, [.ref st, .ref wd, .int 1])), (st, .inl (y 1, 8, .inl (zf tS2 8 f))), (wd, .inl (y 1, 80, .inl (zf tW2 16 g))), (sp, .inr (4, [w2, .int 0, .int 0]))] := hD
  refine lv_aload_n hx hb dX1_make_136 rfl (lv_at hl 3 rfl) ?_
  refine va_get (D := D) (ci := 5) (v := .int 1) (C := RX1) (T := TX1) (N := 3) hx hb hts (by decide +kernel) hown hK hP 0 rfl rfl 2 (by decide) (hts (.fieldLink RX1 18 "SignetRing$Digest" "second" "Z") (by decide +kernel)) (fun _ h9 => h9) rfl dX1_make_137 ?_
  refine lv_if_eq (tgt := 150) hx hb dX1_make_140 (by decide) (fun c9 => absurd c9 (by decide)) (fun _ => ?_)
  refine lv_aload_n hx hb dX1_make_143 rfl (lv_at hl 3 rfl) ?_
  have hPc := hP.sub (ws' := [(h0, .inr (5, [.ref st, .ref wd, .int 1])), (st, .inl (y 1, 8, .inl (zf tS2 8 f))), (wd, .inl (y 1, 80, .inl (zf tW2 16 g)))]) [0, 1, 2] rfl
  have hDc := hD.sub (ws' := [(h0, .inr (5, [.ref st, .ref wd, .int 1])), (st, .inl (y 1, 8, .inl (zf tS2 8 f))), (wd, .inl (y 1, 80, .inl (zf tW2 16 g)))]) [0, 1, 2] (by decide) rfl
  have hFc := va_free (wc := [(h0, .inr (5, [.ref st, .ref wd, .int 1])), (st, .inl (y 1, 8, .inl (zf tS2 8 f))), (wd, .inl (y 1, 80, .inl (zf tW2 16 g)))]) hD hS hA [0, 1, 2] rfl
  refine va_callv (va_runV (As := []) (rest := []) ⟨hx, hb, hml, hown, hts⟩ (c_X1_mixSecond l D y H.size h0 st wd ((.int 1)) f g e3) (cwV 0 hts gv_c_X1_make_2_c_X1_mixSecond_38 rfl rfl rfl (by decide +kernel) ⟨(Nat.le_of_ble_eq_true rfl), (Nat.le_of_ble_eq_true rfl)⟩) (zB.preV hPc hDc hK hN hE hO hT hG hS hFc (fun _ h => nomatch h) (List.forall_mem_cons.mpr ⟨List.mem_of_getElem? (i := 1) rfl, (fun _ h => nomatch h)⟩) (fun _ h => nomatch h) (List.forall_mem_cons.mpr ⟨List.mem_of_getElem? (i := 1) rfl, (fun _ h => nomatch h)⟩) (va_recv hK hPc (ci := 5) (q0 := 0) rfl rfl)) rfl rfl hl.1 rfl (lv_room (Nat.le_of_ble_eq_true rfl)) dX1_make_144 ⟨(Nat.le_of_ble_eq_true rfl), (Nat.le_of_ble_eq_true rfl)⟩) hS (fun q _ h => hFc q h) hFc (fun u t H1 locs ht hvm hw hB hz1 hk1 hS => ?_)
  obtain ⟨hP1, hD1⟩ := hB
  rw [ht] at hP1
  obtain ⟨hP, hD⟩ := va_join (wr := [(sp, .inr (4, [w2, .int 0, .int 0]))]) (w1 := [(h0, .inr (5, [.ref st, .ref wd, .int 1])), (st, .inl (y 1, 8, .inl (zf tD2 8 (zf tS2 8 f)))), (wd, .inl (y 1, 80, .inl (zf tW2 64 g)))]) hP hD [0, 1, 2] [3] rfl rfl (by decide) (by decide) hk1 hFc hP1 hD1
  generalize H1 = H at hP hS ⊢
  have hP : va_P D vwCl [(sp, .inr (4, [w2, .int 0, .int 0])), (h0, .inr (5, [.ref st, .ref wd, .int 1])), (st, .inl (y 1, 8, .inl (zf tD2 8 (zf tS2 8 f)))), (wd, .inl (y 1, 80, .inl (zf tW2 64 g)))] H := hP
  have hD : va_D A [(sp, .inr (4, [w2, .int 0, .int 0])), (h0, .inr (5, [.ref st, .ref wd, .int 1])), (st, .inl (y 1, 8, .inl (zf tD2 8 (zf tS2 8 f)))), (wd, .inl (y 1, 80, .inl (zf tW2 64 g)))] := hD
  refine lv_goto (tgt := 154) hx hb dX1_make_147 (by decide) ?_
  refine lv_iinc (v := 1) (lv' := [(4, .int 1), (5, .int 16), (3, .int 1), (0, .ref h0), (1, .int 8), (2, .ref sp)]) hx hb dX1_make_154 hl (k := 1) rfl (by decide) (by decide) rfl (fun ls hl => ?_)
  refine lv_goto (tgt := 71) hx hb dX1_make_157 (by decide) ?_
  refine lv_iload hx hb dX1_make_71 (lv_at hl 0 rfl) ?_
  refine lv_iload_n hx hb dX1_make_73 rfl (lv_at hl 2 rfl) ?_
  refine lv_icmp_ge (tgt := 160) hx hb dX1_make_74 (by decide) (fun _ => ?_) (fun c9 => absurd (by decide) c9)
  have hP9 := hP.sub (ws' := [(h0, .inr (5, [.ref st, .ref wd, .int 1])), (st, .inl (y 1, 8, .inl (zf tD2 8 (zf tS2 8 f)))), (wd, .inl (y 1, 80, .inl (zf tW2 64 g))), (sp, .inr (4, [w2, .int 0, .int 0]))]) [1, 2, 3, 0] rfl
  have hD9 := hD.sub (ws' := [(h0, .inr (5, [.ref st, .ref wd, .int 1])), (st, .inl (y 1, 8, .inl (zf tD2 8 (zf tS2 8 f)))), (wd, .inl (y 1, 80, .inl (zf tW2 64 g))), (sp, .inr (4, [w2, .int 0, .int 0]))]) [1, 2, 3, 0] (by decide) rfl
  refine W.widen (k := 0) (n := 0) (Nat.le_of_ble_eq_true rfl) (Nat.le_of_ble_eq_true rfl) ?_
  exact W.vret hx hb hr (fun t ht hW => ⟨⟨(), rfl, trivial, by rw [ht]; exact hP9, hD9⟩, hS.F ht⟩) hS.2.2 dX1_make_160
def wz_c_X1_at_1 : List Cond := .code yX1_at cX1_at 2 (some .int) :: ([.fieldLink RX1 9 "SignetRing$Digest" "state" "[I"] ++ (wsX10 ++ ([])))
set_option maxHeartbeats 4000000 in
set_option maxRecDepth 100000 in
theorem ax_c_X1_at_1_0 : ∀ j : Nat, j < 20 → 0 ≤ j → ¬ (nI j) < (0 : Int32) := by decide +kernel
set_option maxHeartbeats 4000000 in
set_option maxRecDepth 100000 in
theorem ax_c_X1_at_1_1 : ∀ j : Nat, j < 20 → 0 ≤ j → ¬ (32 : Int32) ≤ (nI j) := by decide +kernel
set_option maxHeartbeats 4000000 in
set_option maxRecDepth 100000 in
theorem ax_c_X1_at_1_2 : ∀ j : Nat, j < 20 → 0 ≤ j → (nI j) >>> ((2 : Int32) &&& 31) = nI (j / 4) := by decide +kernel
set_option maxHeartbeats 4000000 in
set_option maxRecDepth 100000 in
theorem ax_c_X1_at_1_3 : ∀ j : Nat, j < 20 → 0 ≤ j → (nI j) &&& (3 : Int32) = nI (j % 4) := by decide +kernel
set_option maxHeartbeats 4000000 in
set_option maxRecDepth 100000 in
theorem ax_c_X1_at_1_4 : ∀ j : Nat, j < 20 → 0 ≤ j → (8 : Int32) * (nI (j % 4)) = nI (8 * (j % 4)) := by decide +kernel
set_option maxHeartbeats 4000000 in
set_option maxRecDepth 100000 in
theorem ax_c_X1_at_1_5 : ∀ j : Nat, j < 20 → 0 ≤ j → (24 : Int32) - (nI (8 * (j % 4))) = nI (24 - (8 * (j % 4))) := by decide +kernel
set_option maxHeartbeats 4000000 in
set_option maxRecDepth 100000 in
theorem ax_c_X1_at_1_6 : ∀ j : Nat, j < 20 → 0 ≤ j → (zu (tD1 (j / 4)) (nI (24 - (8 * (j % 4))))) &&& (255 : Int32) = tO1 j := by decide +kernel
set_option maxHeartbeats 4000000 in
set_option maxRecDepth 100000 in
theorem c_X1_at_1 (l : Launch) (D : va_G) (y : Nat → ClassId) (sz : Nat) (h0 : Nat) (st : Nat) (j : Nat) (w1 : Value) (w2 : Value) (f : Nat → Int32) (hj : j < 20) : Met l yX1_at wz_c_X1_at_1 ({ frames := 0, cells := 0, slots := 0, locals := 0 }) (va_Pc [.ref h0, .int (nI j)] (zB D y [(h0, .inr (5, [.ref st, w1, w2])), (st, .inl (y 1, 8, .inl (zf tD1 5 (zf tS1 8 f))))] sz [] [] [] [])) (va_Qi (fun (r : Int32) (_ : Unit) => r = tO1 j) (fun _ t => va_P D vwCl [(h0, .inr (5, [.ref st, w1, w2])), (st, .inl (y 1, 8, .inl (zf tD1 5 (zf tS1 8 f))))] t.heap ∧ va_D (va_A [(h0, .inr (5, [.ref st, w1, w2])), (st, .inl (y 1, 8, .inl (zf tD1 5 (zf tS1 8 f))))] sz) [(h0, .inr (5, [.ref st, w1, w2])), (st, .inl (y 1, 8, .inl (zf tD1 5 (zf tS1 8 f))))]) (va_A [(h0, .inr (5, [.ref st, w1, w2])), (st, .inl (y 1, 8, .inl (zf tD1 5 (zf tS1 8 f))))] sz)) 0 0 (va_A [(h0, .inr (5, [.ref st, w1, w2])), (st, .inl (y 1, 8, .inl (zf tD1 5 (zf tS1 8 f))))] sz) := by
  refine Met.ofW (cc := cX1_at) (maxL := 2) (ret := (some .int)) (by decide) rfl ?_
  intro p e s m args below meth c s₁ B hml hv
  obtain ⟨rfl, hsz, hP, hK, hD0, hN, hE, hO, hT, hG⟩ := hv
  have hx := B.exec
  have hb := B.bytes
  have hr := B.returns
  have hts := atoms_spec (ws := wz_c_X1_at_1) B.pre
  have hown : s.vm.findClass RX1 = some m.cls := findClass_of_methodNamed B.named
  have hlocks := B.notSynchronized
  subst hsz
  have hD := hD0.self (sz := s.heap.size)
  generalize hAe : va_A [(h0, .inr (5, [.ref st, w1, w2])), (st, .inl (y 1, 8, .inl (zf tD1 5 (zf tS1 8 f))))] s.heap.size = A at hD hE hT hG ⊢
  have hA : ∀ q : Nat, s.heap.size ≤ q → A q := fun q h => by rw [← hAe]; exact Or.inr h
  have hS : va_S A s.heap s.heap [] := va_S.rf
  have hl := lv_entry ([.ref h0, .int (nI j)]) (n := 2) (Nat.le_of_ble_eq_true rfl)
  rw [lg_entry_eq]
  generalize (lg_sl ([.ref h0, .int (nI j)]) ++ List.replicate (2 - (lg_sl ([.ref h0, .int (nI j)])).length) Slot.unset).toArray = ls at hl ⊢
  have hl : lv_has ls 2 [(0, .ref h0), (1, .int (nI j))] := hl
  refine lv_iload_n hx hb dX1_at_0 rfl (lv_at hl 1 rfl) ?_
  refine lv_if_lt (tgt := 35) hx hb dX1_at_1 (by decide) (fun c9 => absurd c9 (ax_c_X1_at_1_0 j hj (Nat.zero_le j))) (fun _ => ?_)
  refine lv_iload_n hx hb dX1_at_4 rfl (lv_at hl 1 rfl) ?_
  refine lv_bipush (v := 32) hx hb dX1_at_5 (by decide) ?_
  refine lv_icmp_ge (tgt := 35) hx hb dX1_at_7 (by decide) (fun c9 => absurd c9 (ax_c_X1_at_1_1 j hj (Nat.zero_le j))) (fun _ => ?_)
  refine lv_aload_n hx hb dX1_at_10 rfl (lv_at hl 0 rfl) ?_
  refine va_get (D := D) (ci := 5) (v := .ref st) (C := RX1) (T := TX1) (N := 3) hx hb hts (by decide +kernel) hown hK hP 0 rfl rfl 0 (by decide) (hts (.fieldLink RX1 9 "SignetRing$Digest" "state" "[I") (by decide +kernel)) (fun _ h9 => h9) rfl dX1_at_11 ?_
  refine lv_iload_n hx hb dX1_at_14 rfl (lv_at hl 1 rfl) ?_
  refine lv_iconst (v := 2) hx hb dX1_at_15 (by decide) ?_
  refine lv_ishr hx hb dX1_at_16 ?_
  refine lv_topi (fun v1 ev1 => ?_)
  have ev1 : v1 = nI (j / 4) := ev1.trans (ax_c_X1_at_1_2 j hj (Nat.zero_le j))
  subst ev1
  refine va_iald hx hb hK hP 1 1 rfl rfl (vp_in_nI (by omega) (by decide)) dX1_at_17 ?_
  refine lv_topi (fun v2 ev2 => ?_)
  have ev2 : v2 = tD1 (j / 4) := ev2.trans (zf_rd (j := (j / 4)) (by omega) (by omega))
  subst ev2
  refine lv_bipush (v := 24) hx hb dX1_at_18 (by decide) ?_
  refine lv_bipush (v := 8) hx hb dX1_at_20 (by decide) ?_
  refine lv_iload_n hx hb dX1_at_22 rfl (lv_at hl 1 rfl) ?_
  refine lv_iconst (v := 3) hx hb dX1_at_23 (by decide) ?_
  refine lv_iand hx hb dX1_at_24 ?_
  refine lv_topi (fun v3 ev3 => ?_)
  have ev3 : v3 = nI (j % 4) := ev3.trans (ax_c_X1_at_1_3 j hj (Nat.zero_le j))
  subst ev3
  refine lv_imul hx hb dX1_at_25 ?_
  refine lv_topi (fun v4 ev4 => ?_)
  have ev4 : v4 = nI (8 * (j % 4)) := ev4.trans (ax_c_X1_at_1_4 j hj (Nat.zero_le j))
  subst ev4
  refine lv_isub hx hb dX1_at_26 ?_
  refine lv_topi (fun v5 ev5 => ?_)
  have ev5 : v5 = nI (24 - (8 * (j % 4))) := ev5.trans (ax_c_X1_at_1_5 j hj (Nat.zero_le j))
  subst ev5
  refine lv_iushr (v := zu (tD1 (j / 4)) (nI (24 - (8 * (j % 4))))) hx hb dX1_at_27 rfl ?_
  refine lv_sipush (v := 255) hx hb dX1_at_28 (by decide) ?_
  refine lv_iand hx hb dX1_at_31 ?_
  refine lv_topi (fun v6 ev6 => ?_)
  have ev6 : v6 = tO1 j := ev6.trans (ax_c_X1_at_1_6 j hj (Nat.zero_le j))
  subst ev6
  refine lv_goto (tgt := 36) hx hb dX1_at_32 (by decide) ?_
  have hP9 := hP.sub (ws' := [(h0, .inr (5, [.ref st, w1, w2])), (st, .inl (y 1, 8, .inl (zf tD1 5 (zf tS1 8 f))))]) [0, 1] rfl
  have hD9 := hD.sub (ws' := [(h0, .inr (5, [.ref st, w1, w2])), (st, .inl (y 1, 8, .inl (zf tD1 5 (zf tS1 8 f))))]) [0, 1] (by decide) rfl
  refine W.widen (k := 0) (n := 0) (Nat.le_of_ble_eq_true rfl) (Nat.le_of_ble_eq_true rfl) ?_
  exact W.iret (v := (tO1 j)) hx hb hr (fun t ht hW => ⟨⟨(tO1 j), (), rfl, rfl, by rw [ht]; exact hP9, hD9⟩, hS.F ht⟩) hS.2.2 dX1_at_36
def wz_c_X1_at_2 : List Cond := .code yX1_at cX1_at 2 (some .int) :: ([.fieldLink RX1 9 "SignetRing$Digest" "state" "[I"] ++ (wsX10 ++ ([])))
set_option maxHeartbeats 4000000 in
set_option maxRecDepth 100000 in
theorem ax_c_X1_at_2_0 : ∀ j : Nat, j < 32 → 0 ≤ j → ¬ (nI j) < (0 : Int32) := by decide +kernel
set_option maxHeartbeats 4000000 in
set_option maxRecDepth 100000 in
theorem ax_c_X1_at_2_1 : ∀ j : Nat, j < 32 → 0 ≤ j → ¬ (32 : Int32) ≤ (nI j) := by decide +kernel
set_option maxHeartbeats 4000000 in
set_option maxRecDepth 100000 in
theorem ax_c_X1_at_2_2 : ∀ j : Nat, j < 32 → 0 ≤ j → (nI j) >>> ((2 : Int32) &&& 31) = nI (j / 4) := by decide +kernel
set_option maxHeartbeats 4000000 in
set_option maxRecDepth 100000 in
theorem ax_c_X1_at_2_3 : ∀ j : Nat, j < 32 → 0 ≤ j → (nI j) &&& (3 : Int32) = nI (j % 4) := by decide +kernel
set_option maxHeartbeats 4000000 in
set_option maxRecDepth 100000 in
theorem ax_c_X1_at_2_4 : ∀ j : Nat, j < 32 → 0 ≤ j → (8 : Int32) * (nI (j % 4)) = nI (8 * (j % 4)) := by decide +kernel
set_option maxHeartbeats 4000000 in
set_option maxRecDepth 100000 in
theorem ax_c_X1_at_2_5 : ∀ j : Nat, j < 32 → 0 ≤ j → (24 : Int32) - (nI (8 * (j % 4))) = nI (24 - (8 * (j % 4))) := by decide +kernel
set_option maxHeartbeats 4000000 in
set_option maxRecDepth 100000 in
theorem ax_c_X1_at_2_6 : ∀ j : Nat, j < 32 → 0 ≤ j → (zu (tD2 (j / 4)) (nI (24 - (8 * (j % 4))))) &&& (255 : Int32) = tO2 j := by decide +kernel
set_option maxHeartbeats 4000000 in
set_option maxRecDepth 100000 in
theorem c_X1_at_2 (l : Launch) (D : va_G) (y : Nat → ClassId) (sz : Nat) (h0 : Nat) (st : Nat) (j : Nat) (w1 : Value) (w2 : Value) (f : Nat → Int32) (hj : j < 32) : Met l yX1_at wz_c_X1_at_2 ({ frames := 0, cells := 0, slots := 0, locals := 0 }) (va_Pc [.ref h0, .int (nI j)] (zB D y [(h0, .inr (5, [.ref st, w1, w2])), (st, .inl (y 1, 8, .inl (zf tD2 8 (zf tS2 8 f))))] sz [] [] [] [])) (va_Qi (fun (r : Int32) (_ : Unit) => r = tO2 j) (fun _ t => va_P D vwCl [(h0, .inr (5, [.ref st, w1, w2])), (st, .inl (y 1, 8, .inl (zf tD2 8 (zf tS2 8 f))))] t.heap ∧ va_D (va_A [(h0, .inr (5, [.ref st, w1, w2])), (st, .inl (y 1, 8, .inl (zf tD2 8 (zf tS2 8 f))))] sz) [(h0, .inr (5, [.ref st, w1, w2])), (st, .inl (y 1, 8, .inl (zf tD2 8 (zf tS2 8 f))))]) (va_A [(h0, .inr (5, [.ref st, w1, w2])), (st, .inl (y 1, 8, .inl (zf tD2 8 (zf tS2 8 f))))] sz)) 0 0 (va_A [(h0, .inr (5, [.ref st, w1, w2])), (st, .inl (y 1, 8, .inl (zf tD2 8 (zf tS2 8 f))))] sz) := by
  refine Met.ofW (cc := cX1_at) (maxL := 2) (ret := (some .int)) (by decide) rfl ?_
  intro p e s m args below meth c s₁ B hml hv
  obtain ⟨rfl, hsz, hP, hK, hD0, hN, hE, hO, hT, hG⟩ := hv
  have hx := B.exec
  have hb := B.bytes
  have hr := B.returns
  have hts := atoms_spec (ws := wz_c_X1_at_2) B.pre
  have hown : s.vm.findClass RX1 = some m.cls := findClass_of_methodNamed B.named
  have hlocks := B.notSynchronized
  subst hsz
  have hD := hD0.self (sz := s.heap.size)
  generalize hAe : va_A [(h0, .inr (5, [.ref st, w1, w2])), (st, .inl (y 1, 8, .inl (zf tD2 8 (zf tS2 8 f))))] s.heap.size = A at hD hE hT hG ⊢
  have hA : ∀ q : Nat, s.heap.size ≤ q → A q := fun q h => by rw [← hAe]; exact Or.inr h
  have hS : va_S A s.heap s.heap [] := va_S.rf
  have hl := lv_entry ([.ref h0, .int (nI j)]) (n := 2) (Nat.le_of_ble_eq_true rfl)
  rw [lg_entry_eq]
  generalize (lg_sl ([.ref h0, .int (nI j)]) ++ List.replicate (2 - (lg_sl ([.ref h0, .int (nI j)])).length) Slot.unset).toArray = ls at hl ⊢
  have hl : lv_has ls 2 [(0, .ref h0), (1, .int (nI j))] := hl
  refine lv_iload_n hx hb dX1_at_0 rfl (lv_at hl 1 rfl) ?_
  refine lv_if_lt (tgt := 35) hx hb dX1_at_1 (by decide) (fun c9 => absurd c9 (ax_c_X1_at_2_0 j hj (Nat.zero_le j))) (fun _ => ?_)
  refine lv_iload_n hx hb dX1_at_4 rfl (lv_at hl 1 rfl) ?_
  refine lv_bipush (v := 32) hx hb dX1_at_5 (by decide) ?_
  refine lv_icmp_ge (tgt := 35) hx hb dX1_at_7 (by decide) (fun c9 => absurd c9 (ax_c_X1_at_2_1 j hj (Nat.zero_le j))) (fun _ => ?_)
  refine lv_aload_n hx hb dX1_at_10 rfl (lv_at hl 0 rfl) ?_
  refine va_get (D := D) (ci := 5) (v := .ref st) (C := RX1) (T := TX1) (N := 3) hx hb hts (by decide +kernel) hown hK hP 0 rfl rfl 0 (by decide) (hts (.fieldLink RX1 9 "SignetRing$Digest" "state" "[I") (by decide +kernel)) (fun _ h9 => h9) rfl dX1_at_11 ?_
  refine lv_iload_n hx hb dX1_at_14 rfl (lv_at hl 1 rfl) ?_
  refine lv_iconst (v := 2) hx hb dX1_at_15 (by decide) ?_
  refine lv_ishr hx hb dX1_at_16 ?_
  refine lv_topi (fun v1 ev1 => ?_)
  have ev1 : v1 = nI (j / 4) := ev1.trans (ax_c_X1_at_2_2 j hj (Nat.zero_le j))
  subst ev1
  refine va_iald hx hb hK hP 1 1 rfl rfl (vp_in_nI (by omega) (by decide)) dX1_at_17 ?_
  refine lv_topi (fun v2 ev2 => ?_)
  have ev2 : v2 = tD2 (j / 4) := ev2.trans (zf_rd (j := (j / 4)) (by omega) (by omega))
  subst ev2
  refine lv_bipush (v := 24) hx hb dX1_at_18 (by decide) ?_
  refine lv_bipush (v := 8) hx hb dX1_at_20 (by decide) ?_
  refine lv_iload_n hx hb dX1_at_22 rfl (lv_at hl 1 rfl) ?_
  refine lv_iconst (v := 3) hx hb dX1_at_23 (by decide) ?_
  refine lv_iand hx hb dX1_at_24 ?_
  refine lv_topi (fun v3 ev3 => ?_)
  have ev3 : v3 = nI (j % 4) := ev3.trans (ax_c_X1_at_2_3 j hj (Nat.zero_le j))
  subst ev3
  refine lv_imul hx hb dX1_at_25 ?_
  refine lv_topi (fun v4 ev4 => ?_)
  have ev4 : v4 = nI (8 * (j % 4)) := ev4.trans (ax_c_X1_at_2_4 j hj (Nat.zero_le j))
  subst ev4
  refine lv_isub hx hb dX1_at_26 ?_
  refine lv_topi (fun v5 ev5 => ?_)
  have ev5 : v5 = nI (24 - (8 * (j % 4))) := ev5.trans (ax_c_X1_at_2_5 j hj (Nat.zero_le j))
  subst ev5
  refine lv_iushr (v := zu (tD2 (j / 4)) (nI (24 - (8 * (j % 4))))) hx hb dX1_at_27 rfl ?_
  refine lv_sipush (v := 255) hx hb dX1_at_28 (by decide) ?_
  refine lv_iand hx hb dX1_at_31 ?_
  refine lv_topi (fun v6 ev6 => ?_)
  have ev6 : v6 = tO2 j := ev6.trans (ax_c_X1_at_2_6 j hj (Nat.zero_le j))
  subst ev6
  refine lv_goto (tgt := 36) hx hb dX1_at_32 (by decide) ?_
  have hP9 := hP.sub (ws' := [(h0, .inr (5, [.ref st, w1, w2])), (st, .inl (y 1, 8, .inl (zf tD2 8 (zf tS2 8 f))))]) [0, 1] rfl
  have hD9 := hD.sub (ws' := [(h0, .inr (5, [.ref st, w1, w2])), (st, .inl (y 1, 8, .inl (zf tD2 8 (zf tS2 8 f))))]) [0, 1] (by decide) rfl
  refine W.widen (k := 0) (n := 0) (Nat.le_of_ble_eq_true rfl) (Nat.le_of_ble_eq_true rfl) ?_
  exact W.iret (v := (tO2 j)) hx hb hr (fun t ht hW => ⟨⟨(tO2 j), (), rfl, rfl, by rw [ht]; exact hP9, hD9⟩, hS.F ht⟩) hS.2.2 dX1_at_36
def wz_c_X11_hash_1 : List Cond := .code yX11_hash cX11_hash 3 (some .int) :: ([.fieldLink RX11 105 "SignetRing" "toldHash" "I", .fieldLink RX11 53 "SignetRing" "toldDigest" "LSignetRing$Digest;", .fieldLink RX11 18 "SignetRing" "told" "LSignetRing$Bytes;", .methodLink RX11 228 yX1_make, .instanceMethod yX1_make, .selects RX1 yX1_make yX1_make, .initialized RX1, .methodLink RX11 231 yX1_at, .instanceMethod yX1_at, .selects RX1 yX1_at yX1_at] ++ (wsX110 ++ (wz_c_X1_make_1 ++ (wz_c_X1_at_1 ++ ([])))))
set_option maxRecDepth 100000 in
theorem gz_c_X11_hash_1_c_X1_make_1 : GoodIn wz_c_X11_hash_1 wz_c_X1_make_1 := goodIn_sub (fun w h => List.mem_cons_of_mem _ (List.mem_append_right _ (List.mem_append_right _ (List.mem_append_left _ h)))) (by decide +kernel)
set_option maxRecDepth 100000 in
theorem gz_c_X11_hash_1_c_X1_at_1 : GoodIn wz_c_X11_hash_1 wz_c_X1_at_1 := goodIn_sub (fun w h => List.mem_cons_of_mem _ (List.mem_append_right _ (List.mem_append_right _ (List.mem_append_right _ (List.mem_append_left _ h))))) (by decide +kernel)
set_option maxRecDepth 100000 in
theorem gv_c_X11_hash_1_c_X1_make_1_228 : GoodIn wz_c_X11_hash_1 (wsV RX11 228 RX1 yX1_make wz_c_X1_make_1) := goodIn_app (goodIn_of _ (by decide +kernel)) gz_c_X11_hash_1_c_X1_make_1
set_option maxRecDepth 100000 in
theorem gv_c_X11_hash_1_c_X1_at_1_231 : GoodIn wz_c_X11_hash_1 (wsV RX11 231 RX1 yX1_at wz_c_X1_at_1) := goodIn_app (goodIn_of _ (by decide +kernel)) gz_c_X11_hash_1_c_X1_at_1
set_option maxHeartbeats 4000000 in
set_option maxRecDepth 100000 in
theorem ax_c_X11_hash_1_0 : ∀ j : Nat, j < 20 → 0 ≤ j → ¬ (nI j) < (0 : Int32) := by decide +kernel
set_option maxHeartbeats 4000000 in
set_option maxRecDepth 100000 in
theorem ax_c_X11_hash_1_1 : ∀ j : Nat, j < 20 → 0 ≤ j → (nI j) < (20 : Int32) := by decide +kernel
set_option maxHeartbeats 4000000 in
set_option maxRecDepth 100000 in
theorem c_X11_hash_1 (l : Launch) (D : va_G) (y : Nat → ClassId) (sz : Nat) (h0 : Nat) (dg : Nat) (to : Nat) (st : Nat) (wd : Nat) (w1 : Value) (w2 : Value) (w3 : Value) (w4 : Value) (w5 : Value) (w6 : Value) (w7 : Value) (w8 : Value) (w9 : Value) (w10 : Value) (w11 : Value) (w12 : Value) (w13 : Value) (w14 : Value) (j : Nat) (f : Nat → Int32) (g : Nat → Int32) (e1 : Nat) (hj : j < 20) : Met l yX11_hash wz_c_X11_hash_1 ({ frames := 3, cells := 0, slots := 0, locals := 75 }) (va_Pc [.ref h0, .int 1, .int (nI j)] (zB D y [(h0, .inr (15, [w1, .ref to, w2, w3, w4, w5, w6, .ref dg, w7, w8, w9, w10, w11, .int 0, w12])), (dg, .inr (5, [.ref st, .ref wd, w13])), (to, .inr (4, [w14, .int 0, .int 0])), (st, .inl (y 1, 8, .inl f)), (wd, .inl (y 1, 80, .inl g))] sz [] [("SignetRing$Digest", "START_FIRST", "[I", .ref e1)] [] [.inl (e1, 8, tS1)])) (va_Qi (fun (r : Int32) (_ : Unit) => r = tO1 j) (fun _ t => va_P D vwCl [(h0, .inr (15, [w1, .ref to, w2, w3, w4, w5, w6, .ref dg, w7, w8, w9, w10, w11, .int 1, w12])), (dg, .inr (5, [.ref st, .ref wd, .int 0])), (to, .inr (4, [w14, .int 0, .int 0])), (st, .inl (y 1, 8, .inl (zf tD1 5 (zf tS1 8 f)))), (wd, .inl (y 1, 80, .inl (zf tW1 80 g)))] t.heap ∧ va_D (va_A [(h0, .inr (15, [w1, .ref to, w2, w3, w4, w5, w6, .ref dg, w7, w8, w9, w10, w11, .int 0, w12])), (dg, .inr (5, [.ref st, .ref wd, w13])), (to, .inr (4, [w14, .int 0, .int 0])), (st, .inl (y 1, 8, .inl f)), (wd, .inl (y 1, 80, .inl g))] sz) [(h0, .inr (15, [w1, .ref to, w2, w3, w4, w5, w6, .ref dg, w7, w8, w9, w10, w11, .int 1, w12])), (dg, .inr (5, [.ref st, .ref wd, .int 0])), (to, .inr (4, [w14, .int 0, .int 0])), (st, .inl (y 1, 8, .inl (zf tD1 5 (zf tS1 8 f)))), (wd, .inl (y 1, 80, .inl (zf tW1 80 g)))]) (va_A [(h0, .inr (15, [w1, .ref to, w2, w3, w4, w5, w6, .ref dg, w7, w8, w9, w10, w11, .int 0, w12])), (dg, .inr (5, [.ref st, .ref wd, w13])), (to, .inr (4, [w14, .int 0, .int 0])), (st, .inl (y 1, 8, .inl f)), (wd, .inl (y 1, 80, .inl g))] sz)) 0 0 (va_A [(h0, .inr (15, [w1, .ref to, w2, w3, w4, w5, w6, .ref dg, w7, w8, w9, w10, w11, .int 0, w12])), (dg, .inr (5, [.ref st, .ref wd, w13])), (to, .inr (4, [w14, .int 0, .int 0])), (st, .inl (y 1, 8, .inl f)), (wd, .inl (y 1, 80, .inl g))] sz) := by
  refine Met.ofW (cc := cX11_hash) (maxL := 3) (ret := (some .int)) (by decide) rfl ?_
  intro p e s m args below meth c s₁ B hml hv
  obtain ⟨rfl, hsz, hP, hK, hD0, hN, hE, hO, hT, hG⟩ := hv
  have hx := B.exec
  have hb := B.bytes
  have hr := B.returns
  have hts := atoms_spec (ws := wz_c_X11_hash_1) B.pre
  have hown : s.vm.findClass RX11 = some m.cls := findClass_of_methodNamed B.named
  have hlocks := B.notSynchronized
  subst hsz
  have hD := hD0.self (sz := s.heap.size)
  generalize hAe : va_A [(h0, .inr (15, [w1, .ref to, w2, w3, w4, w5, w6, .ref dg, w7, w8, w9, w10, w11, .int 0, w12])), (dg, .inr (5, [.ref st, .ref wd, w13])), (to, .inr (4, [w14, .int 0, .int 0])), (st, .inl (y 1, 8, .inl f)), (wd, .inl (y 1, 80, .inl g))] s.heap.size = A at hD hE hT hG ⊢
  have hA : ∀ q : Nat, s.heap.size ≤ q → A q := fun q h => by rw [← hAe]; exact Or.inr h
  have hS : va_S A s.heap s.heap [] := va_S.rf
  have hl := lv_entry ([.ref h0, .int 1, .int (nI j)]) (n := 3) (Nat.le_of_ble_eq_true rfl)
  rw [lg_entry_eq]
  generalize (lg_sl ([.ref h0, .int 1, .int (nI j)]) ++ List.replicate (3 - (lg_sl ([.ref h0, .int 1, .int (nI j)])).length) Slot.unset).toArray = ls at hl ⊢
  have hl : lv_has ls 3 [(0, .ref h0), (1, .int 1), (2, .int (nI j))] := hl
  refine lv_iload_n hx hb dX11_hash_0 rfl (lv_at hl 1 rfl) ?_
  refine lv_iconst (v := 1) hx hb dX11_hash_1 (by decide) ?_
  refine lv_icmp_eq (tgt := 18) hx hb dX11_hash_2 (by decide) (fun _ => ?_) (fun c9 => absurd (by decide) c9)
  refine lv_iload_n hx hb dX11_hash_18 rfl (lv_at hl 2 rfl) ?_
  refine lv_if_lt (tgt := 38) hx hb dX11_hash_19 (by decide) (fun c9 => absurd c9 (ax_c_X11_hash_1_0 j hj (Nat.zero_le j))) (fun _ => ?_)
  refine lv_iload_n hx hb dX11_hash_22 rfl (lv_at hl 2 rfl) ?_
  refine lv_iload_n hx hb dX11_hash_23 rfl (lv_at hl 1 rfl) ?_
  refine lv_iconst (v := 1) hx hb dX11_hash_24 (by decide) ?_
  refine lv_icmp_ne (tgt := 33) hx hb dX11_hash_25 (by decide) (fun c9 => absurd (by decide) c9) (fun _ => ?_)
  refine lv_bipush (v := 20) hx hb dX11_hash_28 (by decide) ?_
  refine lv_goto (tgt := 35) hx hb dX11_hash_30 (by decide) ?_
  refine lv_icmp_lt (tgt := 46) hx hb dX11_hash_35 (by decide) (fun _ => ?_) (fun c9 => absurd (ax_c_X11_hash_1_1 j hj (Nat.zero_le j)) c9)
  refine lv_aload_n hx hb dX11_hash_46 rfl (lv_at hl 0 rfl) ?_
  refine va_get (D := D) (ci := 15) (v := .int 0) (C := RX11) (T := TX11) (N := 15) hx hb hts (by decide +kernel) hown hK hP 0 rfl rfl 13 (by decide) (hts (.fieldLink RX11 105 "SignetRing" "toldHash" "I") (by decide +kernel)) (fun _ h9 => h9) rfl dX11_hash_47 ?_
  refine lv_iload_n hx hb dX11_hash_50 rfl (lv_at hl 1 rfl) ?_
  refine lv_icmp_eq (tgt := 81) hx hb dX11_hash_51 (by decide) (fun c9 => absurd c9 (by decide)) (fun _ => ?_)
  refine lv_aload_n hx hb dX11_hash_54 rfl (lv_at hl 0 rfl) ?_
  refine va_get (D := D) (ci := 15) (v := .ref dg) (C := RX11) (T := TX11) (N := 15) hx hb hts (by decide +kernel) hown hK hP 0 rfl rfl 7 (by decide) (hts (.fieldLink RX11 53 "SignetRing" "toldDigest" "LSignetRing$Digest;") (by decide +kernel)) (fun _ h9 => h9) rfl dX11_hash_55 ?_
  refine lv_iload_n hx hb dX11_hash_58 rfl (lv_at hl 1 rfl) ?_
  refine lv_iconst (v := 1) hx hb dX11_hash_59 (by decide) ?_
  refine lv_icmp_ne (tgt := 67) hx hb dX11_hash_60 (by decide) (fun c9 => absurd (by decide) c9) (fun _ => ?_)
  refine lv_iconst (v := 2) hx hb dX11_hash_63 (by decide) ?_
  refine lv_goto (tgt := 69) hx hb dX11_hash_64 (by decide) ?_
  refine lv_aload_n hx hb dX11_hash_69 rfl (lv_at hl 0 rfl) ?_
  refine va_get (D := D) (ci := 15) (v := .ref to) (C := RX11) (T := TX11) (N := 15) hx hb hts (by decide +kernel) hown hK hP 0 rfl rfl 1 (by decide) (hts (.fieldLink RX11 18 "SignetRing" "told" "LSignetRing$Bytes;") (by decide +kernel)) (fun _ h9 => h9) rfl dX11_hash_70 ?_
  have hPc := hP.sub (ws' := [(dg, .inr (5, [.ref st, .ref wd, w13])), (st, .inl (y 1, 8, .inl f)), (wd, .inl (y 1, 80, .inl g)), (to, .inr (4, [w14, .int 0, .int 0]))]) [1, 3, 4, 2] rfl
  have hDc := hD.sub (ws' := [(dg, .inr (5, [.ref st, .ref wd, w13])), (st, .inl (y 1, 8, .inl f)), (wd, .inl (y 1, 80, .inl g)), (to, .inr (4, [w14, .int 0, .int 0]))]) [1, 3, 4, 2] (by decide) rfl
  have hFc := va_free (wc := [(dg, .inr (5, [.ref st, .ref wd, w13])), (st, .inl (y 1, 8, .inl f)), (wd, .inl (y 1, 80, .inl g)), (to, .inr (4, [w14, .int 0, .int 0]))]) hD hS hA [1, 3, 4, 2] rfl
  refine va_callv (va_runV (As := [.int 2, .ref to]) (rest := []) ⟨hx, hb, hml, hown, hts⟩ (c_X1_make_1 l D y s.heap.size dg st wd w13 to w14 f g e1) (cwV 2 hts gv_c_X11_hash_1_c_X1_make_1_228 rfl rfl rfl (by decide +kernel) ⟨(Nat.le_of_ble_eq_true rfl), (Nat.le_of_ble_eq_true rfl)⟩) (zB.preV hPc hDc hK hN hE hO hT hG hS hFc (fun _ h => nomatch h) (List.forall_mem_cons.mpr ⟨List.mem_of_getElem? (i := 0) rfl, (fun _ h => nomatch h)⟩) (fun _ h => nomatch h) (List.forall_mem_cons.mpr ⟨List.mem_of_getElem? (i := 0) rfl, (fun _ h => nomatch h)⟩) (va_recv hK hPc (ci := 5) (q0 := 0) rfl rfl)) rfl rfl hl.1 rfl (lv_room (Nat.le_of_ble_eq_true rfl)) dX11_hash_73 ⟨(Nat.le_of_ble_eq_true rfl), (Nat.le_of_ble_eq_true rfl)⟩) hS (fun q _ h => hFc q h) hFc (fun u t H1 locs ht hvm hw hB hz1 hk1 hS => ?_)
  obtain ⟨hP1, hD1⟩ := hB
  rw [ht] at hP1
  obtain ⟨hP, hD⟩ := va_join (wr := [(h0, .inr (15, [w1, .ref to, w2, w3, w4, w5, w6, .ref dg, w7, w8, w9, w10, w11, .int 0, w12]))]) (w1 := [(dg, .inr (5, [.ref st, .ref wd, .int 0])), (st, .inl (y 1, 8, .inl (zf tD1 5 (zf tS1 8 f)))), (wd, .inl (y 1, 80, .inl (zf tW1 80 g))), (to, .inr (4, [w14, .int 0, .int 0]))]) hP hD [1, 3, 4, 2] [0] rfl rfl (by decide) (by decide) hk1 hFc hP1 hD1
  generalize H1 = H at hP hS ⊢
  have hP : va_P D vwCl [(h0, .inr (15, [w1, .ref to, w2, w3, w4, w5, w6, .ref dg, w7, w8, w9, w10, w11, .int 0, w12])), (dg, .inr (5, [.ref st, .ref wd, .int 0])), (st, .inl (y 1, 8, .inl (zf tD1 5 (zf tS1 8 f)))), (wd, .inl (y 1, 80, .inl (zf tW1 80 g))), (to, .inr (4, [w14, .int 0, .int 0]))] H := hP
  have hD : va_D A [(h0, .inr (15, [w1, .ref to, w2, w3, w4, w5, w6, .ref dg, w7, w8, w9, w10, w11, .int 0, w12])), (dg, .inr (5, [.ref st, .ref wd, .int 0])), (st, .inl (y 1, 8, .inl (zf tD1 5 (zf tS1 8 f)))), (wd, .inl (y 1, 80, .inl (zf tW1 80 g))), (to, .inr (4, [w14, .int 0, .int 0]))] := hD
  refine lv_aload_n hx hb dX11_hash_76 rfl (lv_at hl 0 rfl) ?_
  refine lv_iload_n hx hb dX11_hash_77 rfl (lv_at hl 1 rfl) ?_
  refine va_put (D := D) (ci := 15) (v := .int 1) (ty := .int) (C := RX11) (T := TX11) (N := 15) hx hb hts (by decide +kernel) tyX11 tyX11_ok nmX11 hown hK hP hD hS 0 rfl rfl 13 (by decide) (hts (.fieldLink RX11 105 "SignetRing" "toldHash" "I") (by decide +kernel)) (fun _ h9 => h9) rfl (by decide +kernel) rfl rfl (Nat.le_of_ble_eq_true rfl) dX11_hash_78 (fun H locs hP hD hS => ?_)
  have hP : va_P D vwCl [(h0, .inr (15, [w1, .ref to, w2, w3, w4, w5, w6, .ref dg, w7, w8, w9, w10, w11, .int 1, w12])), (dg, .inr (5, [.ref st, .ref wd, .int 0])), (st, .inl (y 1, 8, .inl (zf tD1 5 (zf tS1 8 f)))), (wd, .inl (y 1, 80, .inl (zf tW1 80 g))), (to, .inr (4, [w14, .int 0, .int 0]))] H := hP
  have hD : va_D A [(h0, .inr (15, [w1, .ref to, w2, w3, w4, w5, w6, .ref dg, w7, w8, w9, w10, w11, .int 1, w12])), (dg, .inr (5, [.ref st, .ref wd, .int 0])), (st, .inl (y 1, 8, .inl (zf tD1 5 (zf tS1 8 f)))), (wd, .inl (y 1, 80, .inl (zf tW1 80 g))), (to, .inr (4, [w14, .int 0, .int 0]))] := hD
  refine lv_aload_n hx hb dX11_hash_81 rfl (lv_at hl 0 rfl) ?_
  refine va_get (D := D) (ci := 15) (v := .ref dg) (C := RX11) (T := TX11) (N := 15) hx hb hts (by decide +kernel) hown hK hP 0 rfl rfl 7 (by decide) (hts (.fieldLink RX11 53 "SignetRing" "toldDigest" "LSignetRing$Digest;") (by decide +kernel)) (fun _ h9 => h9) rfl dX11_hash_82 ?_
  refine lv_iload_n hx hb dX11_hash_85 rfl (lv_at hl 2 rfl) ?_
  have hPc := hP.sub (ws' := [(dg, .inr (5, [.ref st, .ref wd, .int 0])), (st, .inl (y 1, 8, .inl (zf tD1 5 (zf tS1 8 f))))]) [1, 2] rfl
  have hDc := hD.sub (ws' := [(dg, .inr (5, [.ref st, .ref wd, .int 0])), (st, .inl (y 1, 8, .inl (zf tD1 5 (zf tS1 8 f))))]) [1, 2] (by decide) rfl
  have hFc := va_free (wc := [(dg, .inr (5, [.ref st, .ref wd, .int 0])), (st, .inl (y 1, 8, .inl (zf tD1 5 (zf tS1 8 f))))]) hD hS hA [1, 2] rfl
  refine va_calli (va_runV (As := [.int (nI j)]) (rest := []) ⟨hx, hb, hml, hown, hts⟩ (c_X1_at_1 l D y H.size dg st j ((.ref wd)) ((.int 0)) f (by omega)) (cwV 1 hts gv_c_X11_hash_1_c_X1_at_1_231 rfl rfl rfl (by decide +kernel) ⟨(Nat.le_of_ble_eq_true rfl), (Nat.le_of_ble_eq_true rfl)⟩) (zB.preV hPc hDc hK hN hE hO hT hG hS hFc (fun _ h => nomatch h) (fun _ h => nomatch h) (fun _ h => nomatch h) (fun _ h => nomatch h) (va_recv hK hPc (ci := 5) (q0 := 0) rfl rfl)) rfl rfl hl.1 rfl (lv_room (Nat.le_of_ble_eq_true rfl)) dX11_hash_86 ⟨(Nat.le_of_ble_eq_true rfl), (Nat.le_of_ble_eq_true rfl)⟩) hS (fun q _ h => hFc q h) hFc (fun r1 u t H1 locs ht hvm hw hB hz1 hk1 hS => ?_)
  obtain ⟨hP1, hD1⟩ := hB
  rw [ht] at hP1
  obtain ⟨hP, hD⟩ := va_join (wr := [(h0, .inr (15, [w1, .ref to, w2, w3, w4, w5, w6, .ref dg, w7, w8, w9, w10, w11, .int 1, w12])), (wd, .inl (y 1, 80, .inl (zf tW1 80 g))), (to, .inr (4, [w14, .int 0, .int 0]))]) (w1 := [(dg, .inr (5, [.ref st, .ref wd, .int 0])), (st, .inl (y 1, 8, .inl (zf tD1 5 (zf tS1 8 f))))]) hP hD [1, 2] [0, 3, 4] rfl rfl (by decide) (by decide) hk1 hFc hP1 hD1
  generalize H1 = H at hP hS ⊢
  have hP : va_P D vwCl [(h0, .inr (15, [w1, .ref to, w2, w3, w4, w5, w6, .ref dg, w7, w8, w9, w10, w11, .int 1, w12])), (wd, .inl (y 1, 80, .inl (zf tW1 80 g))), (to, .inr (4, [w14, .int 0, .int 0])), (dg, .inr (5, [.ref st, .ref wd, .int 0])), (st, .inl (y 1, 8, .inl (zf tD1 5 (zf tS1 8 f))))] H := hP
  have hD : va_D A [(h0, .inr (15, [w1, .ref to, w2, w3, w4, w5, w6, .ref dg, w7, w8, w9, w10, w11, .int 1, w12])), (wd, .inl (y 1, 80, .inl (zf tW1 80 g))), (to, .inr (4, [w14, .int 0, .int 0])), (dg, .inr (5, [.ref st, .ref wd, .int 0])), (st, .inl (y 1, 8, .inl (zf tD1 5 (zf tS1 8 f))))] := hD
  have hw : r1 = tO1 j := hw
  subst hw
  have hP9 := hP.sub (ws' := [(h0, .inr (15, [w1, .ref to, w2, w3, w4, w5, w6, .ref dg, w7, w8, w9, w10, w11, .int 1, w12])), (dg, .inr (5, [.ref st, .ref wd, .int 0])), (to, .inr (4, [w14, .int 0, .int 0])), (st, .inl (y 1, 8, .inl (zf tD1 5 (zf tS1 8 f)))), (wd, .inl (y 1, 80, .inl (zf tW1 80 g)))]) [0, 3, 2, 4, 1] rfl
  have hD9 := hD.sub (ws' := [(h0, .inr (15, [w1, .ref to, w2, w3, w4, w5, w6, .ref dg, w7, w8, w9, w10, w11, .int 1, w12])), (dg, .inr (5, [.ref st, .ref wd, .int 0])), (to, .inr (4, [w14, .int 0, .int 0])), (st, .inl (y 1, 8, .inl (zf tD1 5 (zf tS1 8 f)))), (wd, .inl (y 1, 80, .inl (zf tW1 80 g)))]) [0, 3, 2, 4, 1] (by decide) rfl
  refine W.widen (k := 0) (n := 0) (Nat.le_of_ble_eq_true rfl) (Nat.le_of_ble_eq_true rfl) ?_
  exact W.iret (v := (tO1 j)) hx hb hr (fun t ht hW => ⟨⟨(tO1 j), (), rfl, rfl, by rw [ht]; exact hP9, hD9⟩, hS.F ht⟩) hS.2.2 dX11_hash_89
def wz_c_X11_hash_2 : List Cond := .code yX11_hash cX11_hash 3 (some .int) :: ([.fieldLink RX11 105 "SignetRing" "toldHash" "I", .fieldLink RX11 53 "SignetRing" "toldDigest" "LSignetRing$Digest;", .fieldLink RX11 18 "SignetRing" "told" "LSignetRing$Bytes;", .methodLink RX11 228 yX1_make, .instanceMethod yX1_make, .selects RX1 yX1_make yX1_make, .initialized RX1, .methodLink RX11 231 yX1_at, .instanceMethod yX1_at, .selects RX1 yX1_at yX1_at] ++ (wsX110 ++ (wz_c_X1_make_2 ++ (wz_c_X1_at_2 ++ ([])))))
set_option maxRecDepth 100000 in
theorem gz_c_X11_hash_2_c_X1_make_2 : GoodIn wz_c_X11_hash_2 wz_c_X1_make_2 := goodIn_sub (fun w h => List.mem_cons_of_mem _ (List.mem_append_right _ (List.mem_append_right _ (List.mem_append_left _ h)))) (by decide +kernel)
set_option maxRecDepth 100000 in
theorem gz_c_X11_hash_2_c_X1_at_2 : GoodIn wz_c_X11_hash_2 wz_c_X1_at_2 := goodIn_sub (fun w h => List.mem_cons_of_mem _ (List.mem_append_right _ (List.mem_append_right _ (List.mem_append_right _ (List.mem_append_left _ h))))) (by decide +kernel)
set_option maxRecDepth 100000 in
theorem gv_c_X11_hash_2_c_X1_make_2_228 : GoodIn wz_c_X11_hash_2 (wsV RX11 228 RX1 yX1_make wz_c_X1_make_2) := goodIn_app (goodIn_of _ (by decide +kernel)) gz_c_X11_hash_2_c_X1_make_2
set_option maxRecDepth 100000 in
theorem gv_c_X11_hash_2_c_X1_at_2_231 : GoodIn wz_c_X11_hash_2 (wsV RX11 231 RX1 yX1_at wz_c_X1_at_2) := goodIn_app (goodIn_of _ (by decide +kernel)) gz_c_X11_hash_2_c_X1_at_2
set_option maxHeartbeats 4000000 in
set_option maxRecDepth 100000 in
theorem ax_c_X11_hash_2_0 : ∀ j : Nat, j < 32 → 0 ≤ j → ¬ (nI j) < (0 : Int32) := by decide +kernel
set_option maxHeartbeats 4000000 in
set_option maxRecDepth 100000 in
theorem ax_c_X11_hash_2_1 : ∀ j : Nat, j < 32 → 0 ≤ j → (nI j) < (32 : Int32) := by decide +kernel
set_option maxHeartbeats 4000000 in
set_option maxRecDepth 100000 in
theorem c_X11_hash_2 (l : Launch) (D : va_G) (y : Nat → ClassId) (sz : Nat) (h0 : Nat) (dg : Nat) (to : Nat) (st : Nat) (wd : Nat) (w1 : Value) (w2 : Value) (w3 : Value) (w4 : Value) (w5 : Value) (w6 : Value) (w7 : Value) (w8 : Value) (w9 : Value) (w10 : Value) (w11 : Value) (w12 : Value) (w13 : Value) (w14 : Value) (j : Nat) (f : Nat → Int32) (g : Nat → Int32) (e2 : Nat) (e3 : Nat) (hj : j < 32) : Met l yX11_hash wz_c_X11_hash_2 ({ frames := 3, cells := 0, slots := 0, locals := 75 }) (va_Pc [.ref h0, .int 2, .int (nI j)] (zB D y [(h0, .inr (15, [w1, .ref to, w2, w3, w4, w5, w6, .ref dg, w7, w8, w9, w10, w11, .int 0, w12])), (dg, .inr (5, [.ref st, .ref wd, w13])), (to, .inr (4, [w14, .int 0, .int 0])), (st, .inl (y 1, 8, .inl f)), (wd, .inl (y 1, 80, .inl g))] sz [] [("SignetRing$Digest", "START_SECOND", "[I", .ref e2), ("SignetRing$Digest", "ROUNDS", "[I", .ref e3)] [] [.inl (e2, 8, tS2), .inl (e3, 64, tK)])) (va_Qi (fun (r : Int32) (_ : Unit) => r = tO2 j) (fun _ t => va_P D vwCl [(h0, .inr (15, [w1, .ref to, w2, w3, w4, w5, w6, .ref dg, w7, w8, w9, w10, w11, .int 2, w12])), (dg, .inr (5, [.ref st, .ref wd, .int 1])), (to, .inr (4, [w14, .int 0, .int 0])), (st, .inl (y 1, 8, .inl (zf tD2 8 (zf tS2 8 f)))), (wd, .inl (y 1, 80, .inl (zf tW2 64 g)))] t.heap ∧ va_D (va_A [(h0, .inr (15, [w1, .ref to, w2, w3, w4, w5, w6, .ref dg, w7, w8, w9, w10, w11, .int 0, w12])), (dg, .inr (5, [.ref st, .ref wd, w13])), (to, .inr (4, [w14, .int 0, .int 0])), (st, .inl (y 1, 8, .inl f)), (wd, .inl (y 1, 80, .inl g))] sz) [(h0, .inr (15, [w1, .ref to, w2, w3, w4, w5, w6, .ref dg, w7, w8, w9, w10, w11, .int 2, w12])), (dg, .inr (5, [.ref st, .ref wd, .int 1])), (to, .inr (4, [w14, .int 0, .int 0])), (st, .inl (y 1, 8, .inl (zf tD2 8 (zf tS2 8 f)))), (wd, .inl (y 1, 80, .inl (zf tW2 64 g)))]) (va_A [(h0, .inr (15, [w1, .ref to, w2, w3, w4, w5, w6, .ref dg, w7, w8, w9, w10, w11, .int 0, w12])), (dg, .inr (5, [.ref st, .ref wd, w13])), (to, .inr (4, [w14, .int 0, .int 0])), (st, .inl (y 1, 8, .inl f)), (wd, .inl (y 1, 80, .inl g))] sz)) 0 0 (va_A [(h0, .inr (15, [w1, .ref to, w2, w3, w4, w5, w6, .ref dg, w7, w8, w9, w10, w11, .int 0, w12])), (dg, .inr (5, [.ref st, .ref wd, w13])), (to, .inr (4, [w14, .int 0, .int 0])), (st, .inl (y 1, 8, .inl f)), (wd, .inl (y 1, 80, .inl g))] sz) := by
  refine Met.ofW (cc := cX11_hash) (maxL := 3) (ret := (some .int)) (by decide) rfl ?_
  intro p e s m args below meth c s₁ B hml hv
  obtain ⟨rfl, hsz, hP, hK, hD0, hN, hE, hO, hT, hG⟩ := hv
  have hx := B.exec
  have hb := B.bytes
  have hr := B.returns
  have hts := atoms_spec (ws := wz_c_X11_hash_2) B.pre
  have hown : s.vm.findClass RX11 = some m.cls := findClass_of_methodNamed B.named
  have hlocks := B.notSynchronized
  subst hsz
  have hD := hD0.self (sz := s.heap.size)
  generalize hAe : va_A [(h0, .inr (15, [w1, .ref to, w2, w3, w4, w5, w6, .ref dg, w7, w8, w9, w10, w11, .int 0, w12])), (dg, .inr (5, [.ref st, .ref wd, w13])), (to, .inr (4, [w14, .int 0, .int 0])), (st, .inl (y 1, 8, .inl f)), (wd, .inl (y 1, 80, .inl g))] s.heap.size = A at hD hE hT hG ⊢
  have hA : ∀ q : Nat, s.heap.size ≤ q → A q := fun q h => by rw [← hAe]; exact Or.inr h
  have hS : va_S A s.heap s.heap [] := va_S.rf
  have hl := lv_entry ([.ref h0, .int 2, .int (nI j)]) (n := 3) (Nat.le_of_ble_eq_true rfl)
  rw [lg_entry_eq]
  generalize (lg_sl ([.ref h0, .int 2, .int (nI j)]) ++ List.replicate (3 - (lg_sl ([.ref h0, .int 2, .int (nI j)])).length) Slot.unset).toArray = ls at hl ⊢
  have hl : lv_has ls 3 [(0, .ref h0), (1, .int 2), (2, .int (nI j))] := hl
  refine lv_iload_n hx hb dX11_hash_0 rfl (lv_at hl 1 rfl) ?_
  refine lv_iconst (v := 1) hx hb dX11_hash_1 (by decide) ?_
  refine lv_icmp_eq (tgt := 18) hx hb dX11_hash_2 (by decide) (fun c9 => absurd c9 (by decide)) (fun _ => ?_)
  refine lv_iload_n hx hb dX11_hash_5 rfl (lv_at hl 1 rfl) ?_
  refine lv_iconst (v := 2) hx hb dX11_hash_6 (by decide) ?_
  refine lv_icmp_eq (tgt := 18) hx hb dX11_hash_7 (by decide) (fun _ => ?_) (fun c9 => absurd (by decide) c9)
  refine lv_iload_n hx hb dX11_hash_18 rfl (lv_at hl 2 rfl) ?_
  refine lv_if_lt (tgt := 38) hx hb dX11_hash_19 (by decide) (fun c9 => absurd c9 (ax_c_X11_hash_2_0 j hj (Nat.zero_le j))) (fun _ => ?_)
  refine lv_iload_n hx hb dX11_hash_22 rfl (lv_at hl 2 rfl) ?_
  refine lv_iload_n hx hb dX11_hash_23 rfl (lv_at hl 1 rfl) ?_
  refine lv_iconst (v := 1) hx hb dX11_hash_24 (by decide) ?_
  refine lv_icmp_ne (tgt := 33) hx hb dX11_hash_25 (by decide) (fun _ => ?_) (fun c9 => absurd c9 (by decide))
  refine lv_bipush (v := 32) hx hb dX11_hash_33 (by decide) ?_
  refine lv_icmp_lt (tgt := 46) hx hb dX11_hash_35 (by decide) (fun _ => ?_) (fun c9 => absurd (ax_c_X11_hash_2_1 j hj (Nat.zero_le j)) c9)
  refine lv_aload_n hx hb dX11_hash_46 rfl (lv_at hl 0 rfl) ?_
  refine va_get (D := D) (ci := 15) (v := .int 0) (C := RX11) (T := TX11) (N := 15) hx hb hts (by decide +kernel) hown hK hP 0 rfl rfl 13 (by decide) (hts (.fieldLink RX11 105 "SignetRing" "toldHash" "I") (by decide +kernel)) (fun _ h9 => h9) rfl dX11_hash_47 ?_
  refine lv_iload_n hx hb dX11_hash_50 rfl (lv_at hl 1 rfl) ?_
  refine lv_icmp_eq (tgt := 81) hx hb dX11_hash_51 (by decide) (fun c9 => absurd c9 (by decide)) (fun _ => ?_)
  refine lv_aload_n hx hb dX11_hash_54 rfl (lv_at hl 0 rfl) ?_
  refine va_get (D := D) (ci := 15) (v := .ref dg) (C := RX11) (T := TX11) (N := 15) hx hb hts (by decide +kernel) hown hK hP 0 rfl rfl 7 (by decide) (hts (.fieldLink RX11 53 "SignetRing" "toldDigest" "LSignetRing$Digest;") (by decide +kernel)) (fun _ h9 => h9) rfl dX11_hash_55 ?_
  refine lv_iload_n hx hb dX11_hash_58 rfl (lv_at hl 1 rfl) ?_
  refine lv_iconst (v := 1) hx hb dX11_hash_59 (by decide) ?_
  refine lv_icmp_ne (tgt := 67) hx hb dX11_hash_60 (by decide) (fun _ => ?_) (fun c9 => absurd c9 (by decide))
  refine lv_bipush (v := 8) hx hb dX11_hash_67 (by decide) ?_
  refine lv_aload_n hx hb dX11_hash_69 rfl (lv_at hl 0 rfl) ?_
  refine va_get (D := D) (ci := 15) (v := .ref to) (C := RX11) (T := TX11) (N := 15) hx hb hts (by decide +kernel) hown hK hP 0 rfl rfl 1 (by decide) (hts (.fieldLink RX11 18 "SignetRing" "told" "LSignetRing$Bytes;") (by decide +kernel)) (fun _ h9 => h9) rfl dX11_hash_70 ?_
  have hPc := hP.sub (ws' := [(dg, .inr (5, [.ref st, .ref wd, w13])), (st, .inl (y 1, 8, .inl f)), (wd, .inl (y 1, 80, .inl g)), (to, .inr (4, [w14, .int 0, .int 0]))]) [1, 3, 4, 2] rfl
  have hDc := hD.sub (ws' := [(dg, .inr (5, [.ref st, .ref wd, w13])), (st, .inl (y 1, 8, .inl f)), (wd, .inl (y 1, 80, .inl g)), (to, .inr (4, [w14, .int 0, .int 0]))]) [1, 3, 4, 2] (by decide) rfl
  have hFc := va_free (wc := [(dg, .inr (5, [.ref st, .ref wd, w13])), (st, .inl (y 1, 8, .inl f)), (wd, .inl (y 1, 80, .inl g)), (to, .inr (4, [w14, .int 0, .int 0]))]) hD hS hA [1, 3, 4, 2] rfl
  refine va_callv (va_runV (As := [.int 8, .ref to]) (rest := []) ⟨hx, hb, hml, hown, hts⟩ (c_X1_make_2 l D y s.heap.size dg st wd w13 to w14 f g e2 e3) (cwV 2 hts gv_c_X11_hash_2_c_X1_make_2_228 rfl rfl rfl (by decide +kernel) ⟨(Nat.le_of_ble_eq_true rfl), (Nat.le_of_ble_eq_true rfl)⟩) (zB.preV hPc hDc hK hN hE hO hT hG hS hFc (fun _ h => nomatch h) (List.forall_mem_cons.mpr ⟨List.mem_of_getElem? (i := 0) rfl, (List.forall_mem_cons.mpr ⟨List.mem_of_getElem? (i := 1) rfl, (fun _ h => nomatch h)⟩)⟩) (fun _ h => nomatch h) (List.forall_mem_cons.mpr ⟨List.mem_of_getElem? (i := 0) rfl, (List.forall_mem_cons.mpr ⟨List.mem_of_getElem? (i := 1) rfl, (fun _ h => nomatch h)⟩)⟩) (va_recv hK hPc (ci := 5) (q0 := 0) rfl rfl)) rfl rfl hl.1 rfl (lv_room (Nat.le_of_ble_eq_true rfl)) dX11_hash_73 ⟨(Nat.le_of_ble_eq_true rfl), (Nat.le_of_ble_eq_true rfl)⟩) hS (fun q _ h => hFc q h) hFc (fun u t H1 locs ht hvm hw hB hz1 hk1 hS => ?_)
  obtain ⟨hP1, hD1⟩ := hB
  rw [ht] at hP1
  obtain ⟨hP, hD⟩ := va_join (wr := [(h0, .inr (15, [w1, .ref to, w2, w3, w4, w5, w6, .ref dg, w7, w8, w9, w10, w11, .int 0, w12]))]) (w1 := [(dg, .inr (5, [.ref st, .ref wd, .int 1])), (st, .inl (y 1, 8, .inl (zf tD2 8 (zf tS2 8 f)))), (wd, .inl (y 1, 80, .inl (zf tW2 64 g))), (to, .inr (4, [w14, .int 0, .int 0]))]) hP hD [1, 3, 4, 2] [0] rfl rfl (by decide) (by decide) hk1 hFc hP1 hD1
  generalize H1 = H at hP hS ⊢
  have hP : va_P D vwCl [(h0, .inr (15, [w1, .ref to, w2, w3, w4, w5, w6, .ref dg, w7, w8, w9, w10, w11, .int 0, w12])), (dg, .inr (5, [.ref st, .ref wd, .int 1])), (st, .inl (y 1, 8, .inl (zf tD2 8 (zf tS2 8 f)))), (wd, .inl (y 1, 80, .inl (zf tW2 64 g))), (to, .inr (4, [w14, .int 0, .int 0]))] H := hP
  have hD : va_D A [(h0, .inr (15, [w1, .ref to, w2, w3, w4, w5, w6, .ref dg, w7, w8, w9, w10, w11, .int 0, w12])), (dg, .inr (5, [.ref st, .ref wd, .int 1])), (st, .inl (y 1, 8, .inl (zf tD2 8 (zf tS2 8 f)))), (wd, .inl (y 1, 80, .inl (zf tW2 64 g))), (to, .inr (4, [w14, .int 0, .int 0]))] := hD
  refine lv_aload_n hx hb dX11_hash_76 rfl (lv_at hl 0 rfl) ?_
  refine lv_iload_n hx hb dX11_hash_77 rfl (lv_at hl 1 rfl) ?_
  refine va_put (D := D) (ci := 15) (v := .int 2) (ty := .int) (C := RX11) (T := TX11) (N := 15) hx hb hts (by decide +kernel) tyX11 tyX11_ok nmX11 hown hK hP hD hS 0 rfl rfl 13 (by decide) (hts (.fieldLink RX11 105 "SignetRing" "toldHash" "I") (by decide +kernel)) (fun _ h9 => h9) rfl (by decide +kernel) rfl rfl (Nat.le_of_ble_eq_true rfl) dX11_hash_78 (fun H locs hP hD hS => ?_)
  have hP : va_P D vwCl [(h0, .inr (15, [w1, .ref to, w2, w3, w4, w5, w6, .ref dg, w7, w8, w9, w10, w11, .int 2, w12])), (dg, .inr (5, [.ref st, .ref wd, .int 1])), (st, .inl (y 1, 8, .inl (zf tD2 8 (zf tS2 8 f)))), (wd, .inl (y 1, 80, .inl (zf tW2 64 g))), (to, .inr (4, [w14, .int 0, .int 0]))] H := hP
  have hD : va_D A [(h0, .inr (15, [w1, .ref to, w2, w3, w4, w5, w6, .ref dg, w7, w8, w9, w10, w11, .int 2, w12])), (dg, .inr (5, [.ref st, .ref wd, .int 1])), (st, .inl (y 1, 8, .inl (zf tD2 8 (zf tS2 8 f)))), (wd, .inl (y 1, 80, .inl (zf tW2 64 g))), (to, .inr (4, [w14, .int 0, .int 0]))] := hD
  refine lv_aload_n hx hb dX11_hash_81 rfl (lv_at hl 0 rfl) ?_
  refine va_get (D := D) (ci := 15) (v := .ref dg) (C := RX11) (T := TX11) (N := 15) hx hb hts (by decide +kernel) hown hK hP 0 rfl rfl 7 (by decide) (hts (.fieldLink RX11 53 "SignetRing" "toldDigest" "LSignetRing$Digest;") (by decide +kernel)) (fun _ h9 => h9) rfl dX11_hash_82 ?_
  refine lv_iload_n hx hb dX11_hash_85 rfl (lv_at hl 2 rfl) ?_
  have hPc := hP.sub (ws' := [(dg, .inr (5, [.ref st, .ref wd, .int 1])), (st, .inl (y 1, 8, .inl (zf tD2 8 (zf tS2 8 f))))]) [1, 2] rfl
  have hDc := hD.sub (ws' := [(dg, .inr (5, [.ref st, .ref wd, .int 1])), (st, .inl (y 1, 8, .inl (zf tD2 8 (zf tS2 8 f))))]) [1, 2] (by decide) rfl
  have hFc := va_free (wc := [(dg, .inr (5, [.ref st, .ref wd, .int 1])), (st, .inl (y 1, 8, .inl (zf tD2 8 (zf tS2 8 f))))]) hD hS hA [1, 2] rfl
  refine va_calli (va_runV (As := [.int (nI j)]) (rest := []) ⟨hx, hb, hml, hown, hts⟩ (c_X1_at_2 l D y H.size dg st j ((.ref wd)) ((.int 1)) f (by omega)) (cwV 1 hts gv_c_X11_hash_2_c_X1_at_2_231 rfl rfl rfl (by decide +kernel) ⟨(Nat.le_of_ble_eq_true rfl), (Nat.le_of_ble_eq_true rfl)⟩) (zB.preV hPc hDc hK hN hE hO hT hG hS hFc (fun _ h => nomatch h) (fun _ h => nomatch h) (fun _ h => nomatch h) (fun _ h => nomatch h) (va_recv hK hPc (ci := 5) (q0 := 0) rfl rfl)) rfl rfl hl.1 rfl (lv_room (Nat.le_of_ble_eq_true rfl)) dX11_hash_86 ⟨(Nat.le_of_ble_eq_true rfl), (Nat.le_of_ble_eq_true rfl)⟩) hS (fun q _ h => hFc q h) hFc (fun r1 u t H1 locs ht hvm hw hB hz1 hk1 hS => ?_)
  obtain ⟨hP1, hD1⟩ := hB
  rw [ht] at hP1
  obtain ⟨hP, hD⟩ := va_join (wr := [(h0, .inr (15, [w1, .ref to, w2, w3, w4, w5, w6, .ref dg, w7, w8, w9, w10, w11, .int 2, w12])), (wd, .inl (y 1, 80, .inl (zf tW2 64 g))), (to, .inr (4, [w14, .int 0, .int 0]))]) (w1 := [(dg, .inr (5, [.ref st, .ref wd, .int 1])), (st, .inl (y 1, 8, .inl (zf tD2 8 (zf tS2 8 f))))]) hP hD [1, 2] [0, 3, 4] rfl rfl (by decide) (by decide) hk1 hFc hP1 hD1
  generalize H1 = H at hP hS ⊢
  have hP : va_P D vwCl [(h0, .inr (15, [w1, .ref to, w2, w3, w4, w5, w6, .ref dg, w7, w8, w9, w10, w11, .int 2, w12])), (wd, .inl (y 1, 80, .inl (zf tW2 64 g))), (to, .inr (4, [w14, .int 0, .int 0])), (dg, .inr (5, [.ref st, .ref wd, .int 1])), (st, .inl (y 1, 8, .inl (zf tD2 8 (zf tS2 8 f))))] H := hP
  have hD : va_D A [(h0, .inr (15, [w1, .ref to, w2, w3, w4, w5, w6, .ref dg, w7, w8, w9, w10, w11, .int 2, w12])), (wd, .inl (y 1, 80, .inl (zf tW2 64 g))), (to, .inr (4, [w14, .int 0, .int 0])), (dg, .inr (5, [.ref st, .ref wd, .int 1])), (st, .inl (y 1, 8, .inl (zf tD2 8 (zf tS2 8 f))))] := hD
  have hw : r1 = tO2 j := hw
  subst hw
  have hP9 := hP.sub (ws' := [(h0, .inr (15, [w1, .ref to, w2, w3, w4, w5, w6, .ref dg, w7, w8, w9, w10, w11, .int 2, w12])), (dg, .inr (5, [.ref st, .ref wd, .int 1])), (to, .inr (4, [w14, .int 0, .int 0])), (st, .inl (y 1, 8, .inl (zf tD2 8 (zf tS2 8 f)))), (wd, .inl (y 1, 80, .inl (zf tW2 64 g)))]) [0, 3, 2, 4, 1] rfl
  have hD9 := hD.sub (ws' := [(h0, .inr (15, [w1, .ref to, w2, w3, w4, w5, w6, .ref dg, w7, w8, w9, w10, w11, .int 2, w12])), (dg, .inr (5, [.ref st, .ref wd, .int 1])), (to, .inr (4, [w14, .int 0, .int 0])), (st, .inl (y 1, 8, .inl (zf tD2 8 (zf tS2 8 f)))), (wd, .inl (y 1, 80, .inl (zf tW2 64 g)))]) [0, 3, 2, 4, 1] (by decide) rfl
  refine W.widen (k := 0) (n := 0) (Nat.le_of_ble_eq_true rfl) (Nat.le_of_ble_eq_true rfl) ?_
  exact W.iret (v := (tO2 j)) hx hb hr (fun t ht hW => ⟨⟨(tO2 j), (), rfl, rfl, by rw [ht]; exact hP9, hD9⟩, hS.F ht⟩) hS.2.2 dX11_hash_89
def wz_c_X11_hash_w : List Cond := .code yX11_hash cX11_hash 3 (some .int) :: ([.classLink RX11 112 "java/lang/IllegalArgumentException", .initialized "java/lang/IllegalArgumentException"] ++ ((vx_at0 RX11 114 "java/lang/IllegalArgumentException" ["java/lang/RuntimeException", "java/lang/Exception"]).filter goodWord ++ ([])))
set_option maxHeartbeats 4000000 in
set_option maxRecDepth 100000 in
theorem c_X11_hash_w (l : Launch) (hl0 : l.stackTraces = false) (D : va_G) (y : Nat → ClassId) (sz : Nat) (h0 : Nat) (w1 : Value) (w2 : Value) (w3 : Value) (w4 : Value) (w5 : Value) (w6 : Value) (w7 : Value) (w8 : Value) (w9 : Value) (w10 : Value) (w11 : Value) (w12 : Value) (w13 : Value) (w14 : Value) (w15 : Value) (w : Int32) (i : Int32) (h1 : ¬ w = 1) (h2 : ¬ w = 2) : vx_Met l yX11_hash wz_c_X11_hash_w ({ frames := 6, cells := 1, slots := 6, locals := 81 }) (va_Pc [.ref h0, .int w, .int i] (zB D y [(h0, .inr (15, [w1, w2, w3, w4, w5, w6, w7, w8, w9, w10, w11, w12, w13, w14, w15]))] sz [.declares (Bundle.init0 "java/lang/RuntimeException"), .declares (Bundle.init0 "java/lang/Exception"), .declares (Bundle.init0 "java/lang/Throwable"), .castable "java/lang/IllegalArgumentException" "java/lang/IllegalArgumentException"] [] zTh [])) (va_Qi (fun (r : Int32) (_ : Unit) => False) (fun _ t => va_P D vwCl [(h0, .inr (15, [w1, w2, w3, w4, w5, w6, w7, w8, w9, w10, w11, w12, w13, w14, w15]))] t.heap ∧ va_D (va_A [(h0, .inr (15, [w1, w2, w3, w4, w5, w6, w7, w8, w9, w10, w11, w12, w13, w14, w15]))] sz) [(h0, .inr (15, [w1, w2, w3, w4, w5, w6, w7, w8, w9, w10, w11, w12, w13, w14, w15]))]) (va_A [(h0, .inr (15, [w1, w2, w3, w4, w5, w6, w7, w8, w9, w10, w11, w12, w13, w14, w15]))] sz)) (vx_X (fun _ : Unit => True) (fun E _ _ => E = "java/lang/IllegalArgumentException") (va_A [(h0, .inr (15, [w1, w2, w3, w4, w5, w6, w7, w8, w9, w10, w11, w12, w13, w14, w15]))] sz)) 1 6 (va_A [(h0, .inr (15, [w1, w2, w3, w4, w5, w6, w7, w8, w9, w10, w11, w12, w13, w14, w15]))] sz) := by
  refine vx_ofW (cc := cX11_hash) (maxL := 3) (ret := (some .int)) (by decide) rfl ?_
  intro p e s m args below meth c s₁ B hml hnt hv
  obtain ⟨rfl, hsz, hP, hK, hD0, hN, hE, hO, hT, hG⟩ := hv
  have hx := B.exec
  have hb := B.bytes
  have hr := B.returns
  have hts := atoms_spec (ws := wz_c_X11_hash_w) B.pre
  have hown : s.vm.findClass RX11 = some m.cls := findClass_of_methodNamed B.named
  have hlocks := B.notSynchronized
  subst hsz
  have hD := hD0.self (sz := s.heap.size)
  generalize hAe : va_A [(h0, .inr (15, [w1, w2, w3, w4, w5, w6, w7, w8, w9, w10, w11, w12, w13, w14, w15]))] s.heap.size = A at hD hE hT hG ⊢
  have hA : ∀ q : Nat, s.heap.size ≤ q → A q := fun q h => by rw [← hAe]; exact Or.inr h
  have hS : va_S A s.heap s.heap [] := va_S.rf
  have hl := lv_entry ([.ref h0, .int w, .int i]) (n := 3) (Nat.le_of_ble_eq_true rfl)
  rw [lg_entry_eq]
  generalize (lg_sl ([.ref h0, .int w, .int i]) ++ List.replicate (3 - (lg_sl ([.ref h0, .int w, .int i])).length) Slot.unset).toArray = ls at hl ⊢
  have hl : lv_has ls 3 [(0, .ref h0), (1, .int w), (2, .int i)] := hl
  refine lv_iload_n hx hb dX11_hash_0 rfl (lv_at hl 1 rfl) ?_
  refine lv_iconst (v := 1) hx hb dX11_hash_1 (by decide) ?_
  refine lv_icmp_eq (tgt := 18) hx hb dX11_hash_2 (by decide) (fun c9 => absurd c9 h1) (fun _ => ?_)
  refine lv_iload_n hx hb dX11_hash_5 rfl (lv_at hl 1 rfl) ?_
  refine lv_iconst (v := 2) hx hb dX11_hash_6 (by decide) ?_
  refine lv_icmp_eq (tgt := 18) hx hb dX11_hash_7 (by decide) (fun c9 => absurd c9 h2) (fun _ => ?_)
  exact vx_throw0 (names := ["java/lang/RuntimeException", "java/lang/Exception"]) (cls := "java/lang/IllegalArgumentException") hx hb hl0 hown (by decide) (by decide) (hts (.classLink RX11 112 "java/lang/IllegalArgumentException") (by decide +kernel)) (hts (.initialized "java/lang/IllegalArgumentException") (by decide +kernel)) (vx_hat (L := (vx_at0 RX11 114 "java/lang/IllegalArgumentException" ["java/lang/RuntimeException", "java/lang/Exception"])) (B := [.declares (Bundle.init0 "java/lang/RuntimeException"), .declares (Bundle.init0 "java/lang/Exception"), .declares (Bundle.init0 "java/lang/Throwable"), .castable "java/lang/IllegalArgumentException" "java/lang/IllegalArgumentException"]) (fun w hw => hts w (List.mem_cons_of_mem _ (List.mem_append_right _ (List.mem_append_left _ hw)))) (by decide +kernel) (hN.words (List.forall_mem_cons.mpr ⟨List.mem_of_getElem? (i := 0) rfl, (List.forall_mem_cons.mpr ⟨List.mem_of_getElem? (i := 1) rfl, (List.forall_mem_cons.mpr ⟨List.mem_of_getElem? (i := 2) rfl, (List.forall_mem_cons.mpr ⟨List.mem_of_getElem? (i := 3) rfl, (fun _ h => nomatch h)⟩)⟩)⟩)⟩))) (by decide +kernel) (hT _ (List.mem_of_getElem? (i := 0) rfl)) (hT _ (List.mem_of_getElem? (i := 1) rfl)) hS (hl.1.trans hml.symm) dX11_hash_10 dX11_hash_13 dX11_hash_14 dX11_hash_17 (fun x h => (hnt x h).elim) (Nat.le_of_ble_eq_true rfl) (Nat.le_of_ble_eq_true rfl) (Nat.le_of_ble_eq_true rfl) (Nat.le_of_ble_eq_true rfl) hlocks (fun t _ hz hq => ⟨(), trivial, rfl, ⟨Nat.le_trans hS.1 hz, fun q h1 h2 => (hq q (Nat.lt_of_lt_of_le h1 hS.1)).trans (hS.2.1 q h1 h2)⟩⟩) hS.2.2 (Nat.le_of_ble_eq_true rfl) (Nat.le_of_ble_eq_true rfl)
def wz_c_X11_hash_1lo : List Cond := .code yX11_hash cX11_hash 3 (some .int) :: ([.classLink RX11 142 "java/lang/IndexOutOfBoundsException", .initialized "java/lang/IndexOutOfBoundsException"] ++ ((vx_at0 RX11 144 "java/lang/IndexOutOfBoundsException" ["java/lang/RuntimeException", "java/lang/Exception"]).filter goodWord ++ ([])))
set_option maxHeartbeats 4000000 in
set_option maxRecDepth 100000 in
theorem c_X11_hash_1lo (l : Launch) (hl0 : l.stackTraces = false) (D : va_G) (y : Nat → ClassId) (sz : Nat) (h0 : Nat) (w1 : Value) (w2 : Value) (w3 : Value) (w4 : Value) (w5 : Value) (w6 : Value) (w7 : Value) (w8 : Value) (w9 : Value) (w10 : Value) (w11 : Value) (w12 : Value) (w13 : Value) (w14 : Value) (w15 : Value) (i : Int32) (h1 : i < 0) : vx_Met l yX11_hash wz_c_X11_hash_1lo ({ frames := 6, cells := 1, slots := 6, locals := 81 }) (va_Pc [.ref h0, .int 1, .int i] (zB D y [(h0, .inr (15, [w1, w2, w3, w4, w5, w6, w7, w8, w9, w10, w11, w12, w13, w14, w15]))] sz [.declares (Bundle.init0 "java/lang/RuntimeException"), .declares (Bundle.init0 "java/lang/Exception"), .declares (Bundle.init0 "java/lang/Throwable"), .castable "java/lang/IndexOutOfBoundsException" "java/lang/IndexOutOfBoundsException"] [] zTh [])) (va_Qi (fun (r : Int32) (_ : Unit) => False) (fun _ t => va_P D vwCl [(h0, .inr (15, [w1, w2, w3, w4, w5, w6, w7, w8, w9, w10, w11, w12, w13, w14, w15]))] t.heap ∧ va_D (va_A [(h0, .inr (15, [w1, w2, w3, w4, w5, w6, w7, w8, w9, w10, w11, w12, w13, w14, w15]))] sz) [(h0, .inr (15, [w1, w2, w3, w4, w5, w6, w7, w8, w9, w10, w11, w12, w13, w14, w15]))]) (va_A [(h0, .inr (15, [w1, w2, w3, w4, w5, w6, w7, w8, w9, w10, w11, w12, w13, w14, w15]))] sz)) (vx_X (fun _ : Unit => True) (fun E _ _ => E = "java/lang/IndexOutOfBoundsException") (va_A [(h0, .inr (15, [w1, w2, w3, w4, w5, w6, w7, w8, w9, w10, w11, w12, w13, w14, w15]))] sz)) 1 6 (va_A [(h0, .inr (15, [w1, w2, w3, w4, w5, w6, w7, w8, w9, w10, w11, w12, w13, w14, w15]))] sz) := by
  refine vx_ofW (cc := cX11_hash) (maxL := 3) (ret := (some .int)) (by decide) rfl ?_
  intro p e s m args below meth c s₁ B hml hnt hv
  obtain ⟨rfl, hsz, hP, hK, hD0, hN, hE, hO, hT, hG⟩ := hv
  have hx := B.exec
  have hb := B.bytes
  have hr := B.returns
  have hts := atoms_spec (ws := wz_c_X11_hash_1lo) B.pre
  have hown : s.vm.findClass RX11 = some m.cls := findClass_of_methodNamed B.named
  have hlocks := B.notSynchronized
  subst hsz
  have hD := hD0.self (sz := s.heap.size)
  generalize hAe : va_A [(h0, .inr (15, [w1, w2, w3, w4, w5, w6, w7, w8, w9, w10, w11, w12, w13, w14, w15]))] s.heap.size = A at hD hE hT hG ⊢
  have hA : ∀ q : Nat, s.heap.size ≤ q → A q := fun q h => by rw [← hAe]; exact Or.inr h
  have hS : va_S A s.heap s.heap [] := va_S.rf
  have hl := lv_entry ([.ref h0, .int 1, .int i]) (n := 3) (Nat.le_of_ble_eq_true rfl)
  rw [lg_entry_eq]
  generalize (lg_sl ([.ref h0, .int 1, .int i]) ++ List.replicate (3 - (lg_sl ([.ref h0, .int 1, .int i])).length) Slot.unset).toArray = ls at hl ⊢
  have hl : lv_has ls 3 [(0, .ref h0), (1, .int 1), (2, .int i)] := hl
  refine lv_iload_n hx hb dX11_hash_0 rfl (lv_at hl 1 rfl) ?_
  refine lv_iconst (v := 1) hx hb dX11_hash_1 (by decide) ?_
  refine lv_icmp_eq (tgt := 18) hx hb dX11_hash_2 (by decide) (fun _ => ?_) (fun c9 => absurd (by decide) c9)
  refine lv_iload_n hx hb dX11_hash_18 rfl (lv_at hl 2 rfl) ?_
  refine lv_if_lt (tgt := 38) hx hb dX11_hash_19 (by decide) (fun _ => ?_) (fun c9 => absurd h1 c9)
  exact vx_throw0 (names := ["java/lang/RuntimeException", "java/lang/Exception"]) (cls := "java/lang/IndexOutOfBoundsException") hx hb hl0 hown (by decide) (by decide) (hts (.classLink RX11 142 "java/lang/IndexOutOfBoundsException") (by decide +kernel)) (hts (.initialized "java/lang/IndexOutOfBoundsException") (by decide +kernel)) (vx_hat (L := (vx_at0 RX11 144 "java/lang/IndexOutOfBoundsException" ["java/lang/RuntimeException", "java/lang/Exception"])) (B := [.declares (Bundle.init0 "java/lang/RuntimeException"), .declares (Bundle.init0 "java/lang/Exception"), .declares (Bundle.init0 "java/lang/Throwable"), .castable "java/lang/IndexOutOfBoundsException" "java/lang/IndexOutOfBoundsException"]) (fun w hw => hts w (List.mem_cons_of_mem _ (List.mem_append_right _ (List.mem_append_left _ hw)))) (by decide +kernel) (hN.words (List.forall_mem_cons.mpr ⟨List.mem_of_getElem? (i := 0) rfl, (List.forall_mem_cons.mpr ⟨List.mem_of_getElem? (i := 1) rfl, (List.forall_mem_cons.mpr ⟨List.mem_of_getElem? (i := 2) rfl, (List.forall_mem_cons.mpr ⟨List.mem_of_getElem? (i := 3) rfl, (fun _ h => nomatch h)⟩)⟩)⟩)⟩))) (by decide +kernel) (hT _ (List.mem_of_getElem? (i := 0) rfl)) (hT _ (List.mem_of_getElem? (i := 1) rfl)) hS (hl.1.trans hml.symm) dX11_hash_38 dX11_hash_41 dX11_hash_42 dX11_hash_45 (fun x h => (hnt x h).elim) (Nat.le_of_ble_eq_true rfl) (Nat.le_of_ble_eq_true rfl) (Nat.le_of_ble_eq_true rfl) (Nat.le_of_ble_eq_true rfl) hlocks (fun t _ hz hq => ⟨(), trivial, rfl, ⟨Nat.le_trans hS.1 hz, fun q h1 h2 => (hq q (Nat.lt_of_lt_of_le h1 hS.1)).trans (hS.2.1 q h1 h2)⟩⟩) hS.2.2 (Nat.le_of_ble_eq_true rfl) (Nat.le_of_ble_eq_true rfl)
def wz_c_X11_hash_1hi : List Cond := .code yX11_hash cX11_hash 3 (some .int) :: ([.classLink RX11 142 "java/lang/IndexOutOfBoundsException", .initialized "java/lang/IndexOutOfBoundsException"] ++ ((vx_at0 RX11 144 "java/lang/IndexOutOfBoundsException" ["java/lang/RuntimeException", "java/lang/Exception"]).filter goodWord ++ ([])))
set_option maxHeartbeats 4000000 in
set_option maxRecDepth 100000 in
theorem c_X11_hash_1hi (l : Launch) (hl0 : l.stackTraces = false) (D : va_G) (y : Nat → ClassId) (sz : Nat) (h0 : Nat) (w1 : Value) (w2 : Value) (w3 : Value) (w4 : Value) (w5 : Value) (w6 : Value) (w7 : Value) (w8 : Value) (w9 : Value) (w10 : Value) (w11 : Value) (w12 : Value) (w13 : Value) (w14 : Value) (w15 : Value) (i : Int32) (h1 : ¬ i < 0) (h2 : ¬ i < 20) : vx_Met l yX11_hash wz_c_X11_hash_1hi ({ frames := 6, cells := 1, slots := 6, locals := 81 }) (va_Pc [.ref h0, .int 1, .int i] (zB D y [(h0, .inr (15, [w1, w2, w3, w4, w5, w6, w7, w8, w9, w10, w11, w12, w13, w14, w15]))] sz [.declares (Bundle.init0 "java/lang/RuntimeException"), .declares (Bundle.init0 "java/lang/Exception"), .declares (Bundle.init0 "java/lang/Throwable"), .castable "java/lang/IndexOutOfBoundsException" "java/lang/IndexOutOfBoundsException"] [] zTh [])) (va_Qi (fun (r : Int32) (_ : Unit) => False) (fun _ t => va_P D vwCl [(h0, .inr (15, [w1, w2, w3, w4, w5, w6, w7, w8, w9, w10, w11, w12, w13, w14, w15]))] t.heap ∧ va_D (va_A [(h0, .inr (15, [w1, w2, w3, w4, w5, w6, w7, w8, w9, w10, w11, w12, w13, w14, w15]))] sz) [(h0, .inr (15, [w1, w2, w3, w4, w5, w6, w7, w8, w9, w10, w11, w12, w13, w14, w15]))]) (va_A [(h0, .inr (15, [w1, w2, w3, w4, w5, w6, w7, w8, w9, w10, w11, w12, w13, w14, w15]))] sz)) (vx_X (fun _ : Unit => True) (fun E _ _ => E = "java/lang/IndexOutOfBoundsException") (va_A [(h0, .inr (15, [w1, w2, w3, w4, w5, w6, w7, w8, w9, w10, w11, w12, w13, w14, w15]))] sz)) 1 6 (va_A [(h0, .inr (15, [w1, w2, w3, w4, w5, w6, w7, w8, w9, w10, w11, w12, w13, w14, w15]))] sz) := by
  refine vx_ofW (cc := cX11_hash) (maxL := 3) (ret := (some .int)) (by decide) rfl ?_
  intro p e s m args below meth c s₁ B hml hnt hv
  obtain ⟨rfl, hsz, hP, hK, hD0, hN, hE, hO, hT, hG⟩ := hv
  have hx := B.exec
  have hb := B.bytes
  have hr := B.returns
  have hts := atoms_spec (ws := wz_c_X11_hash_1hi) B.pre
  have hown : s.vm.findClass RX11 = some m.cls := findClass_of_methodNamed B.named
  have hlocks := B.notSynchronized
  subst hsz
  have hD := hD0.self (sz := s.heap.size)
  generalize hAe : va_A [(h0, .inr (15, [w1, w2, w3, w4, w5, w6, w7, w8, w9, w10, w11, w12, w13, w14, w15]))] s.heap.size = A at hD hE hT hG ⊢
  have hA : ∀ q : Nat, s.heap.size ≤ q → A q := fun q h => by rw [← hAe]; exact Or.inr h
  have hS : va_S A s.heap s.heap [] := va_S.rf
  have hl := lv_entry ([.ref h0, .int 1, .int i]) (n := 3) (Nat.le_of_ble_eq_true rfl)
  rw [lg_entry_eq]
  generalize (lg_sl ([.ref h0, .int 1, .int i]) ++ List.replicate (3 - (lg_sl ([.ref h0, .int 1, .int i])).length) Slot.unset).toArray = ls at hl ⊢
  have hl : lv_has ls 3 [(0, .ref h0), (1, .int 1), (2, .int i)] := hl
  refine lv_iload_n hx hb dX11_hash_0 rfl (lv_at hl 1 rfl) ?_
  refine lv_iconst (v := 1) hx hb dX11_hash_1 (by decide) ?_
  refine lv_icmp_eq (tgt := 18) hx hb dX11_hash_2 (by decide) (fun _ => ?_) (fun c9 => absurd (by decide) c9)
  refine lv_iload_n hx hb dX11_hash_18 rfl (lv_at hl 2 rfl) ?_
  refine lv_if_lt (tgt := 38) hx hb dX11_hash_19 (by decide) (fun c9 => absurd c9 h1) (fun _ => ?_)
  refine lv_iload_n hx hb dX11_hash_22 rfl (lv_at hl 2 rfl) ?_
  refine lv_iload_n hx hb dX11_hash_23 rfl (lv_at hl 1 rfl) ?_
  refine lv_iconst (v := 1) hx hb dX11_hash_24 (by decide) ?_
  refine lv_icmp_ne (tgt := 33) hx hb dX11_hash_25 (by decide) (fun c9 => absurd (by decide) c9) (fun _ => ?_)
  refine lv_bipush (v := 20) hx hb dX11_hash_28 (by decide) ?_
  refine lv_goto (tgt := 35) hx hb dX11_hash_30 (by decide) ?_
  refine lv_icmp_lt (tgt := 46) hx hb dX11_hash_35 (by decide) (fun c9 => absurd c9 h2) (fun _ => ?_)
  exact vx_throw0 (names := ["java/lang/RuntimeException", "java/lang/Exception"]) (cls := "java/lang/IndexOutOfBoundsException") hx hb hl0 hown (by decide) (by decide) (hts (.classLink RX11 142 "java/lang/IndexOutOfBoundsException") (by decide +kernel)) (hts (.initialized "java/lang/IndexOutOfBoundsException") (by decide +kernel)) (vx_hat (L := (vx_at0 RX11 144 "java/lang/IndexOutOfBoundsException" ["java/lang/RuntimeException", "java/lang/Exception"])) (B := [.declares (Bundle.init0 "java/lang/RuntimeException"), .declares (Bundle.init0 "java/lang/Exception"), .declares (Bundle.init0 "java/lang/Throwable"), .castable "java/lang/IndexOutOfBoundsException" "java/lang/IndexOutOfBoundsException"]) (fun w hw => hts w (List.mem_cons_of_mem _ (List.mem_append_right _ (List.mem_append_left _ hw)))) (by decide +kernel) (hN.words (List.forall_mem_cons.mpr ⟨List.mem_of_getElem? (i := 0) rfl, (List.forall_mem_cons.mpr ⟨List.mem_of_getElem? (i := 1) rfl, (List.forall_mem_cons.mpr ⟨List.mem_of_getElem? (i := 2) rfl, (List.forall_mem_cons.mpr ⟨List.mem_of_getElem? (i := 3) rfl, (fun _ h => nomatch h)⟩)⟩)⟩)⟩))) (by decide +kernel) (hT _ (List.mem_of_getElem? (i := 0) rfl)) (hT _ (List.mem_of_getElem? (i := 1) rfl)) hS (hl.1.trans hml.symm) dX11_hash_38 dX11_hash_41 dX11_hash_42 dX11_hash_45 (fun x h => (hnt x h).elim) (Nat.le_of_ble_eq_true rfl) (Nat.le_of_ble_eq_true rfl) (Nat.le_of_ble_eq_true rfl) (Nat.le_of_ble_eq_true rfl) hlocks (fun t _ hz hq => ⟨(), trivial, rfl, ⟨Nat.le_trans hS.1 hz, fun q h1 h2 => (hq q (Nat.lt_of_lt_of_le h1 hS.1)).trans (hS.2.1 q h1 h2)⟩⟩) hS.2.2 (Nat.le_of_ble_eq_true rfl) (Nat.le_of_ble_eq_true rfl)
def wz_c_X11_hash_2lo : List Cond := .code yX11_hash cX11_hash 3 (some .int) :: ([.classLink RX11 142 "java/lang/IndexOutOfBoundsException", .initialized "java/lang/IndexOutOfBoundsException"] ++ ((vx_at0 RX11 144 "java/lang/IndexOutOfBoundsException" ["java/lang/RuntimeException", "java/lang/Exception"]).filter goodWord ++ ([])))
set_option maxHeartbeats 4000000 in
set_option maxRecDepth 100000 in
theorem c_X11_hash_2lo (l : Launch) (hl0 : l.stackTraces = false) (D : va_G) (y : Nat → ClassId) (sz : Nat) (h0 : Nat) (w1 : Value) (w2 : Value) (w3 : Value) (w4 : Value) (w5 : Value) (w6 : Value) (w7 : Value) (w8 : Value) (w9 : Value) (w10 : Value) (w11 : Value) (w12 : Value) (w13 : Value) (w14 : Value) (w15 : Value) (i : Int32) (h1 : i < 0) : vx_Met l yX11_hash wz_c_X11_hash_2lo ({ frames := 6, cells := 1, slots := 6, locals := 81 }) (va_Pc [.ref h0, .int 2, .int i] (zB D y [(h0, .inr (15, [w1, w2, w3, w4, w5, w6, w7, w8, w9, w10, w11, w12, w13, w14, w15]))] sz [.declares (Bundle.init0 "java/lang/RuntimeException"), .declares (Bundle.init0 "java/lang/Exception"), .declares (Bundle.init0 "java/lang/Throwable"), .castable "java/lang/IndexOutOfBoundsException" "java/lang/IndexOutOfBoundsException"] [] zTh [])) (va_Qi (fun (r : Int32) (_ : Unit) => False) (fun _ t => va_P D vwCl [(h0, .inr (15, [w1, w2, w3, w4, w5, w6, w7, w8, w9, w10, w11, w12, w13, w14, w15]))] t.heap ∧ va_D (va_A [(h0, .inr (15, [w1, w2, w3, w4, w5, w6, w7, w8, w9, w10, w11, w12, w13, w14, w15]))] sz) [(h0, .inr (15, [w1, w2, w3, w4, w5, w6, w7, w8, w9, w10, w11, w12, w13, w14, w15]))]) (va_A [(h0, .inr (15, [w1, w2, w3, w4, w5, w6, w7, w8, w9, w10, w11, w12, w13, w14, w15]))] sz)) (vx_X (fun _ : Unit => True) (fun E _ _ => E = "java/lang/IndexOutOfBoundsException") (va_A [(h0, .inr (15, [w1, w2, w3, w4, w5, w6, w7, w8, w9, w10, w11, w12, w13, w14, w15]))] sz)) 1 6 (va_A [(h0, .inr (15, [w1, w2, w3, w4, w5, w6, w7, w8, w9, w10, w11, w12, w13, w14, w15]))] sz) := by
  refine vx_ofW (cc := cX11_hash) (maxL := 3) (ret := (some .int)) (by decide) rfl ?_
  intro p e s m args below meth c s₁ B hml hnt hv
  obtain ⟨rfl, hsz, hP, hK, hD0, hN, hE, hO, hT, hG⟩ := hv
  have hx := B.exec
  have hb := B.bytes
  have hr := B.returns
  have hts := atoms_spec (ws := wz_c_X11_hash_2lo) B.pre
  have hown : s.vm.findClass RX11 = some m.cls := findClass_of_methodNamed B.named
  have hlocks := B.notSynchronized
  subst hsz
  have hD := hD0.self (sz := s.heap.size)
  generalize hAe : va_A [(h0, .inr (15, [w1, w2, w3, w4, w5, w6, w7, w8, w9, w10, w11, w12, w13, w14, w15]))] s.heap.size = A at hD hE hT hG ⊢
  have hA : ∀ q : Nat, s.heap.size ≤ q → A q := fun q h => by rw [← hAe]; exact Or.inr h
  have hS : va_S A s.heap s.heap [] := va_S.rf
  have hl := lv_entry ([.ref h0, .int 2, .int i]) (n := 3) (Nat.le_of_ble_eq_true rfl)
  rw [lg_entry_eq]
  generalize (lg_sl ([.ref h0, .int 2, .int i]) ++ List.replicate (3 - (lg_sl ([.ref h0, .int 2, .int i])).length) Slot.unset).toArray = ls at hl ⊢
  have hl : lv_has ls 3 [(0, .ref h0), (1, .int 2), (2, .int i)] := hl
  refine lv_iload_n hx hb dX11_hash_0 rfl (lv_at hl 1 rfl) ?_
  refine lv_iconst (v := 1) hx hb dX11_hash_1 (by decide) ?_
  refine lv_icmp_eq (tgt := 18) hx hb dX11_hash_2 (by decide) (fun c9 => absurd c9 (by decide)) (fun _ => ?_)
  refine lv_iload_n hx hb dX11_hash_5 rfl (lv_at hl 1 rfl) ?_
  refine lv_iconst (v := 2) hx hb dX11_hash_6 (by decide) ?_
  refine lv_icmp_eq (tgt := 18) hx hb dX11_hash_7 (by decide) (fun _ => ?_) (fun c9 => absurd (by decide) c9)
  refine lv_iload_n hx hb dX11_hash_18 rfl (lv_at hl 2 rfl) ?_
  refine lv_if_lt (tgt := 38) hx hb dX11_hash_19 (by decide) (fun _ => ?_) (fun c9 => absurd h1 c9)
  exact vx_throw0 (names := ["java/lang/RuntimeException", "java/lang/Exception"]) (cls := "java/lang/IndexOutOfBoundsException") hx hb hl0 hown (by decide) (by decide) (hts (.classLink RX11 142 "java/lang/IndexOutOfBoundsException") (by decide +kernel)) (hts (.initialized "java/lang/IndexOutOfBoundsException") (by decide +kernel)) (vx_hat (L := (vx_at0 RX11 144 "java/lang/IndexOutOfBoundsException" ["java/lang/RuntimeException", "java/lang/Exception"])) (B := [.declares (Bundle.init0 "java/lang/RuntimeException"), .declares (Bundle.init0 "java/lang/Exception"), .declares (Bundle.init0 "java/lang/Throwable"), .castable "java/lang/IndexOutOfBoundsException" "java/lang/IndexOutOfBoundsException"]) (fun w hw => hts w (List.mem_cons_of_mem _ (List.mem_append_right _ (List.mem_append_left _ hw)))) (by decide +kernel) (hN.words (List.forall_mem_cons.mpr ⟨List.mem_of_getElem? (i := 0) rfl, (List.forall_mem_cons.mpr ⟨List.mem_of_getElem? (i := 1) rfl, (List.forall_mem_cons.mpr ⟨List.mem_of_getElem? (i := 2) rfl, (List.forall_mem_cons.mpr ⟨List.mem_of_getElem? (i := 3) rfl, (fun _ h => nomatch h)⟩)⟩)⟩)⟩))) (by decide +kernel) (hT _ (List.mem_of_getElem? (i := 0) rfl)) (hT _ (List.mem_of_getElem? (i := 1) rfl)) hS (hl.1.trans hml.symm) dX11_hash_38 dX11_hash_41 dX11_hash_42 dX11_hash_45 (fun x h => (hnt x h).elim) (Nat.le_of_ble_eq_true rfl) (Nat.le_of_ble_eq_true rfl) (Nat.le_of_ble_eq_true rfl) (Nat.le_of_ble_eq_true rfl) hlocks (fun t _ hz hq => ⟨(), trivial, rfl, ⟨Nat.le_trans hS.1 hz, fun q h1 h2 => (hq q (Nat.lt_of_lt_of_le h1 hS.1)).trans (hS.2.1 q h1 h2)⟩⟩) hS.2.2 (Nat.le_of_ble_eq_true rfl) (Nat.le_of_ble_eq_true rfl)
def wz_c_X11_hash_2hi : List Cond := .code yX11_hash cX11_hash 3 (some .int) :: ([.classLink RX11 142 "java/lang/IndexOutOfBoundsException", .initialized "java/lang/IndexOutOfBoundsException"] ++ ((vx_at0 RX11 144 "java/lang/IndexOutOfBoundsException" ["java/lang/RuntimeException", "java/lang/Exception"]).filter goodWord ++ ([])))
set_option maxHeartbeats 4000000 in
set_option maxRecDepth 100000 in
theorem c_X11_hash_2hi (l : Launch) (hl0 : l.stackTraces = false) (D : va_G) (y : Nat → ClassId) (sz : Nat) (h0 : Nat) (w1 : Value) (w2 : Value) (w3 : Value) (w4 : Value) (w5 : Value) (w6 : Value) (w7 : Value) (w8 : Value) (w9 : Value) (w10 : Value) (w11 : Value) (w12 : Value) (w13 : Value) (w14 : Value) (w15 : Value) (i : Int32) (h1 : ¬ i < 0) (h2 : ¬ i < 32) : vx_Met l yX11_hash wz_c_X11_hash_2hi ({ frames := 6, cells := 1, slots := 6, locals := 81 }) (va_Pc [.ref h0, .int 2, .int i] (zB D y [(h0, .inr (15, [w1, w2, w3, w4, w5, w6, w7, w8, w9, w10, w11, w12, w13, w14, w15]))] sz [.declares (Bundle.init0 "java/lang/RuntimeException"), .declares (Bundle.init0 "java/lang/Exception"), .declares (Bundle.init0 "java/lang/Throwable"), .castable "java/lang/IndexOutOfBoundsException" "java/lang/IndexOutOfBoundsException"] [] zTh [])) (va_Qi (fun (r : Int32) (_ : Unit) => False) (fun _ t => va_P D vwCl [(h0, .inr (15, [w1, w2, w3, w4, w5, w6, w7, w8, w9, w10, w11, w12, w13, w14, w15]))] t.heap ∧ va_D (va_A [(h0, .inr (15, [w1, w2, w3, w4, w5, w6, w7, w8, w9, w10, w11, w12, w13, w14, w15]))] sz) [(h0, .inr (15, [w1, w2, w3, w4, w5, w6, w7, w8, w9, w10, w11, w12, w13, w14, w15]))]) (va_A [(h0, .inr (15, [w1, w2, w3, w4, w5, w6, w7, w8, w9, w10, w11, w12, w13, w14, w15]))] sz)) (vx_X (fun _ : Unit => True) (fun E _ _ => E = "java/lang/IndexOutOfBoundsException") (va_A [(h0, .inr (15, [w1, w2, w3, w4, w5, w6, w7, w8, w9, w10, w11, w12, w13, w14, w15]))] sz)) 1 6 (va_A [(h0, .inr (15, [w1, w2, w3, w4, w5, w6, w7, w8, w9, w10, w11, w12, w13, w14, w15]))] sz) := by
  refine vx_ofW (cc := cX11_hash) (maxL := 3) (ret := (some .int)) (by decide) rfl ?_
  intro p e s m args below meth c s₁ B hml hnt hv
  obtain ⟨rfl, hsz, hP, hK, hD0, hN, hE, hO, hT, hG⟩ := hv
  have hx := B.exec
  have hb := B.bytes
  have hr := B.returns
  have hts := atoms_spec (ws := wz_c_X11_hash_2hi) B.pre
  have hown : s.vm.findClass RX11 = some m.cls := findClass_of_methodNamed B.named
  have hlocks := B.notSynchronized
  subst hsz
  have hD := hD0.self (sz := s.heap.size)
  generalize hAe : va_A [(h0, .inr (15, [w1, w2, w3, w4, w5, w6, w7, w8, w9, w10, w11, w12, w13, w14, w15]))] s.heap.size = A at hD hE hT hG ⊢
  have hA : ∀ q : Nat, s.heap.size ≤ q → A q := fun q h => by rw [← hAe]; exact Or.inr h
  have hS : va_S A s.heap s.heap [] := va_S.rf
  have hl := lv_entry ([.ref h0, .int 2, .int i]) (n := 3) (Nat.le_of_ble_eq_true rfl)
  rw [lg_entry_eq]
  generalize (lg_sl ([.ref h0, .int 2, .int i]) ++ List.replicate (3 - (lg_sl ([.ref h0, .int 2, .int i])).length) Slot.unset).toArray = ls at hl ⊢
  have hl : lv_has ls 3 [(0, .ref h0), (1, .int 2), (2, .int i)] := hl
  refine lv_iload_n hx hb dX11_hash_0 rfl (lv_at hl 1 rfl) ?_
  refine lv_iconst (v := 1) hx hb dX11_hash_1 (by decide) ?_
  refine lv_icmp_eq (tgt := 18) hx hb dX11_hash_2 (by decide) (fun c9 => absurd c9 (by decide)) (fun _ => ?_)
  refine lv_iload_n hx hb dX11_hash_5 rfl (lv_at hl 1 rfl) ?_
  refine lv_iconst (v := 2) hx hb dX11_hash_6 (by decide) ?_
  refine lv_icmp_eq (tgt := 18) hx hb dX11_hash_7 (by decide) (fun _ => ?_) (fun c9 => absurd (by decide) c9)
  refine lv_iload_n hx hb dX11_hash_18 rfl (lv_at hl 2 rfl) ?_
  refine lv_if_lt (tgt := 38) hx hb dX11_hash_19 (by decide) (fun c9 => absurd c9 h1) (fun _ => ?_)
  refine lv_iload_n hx hb dX11_hash_22 rfl (lv_at hl 2 rfl) ?_
  refine lv_iload_n hx hb dX11_hash_23 rfl (lv_at hl 1 rfl) ?_
  refine lv_iconst (v := 1) hx hb dX11_hash_24 (by decide) ?_
  refine lv_icmp_ne (tgt := 33) hx hb dX11_hash_25 (by decide) (fun _ => ?_) (fun c9 => absurd c9 (by decide))
  refine lv_bipush (v := 32) hx hb dX11_hash_33 (by decide) ?_
  refine lv_icmp_lt (tgt := 46) hx hb dX11_hash_35 (by decide) (fun c9 => absurd c9 h2) (fun _ => ?_)
  exact vx_throw0 (names := ["java/lang/RuntimeException", "java/lang/Exception"]) (cls := "java/lang/IndexOutOfBoundsException") hx hb hl0 hown (by decide) (by decide) (hts (.classLink RX11 142 "java/lang/IndexOutOfBoundsException") (by decide +kernel)) (hts (.initialized "java/lang/IndexOutOfBoundsException") (by decide +kernel)) (vx_hat (L := (vx_at0 RX11 144 "java/lang/IndexOutOfBoundsException" ["java/lang/RuntimeException", "java/lang/Exception"])) (B := [.declares (Bundle.init0 "java/lang/RuntimeException"), .declares (Bundle.init0 "java/lang/Exception"), .declares (Bundle.init0 "java/lang/Throwable"), .castable "java/lang/IndexOutOfBoundsException" "java/lang/IndexOutOfBoundsException"]) (fun w hw => hts w (List.mem_cons_of_mem _ (List.mem_append_right _ (List.mem_append_left _ hw)))) (by decide +kernel) (hN.words (List.forall_mem_cons.mpr ⟨List.mem_of_getElem? (i := 0) rfl, (List.forall_mem_cons.mpr ⟨List.mem_of_getElem? (i := 1) rfl, (List.forall_mem_cons.mpr ⟨List.mem_of_getElem? (i := 2) rfl, (List.forall_mem_cons.mpr ⟨List.mem_of_getElem? (i := 3) rfl, (fun _ h => nomatch h)⟩)⟩)⟩)⟩))) (by decide +kernel) (hT _ (List.mem_of_getElem? (i := 0) rfl)) (hT _ (List.mem_of_getElem? (i := 1) rfl)) hS (hl.1.trans hml.symm) dX11_hash_38 dX11_hash_41 dX11_hash_42 dX11_hash_45 (fun x h => (hnt x h).elim) (Nat.le_of_ble_eq_true rfl) (Nat.le_of_ble_eq_true rfl) (Nat.le_of_ble_eq_true rfl) (Nat.le_of_ble_eq_true rfl) hlocks (fun t _ hz hq => ⟨(), trivial, rfl, ⟨Nat.le_trans hS.1 hz, fun q h1 h2 => (hq q (Nat.lt_of_lt_of_le h1 hS.1)).trans (hS.2.1 q h1 h2)⟩⟩) hS.2.2 (Nat.le_of_ble_eq_true rfl) (Nat.le_of_ble_eq_true rfl)

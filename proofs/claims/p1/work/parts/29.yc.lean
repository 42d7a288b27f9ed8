def wz_c_ens_16_11 : List Cond := .code yJ5_ensureCapacityInternal_d00df cJ5_ensureCapacityInternal_d00df 3 none :: ([.fieldLink RJ5 15 "java/lang/AbstractStringBuilder" "value" "[B", .fieldLink RJ5 22 "java/lang/AbstractStringBuilder" "coder" "B"] ++ (wsJ40 ++ ([])))
set_option maxHeartbeats 4000000 in
set_option maxRecDepth 100000 in
theorem c_ens_16_11 (l : Launch) (D : va_G) (y : Nat → ClassId) (sz : Nat) (h0 : Nat) (bv : Nat) (w1 : Value) (w2 : Value) (g : Nat → Int32) : Met l yJ5_ensureCapacityInternal_d00df wz_c_ens_16_11 ({ frames := 0, cells := 0, slots := 0, locals := 0 }) (va_Pc [.ref h0, .int 11] (zB D y [(h0, .inr (1, [.ref bv, .int 0, w1, w2])), (bv, .inl (y 0, 16, .inl g))] sz [] [] [] [])) (va_Qv (fun _ : Unit => True) (fun _ t => va_P D vwCl [(h0, .inr (1, [.ref bv, .int 0, w1, w2])), (bv, .inl (y 0, 16, .inl g))] t.heap ∧ va_D (va_A [(h0, .inr (1, [.ref bv, .int 0, w1, w2])), (bv, .inl (y 0, 16, .inl g))] sz) [(h0, .inr (1, [.ref bv, .int 0, w1, w2])), (bv, .inl (y 0, 16, .inl g))]) (va_A [(h0, .inr (1, [.ref bv, .int 0, w1, w2])), (bv, .inl (y 0, 16, .inl g))] sz)) 0 0 (va_A [(h0, .inr (1, [.ref bv, .int 0, w1, w2])), (bv, .inl (y 0, 16, .inl g))] sz) := by
  refine Met.ofW (cc := cJ5_ensureCapacityInternal_d00df) (maxL := 3) (ret := none) (by decide) rfl ?_
  intro p e s m args below meth c s₁ B hml hv
  obtain ⟨rfl, hsz, hP, hK, hD0, hN, hE, hO, hT, hG⟩ := hv
  have hx := B.exec
  have hb := B.bytes
  have hr := B.returns
  have hts := atoms_spec (ws := wz_c_ens_16_11) B.pre
  have hown : s.vm.findClass RJ5 = some m.cls := findClass_of_methodNamed B.named
  have hlocks := B.notSynchronized
  subst hsz
  have hD := hD0.self (sz := s.heap.size)
  generalize hAe : va_A [(h0, .inr (1, [.ref bv, .int 0, w1, w2])), (bv, .inl (y 0, 16, .inl g))] s.heap.size = A at hD hE hT hG ⊢
  have hA : ∀ q : Nat, s.heap.size ≤ q → A q := fun q h => by rw [← hAe]; exact Or.inr h
  have hS : va_S A s.heap s.heap [] := va_S.rf
  have hl := lv_entry ([.ref h0, .int 11]) (n := 3) (Nat.le_of_ble_eq_true rfl)
  rw [lg_entry_eq]
  generalize (lg_sl ([.ref h0, .int 11]) ++ List.replicate (3 - (lg_sl ([.ref h0, .int 11])).length) Slot.unset).toArray = ls at hl ⊢
  have hl : lv_has ls 3 [(0, .ref h0), (1, .int 11)] := hl
  refine lv_aload_n hx hb dJ5_ensureCapacityInternal_d00df_0 rfl (lv_at hl 0 rfl) ?_
  refine va_get (D := D) (ci := 1) (v := .ref bv) (C := RJ4) (T := TJ4) (N := 4) hx hb hts (by decide +kernel) hown hK hP 0 rfl rfl 0 (by decide) (hts (.fieldLink RJ5 15 "java/lang/AbstractStringBuilder" "value" "[B") (by decide +kernel)) (fun _ h9 => h9) rfl dJ5_ensureCapacityInternal_d00df_1 ?_
  refine va_alen (v := 16) hx hb hK hP 1 0 rfl rfl (show Int32.ofNat 16 = (16 : Int32) from by decide) dJ5_ensureCapacityInternal_d00df_4 ?_
  refine lv_aload_n hx hb dJ5_ensureCapacityInternal_d00df_5 rfl (lv_at hl 0 rfl) ?_
  refine va_get (D := D) (ci := 1) (v := .int 0) (C := RJ4) (T := TJ4) (N := 4) hx hb hts (by decide +kernel) hown hK hP 0 rfl rfl 1 (by decide) (hts (.fieldLink RJ5 22 "java/lang/AbstractStringBuilder" "coder" "B") (by decide +kernel)) (fun _ h9 => h9) rfl dJ5_ensureCapacityInternal_d00df_6 ?_
  refine lv_ishr hx hb dJ5_ensureCapacityInternal_d00df_9 ?_
  refine lv_topi (fun v1 ev1 => ?_)
  have ev1 : v1 = 16 := ev1.trans (by decide +kernel)
  subst ev1
  refine lv_istore_n (lv' := [(2, .int 16), (0, .ref h0), (1, .int 11)]) hx hb dJ5_ensureCapacityInternal_d00df_10 rfl hl (by decide) rfl (fun ls hl => ?_)
  refine lv_iload_n hx hb dJ5_ensureCapacityInternal_d00df_11 rfl (lv_at hl 2 rfl) ?_
  refine lv_iload_n hx hb dJ5_ensureCapacityInternal_d00df_12 rfl (lv_at hl 0 rfl) ?_
  refine lv_isub hx hb dJ5_ensureCapacityInternal_d00df_13 ?_
  refine lv_topi (fun v2 ev2 => ?_)
  have ev2 : v2 = -5 := ev2.trans (by decide +kernel)
  subst ev2
  refine lv_if_le (tgt := 38) hx hb dJ5_ensureCapacityInternal_d00df_14 (by decide) (fun _ => ?_) (fun c9 => absurd (by decide) c9)
  have hP9 := hP.sub (ws' := [(h0, .inr (1, [.ref bv, .int 0, w1, w2])), (bv, .inl (y 0, 16, .inl g))]) [0, 1] rfl
  have hD9 := hD.sub (ws' := [(h0, .inr (1, [.ref bv, .int 0, w1, w2])), (bv, .inl (y 0, 16, .inl g))]) [0, 1] (by decide) rfl
  refine W.widen (k := 0) (n := 0) (Nat.le_of_ble_eq_true rfl) (Nat.le_of_ble_eq_true rfl) ?_
  exact W.vret hx hb hr (fun t ht hW => ⟨⟨(), rfl, trivial, by rw [ht]; exact hP9, hD9⟩, hS.F ht⟩) hS.2.2 dJ5_ensureCapacityInternal_d00df_38
def wz_c_getBytes_6_0_16 : List Cond := .code yJ0_getBytes_840e7 cJ0_getBytes_840e7 4 none :: ([.methodLink RJ0 335 yJ0_coder_7d493, .instanceMethod yJ0_coder_7d493, .selects RJ0 yJ0_coder_7d493 yJ0_coder_7d493, .initialized RJ0, .fieldLink RJ0 9 "java/lang/String" "value" "[B", .methodLink RJ0 212 arraycopyName, .native arraycopyName, .static arraycopyName, .initialized "java/lang/System"] ++ (wz_c_coder_o ++ ([])))
set_option maxRecDepth 100000 in
theorem gz_c_getBytes_6_0_16_c_coder_o : GoodIn wz_c_getBytes_6_0_16 wz_c_coder_o := goodIn_sub (fun w h => List.mem_cons_of_mem _ (List.mem_append_right _ (List.mem_append_left _ h))) (by decide +kernel)
set_option maxRecDepth 100000 in
theorem gv_c_getBytes_6_0_16_c_coder_o_335 : GoodIn wz_c_getBytes_6_0_16 (wsV RJ0 335 RJ0 yJ0_coder_7d493 wz_c_coder_o) := goodIn_app (goodIn_of _ (by decide +kernel)) gz_c_getBytes_6_0_16_c_coder_o
set_option maxHeartbeats 4000000 in
set_option maxRecDepth 100000 in
theorem c_getBytes_6_0_16 (l : Launch) (D : va_G) (y : Nat → ClassId) (sz : Nat) (bv : Nat) (sx : Nat) (tx : Nat) (g : Nat → Int32) : Met l yJ0_getBytes_840e7 wz_c_getBytes_6_0_16 ({ frames := 1, cells := 0, slots := 0, locals := 60 }) (va_Pc [.ref sx, .ref bv, .int 0, .int 0] (zB D y [(bv, .inl (y 0, 16, .inl g))] sz [] [("java/lang/String", "COMPACT_STRINGS", "Z", .int 1)] [] [.inr (.inl (sx, tx, 11, zs6))])) (va_Qv (fun _ : Unit => True) (fun _ t => va_P D vwCl [(bv, .inl (y 0, 16, .inl (va_cpy zs6 g (0 : Int32).toNatClampNeg (0 : Int32).toNatClampNeg (11 : Int32).toNatClampNeg)))] t.heap ∧ va_D (va_A [(bv, .inl (y 0, 16, .inl g))] sz) [(bv, .inl (y 0, 16, .inl (va_cpy zs6 g (0 : Int32).toNatClampNeg (0 : Int32).toNatClampNeg (11 : Int32).toNatClampNeg)))]) (va_A [(bv, .inl (y 0, 16, .inl g))] sz)) 0 0 (va_A [(bv, .inl (y 0, 16, .inl g))] sz) := by
  refine Met.ofW (cc := cJ0_getBytes_840e7) (maxL := 4) (ret := none) (by decide) rfl ?_
  intro p e s m args below meth c s₁ B hml hv
  obtain ⟨rfl, hsz, hP, hK, hD0, hN, hE, hO, hT, hG⟩ := hv
  have hx := B.exec
  have hb := B.bytes
  have hr := B.returns
  have hts := atoms_spec (ws := wz_c_getBytes_6_0_16) B.pre
  have hown : s.vm.findClass RJ0 = some m.cls := findClass_of_methodNamed B.named
  have hlocks := B.notSynchronized
  subst hsz
  have hD := hD0.self (sz := s.heap.size)
  generalize hAe : va_A [(bv, .inl (y 0, 16, .inl g))] s.heap.size = A at hD hE hT hG ⊢
  have hA : ∀ q : Nat, s.heap.size ≤ q → A q := fun q h => by rw [← hAe]; exact Or.inr h
  have hS : va_S A s.heap s.heap [] := va_S.rf
  have hl := lv_entry ([.ref sx, .ref bv, .int 0, .int 0]) (n := 4) (Nat.le_of_ble_eq_true rfl)
  rw [lg_entry_eq]
  generalize (lg_sl ([.ref sx, .ref bv, .int 0, .int 0]) ++ List.replicate (4 - (lg_sl ([.ref sx, .ref bv, .int 0, .int 0])).length) Slot.unset).toArray = ls at hl ⊢
  have hl : lv_has ls 4 [(0, .ref sx), (1, .ref bv), (2, .int 0), (3, .int 0)] := hl
  refine lv_aload_n hx hb dJ0_getBytes_840e7_0 rfl (lv_at hl 0 rfl) ?_
  have hPc := hP.sub (ws' := []) [] rfl
  have hDc := hD.sub (ws' := []) [] (by decide) rfl
  have hFc := va_free (wc := []) hD hS hA [] rfl
  refine va_calli (va_runV (As := []) (rest := []) ⟨hx, hb, hml, hown, hts⟩ (c_coder_o l D y s.heap.size sx tx 11 zs6) (cwV 0 hts gv_c_getBytes_6_0_16_c_coder_o_335 rfl rfl rfl (by decide +kernel) ⟨(Nat.le_of_ble_eq_true rfl), (Nat.le_of_ble_eq_true rfl)⟩) (zB.preV hPc hDc hK hN hE hO hT hG hS hFc (fun _ h => nomatch h) (List.forall_mem_cons.mpr ⟨List.mem_of_getElem? (i := 0) rfl, (fun _ h => nomatch h)⟩) (fun _ h => nomatch h) (List.forall_mem_cons.mpr ⟨List.mem_of_getElem? (i := 0) rfl, (fun _ h => nomatch h)⟩) (zStr.recv (show zStr sx tx 11 zs6 A s s.heap from (hG (.inr (.inl (sx, tx, 11, zs6))) (List.mem_of_getElem? (i := 0) rfl))) hS)) rfl rfl hl.1 rfl (lv_room (Nat.le_of_ble_eq_true rfl)) dJ0_getBytes_840e7_1 ⟨(Nat.le_of_ble_eq_true rfl), (Nat.le_of_ble_eq_true rfl)⟩) hS (fun q _ h => hFc q h) hFc (fun r1 u t H1 locs ht hvm hw hB hz1 hk1 hS => ?_)
  obtain ⟨hP1, hD1⟩ := hB
  rw [ht] at hP1
  obtain ⟨hP, hD⟩ := va_join (wr := [(bv, .inl (y 0, 16, .inl g))]) (w1 := []) hP hD [] [0] rfl rfl (by decide) (by decide) hk1 hFc hP1 hD1
  generalize H1 = H at hP hS ⊢
  have hP : va_P D vwCl [(bv, .inl (y 0, 16, .inl g))] H := hP
  have hD : va_D A [(bv, .inl (y 0, 16, .inl g))] := hD
  have hw : r1 = 0 := hw
  subst hw
  refine lv_iload_n hx hb dJ0_getBytes_840e7_4 rfl (lv_at hl 3 rfl) ?_
  refine lv_icmp_ne (tgt := 28) hx hb dJ0_getBytes_840e7_5 (by decide) (fun c9 => absurd (by decide) c9) (fun _ => ?_)
  refine lv_aload_n hx hb dJ0_getBytes_840e7_8 rfl (lv_at hl 0 rfl) ?_
  refine vk_getf hx hb (show zStr sx tx 11 zs6 A s s.heap from (hG (.inr (.inl (sx, tx, 11, zs6))) (List.mem_of_getElem? (i := 0) rfl))).2.2.1 hS hown (hts (.fieldLink RJ0 9 "java/lang/String" "value" "[B") (by decide +kernel)) (fun _ h9 => h9) dJ0_getBytes_840e7_9 ?_
  refine lv_iconst (v := 0) hx hb dJ0_getBytes_840e7_12 (by decide) ?_
  refine lv_aload_n hx hb dJ0_getBytes_840e7_13 rfl (lv_at hl 1 rfl) ?_
  refine lv_iload_n hx hb dJ0_getBytes_840e7_14 rfl (lv_at hl 2 rfl) ?_
  refine lv_iload_n hx hb dJ0_getBytes_840e7_15 rfl (lv_at hl 3 rfl) ?_
  refine lv_ishl hx hb dJ0_getBytes_840e7_16 ?_
  refine lv_topi (fun v2 ev2 => ?_)
  have ev2 : v2 = 0 := ev2.trans (by decide +kernel)
  subst ev2
  refine lv_aload_n hx hb dJ0_getBytes_840e7_17 rfl (lv_at hl 0 rfl) ?_
  refine vk_getf hx hb (show zStr sx tx 11 zs6 A s s.heap from (hG (.inr (.inl (sx, tx, 11, zs6))) (List.mem_of_getElem? (i := 0) rfl))).2.2.1 hS hown (hts (.fieldLink RJ0 9 "java/lang/String" "value" "[B") (by decide +kernel)) (fun _ h9 => h9) dJ0_getBytes_840e7_18 ?_
  refine va_tlen (v := 11) hx hb (show zStr sx tx 11 zs6 A s s.heap from (hG (.inr (.inl (sx, tx, 11, zs6))) (List.mem_of_getElem? (i := 0) rfl))).2.2.2 hS (by decide) dJ0_getBytes_840e7_21 ?_
  refine vk_copyt (sp := 0) (dp := 0) (n := 11) (f := zs6) hx hb (hml.trans hl.1.symm) hown (hts (.methodLink RJ0 212 arraycopyName) (by decide +kernel)) (hts (.native arraycopyName) (by decide +kernel)) (hts (.static arraycopyName) (by decide +kernel)) (hts (.initialized "java/lang/System") (by decide +kernel)) hK hP hD hS (show zStr sx tx 11 zs6 A s s.heap from (hG (.inr (.inl (sx, tx, 11, zs6))) (List.mem_of_getElem? (i := 0) rfl))).2.2.2 0 0 rfl rfl (by decide +kernel) (by decide +kernel) (by decide +kernel) (by decide +kernel) (by decide +kernel) (by decide +kernel) (Nat.le_of_ble_eq_true rfl) (Nat.le_of_ble_eq_true rfl) dJ0_getBytes_840e7_22 (fun H locs hP hD hS => ?_)
  have hP : va_P D vwCl [(bv, .inl (y 0, 16, .inl (va_cpy zs6 g (0 : Int32).toNatClampNeg (0 : Int32).toNatClampNeg (11 : Int32).toNatClampNeg)))] H := hP
  have hD : va_D A [(bv, .inl (y 0, 16, .inl (va_cpy zs6 g (0 : Int32).toNatClampNeg (0 : Int32).toNatClampNeg (11 : Int32).toNatClampNeg)))] := hD
  refine lv_goto (tgt := 43) hx hb dJ0_getBytes_840e7_25 (by decide) ?_
  have hP9 := hP.sub (ws' := [(bv, .inl (y 0, 16, .inl (va_cpy zs6 g (0 : Int32).toNatClampNeg (0 : Int32).toNatClampNeg (11 : Int32).toNatClampNeg)))]) [0] rfl
  have hD9 := hD.sub (ws' := [(bv, .inl (y 0, 16, .inl (va_cpy zs6 g (0 : Int32).toNatClampNeg (0 : Int32).toNatClampNeg (11 : Int32).toNatClampNeg)))]) [0] (by decide) rfl
  refine W.widen (k := 0) (n := 0) (Nat.le_of_ble_eq_true rfl) (Nat.le_of_ble_eq_true rfl) ?_
  exact W.vret hx hb hr (fun t ht hW => ⟨⟨(), rfl, trivial, by rw [ht]; exact hP9, hD9⟩, hS.F ht⟩) hS.2.2 dJ0_getBytes_840e7_43
def wz_c_putStr_6_0_16 : List Cond := .code yJ5_putStringAt_47b60 cJ5_putStringAt_47b60 3 none :: ([.methodLink RJ5 397 ⟨"java/lang/AbstractStringBuilder", "inflateIfNeededFor", "(Ljava/lang/String;)V"⟩, .sameMethod "java/lang/AbstractStringBuilder" "java/lang/AbstractStringBuilder" "inflateIfNeededFor" "(Ljava/lang/String;)V", .selects RJ4 ⟨"java/lang/AbstractStringBuilder", "inflateIfNeededFor", "(Ljava/lang/String;)V"⟩ yJ5_inflateIfNeededFor_a7421, .instanceMethod yJ5_inflateIfNeededFor_a7421, .initialized RJ5, .fieldLink RJ5 15 "java/lang/AbstractStringBuilder" "value" "[B", .fieldLink RJ5 22 "java/lang/AbstractStringBuilder" "coder" "B", .methodLink RJ5 399 yJ0_getBytes_840e7, .instanceMethod yJ0_getBytes_840e7, .selects RJ0 yJ0_getBytes_840e7 yJ0_getBytes_840e7, .initialized RJ0] ++ (wsJ40 ++ (wz_c_inflIf ++ (wz_c_getBytes_6_0_16 ++ ([])))))
set_option maxRecDepth 100000 in
theorem gz_c_putStr_6_0_16_c_inflIf : GoodIn wz_c_putStr_6_0_16 wz_c_inflIf := goodIn_sub (fun w h => List.mem_cons_of_mem _ (List.mem_append_right _ (List.mem_append_right _ (List.mem_append_left _ h)))) (by decide +kernel)
set_option maxRecDepth 100000 in
theorem gz_c_putStr_6_0_16_c_getBytes_6_0_16 : GoodIn wz_c_putStr_6_0_16 wz_c_getBytes_6_0_16 := goodIn_sub (fun w h => List.mem_cons_of_mem _ (List.mem_append_right _ (List.mem_append_right _ (List.mem_append_right _ (List.mem_append_left _ h))))) (by decide +kernel)
set_option maxRecDepth 100000 in
theorem gv_c_putStr_6_0_16_c_inflIf_397 : GoodIn wz_c_putStr_6_0_16 (va_wsU RJ5 397 RJ4 "java/lang/AbstractStringBuilder" ⟨"java/lang/AbstractStringBuilder", "inflateIfNeededFor", "(Ljava/lang/String;)V"⟩ yJ5_inflateIfNeededFor_a7421 wz_c_inflIf) := goodIn_app (goodIn_of _ (by decide +kernel)) gz_c_putStr_6_0_16_c_inflIf
set_option maxRecDepth 100000 in
theorem gv_c_putStr_6_0_16_c_getBytes_6_0_16_399 : GoodIn wz_c_putStr_6_0_16 (wsV RJ5 399 RJ0 yJ0_getBytes_840e7 wz_c_getBytes_6_0_16) := goodIn_app (goodIn_of _ (by decide +kernel)) gz_c_putStr_6_0_16_c_getBytes_6_0_16
set_option maxHeartbeats 4000000 in
set_option maxRecDepth 100000 in
theorem c_putStr_6_0_16 (l : Launch) (D : va_G) (y : Nat → ClassId) (sz : Nat) (h0 : Nat) (bv : Nat) (w1 : Value) (w2 : Value) (sx : Nat) (tx : Nat) (g : Nat → Int32) : Met l yJ5_putStringAt_47b60 wz_c_putStr_6_0_16 ({ frames := 2, cells := 0, slots := 0, locals := 83 }) (va_Pc [.ref h0, .int 0, .ref sx] (zB D y [(h0, .inr (1, [.ref bv, .int 0, w1, w2])), (bv, .inl (y 0, 16, .inl g))] sz [] [("java/lang/String", "COMPACT_STRINGS", "Z", .int 1)] [] [.inr (.inl (sx, tx, 11, zs6))])) (va_Qv (fun _ : Unit => True) (fun _ t => va_P D vwCl [(h0, .inr (1, [.ref bv, .int 0, w1, w2])), (bv, .inl (y 0, 16, .inl (va_cpy zs6 g (0 : Int32).toNatClampNeg (0 : Int32).toNatClampNeg (11 : Int32).toNatClampNeg)))] t.heap ∧ va_D (va_A [(h0, .inr (1, [.ref bv, .int 0, w1, w2])), (bv, .inl (y 0, 16, .inl g))] sz) [(h0, .inr (1, [.ref bv, .int 0, w1, w2])), (bv, .inl (y 0, 16, .inl (va_cpy zs6 g (0 : Int32).toNatClampNeg (0 : Int32).toNatClampNeg (11 : Int32).toNatClampNeg)))]) (va_A [(h0, .inr (1, [.ref bv, .int 0, w1, w2])), (bv, .inl (y 0, 16, .inl g))] sz)) 0 0 (va_A [(h0, .inr (1, [.ref bv, .int 0, w1, w2])), (bv, .inl (y 0, 16, .inl g))] sz) := by
  refine Met.ofW (cc := cJ5_putStringAt_47b60) (maxL := 3) (ret := none) (by decide) rfl ?_
  intro p e s m args below meth c s₁ B hml hv
  obtain ⟨rfl, hsz, hP, hK, hD0, hN, hE, hO, hT, hG⟩ := hv
  have hx := B.exec
  have hb := B.bytes
  have hr := B.returns
  have hts := atoms_spec (ws := wz_c_putStr_6_0_16) B.pre
  have hown : s.vm.findClass RJ5 = some m.cls := findClass_of_methodNamed B.named
  have hlocks := B.notSynchronized
  subst hsz
  have hD := hD0.self (sz := s.heap.size)
  generalize hAe : va_A [(h0, .inr (1, [.ref bv, .int 0, w1, w2])), (bv, .inl (y 0, 16, .inl g))] s.heap.size = A at hD hE hT hG ⊢
  have hA : ∀ q : Nat, s.heap.size ≤ q → A q := fun q h => by rw [← hAe]; exact Or.inr h
  have hS : va_S A s.heap s.heap [] := va_S.rf
  have hl := lv_entry ([.ref h0, .int 0, .ref sx]) (n := 3) (Nat.le_of_ble_eq_true rfl)
  rw [lg_entry_eq]
  generalize (lg_sl ([.ref h0, .int 0, .ref sx]) ++ List.replicate (3 - (lg_sl ([.ref h0, .int 0, .ref sx])).length) Slot.unset).toArray = ls at hl ⊢
  have hl : lv_has ls 3 [(0, .ref h0), (1, .int 0), (2, .ref sx)] := hl
  refine lv_aload_n hx hb dJ5_putStringAt_47b60_0 rfl (lv_at hl 0 rfl) ?_
  refine lv_aload_n hx hb dJ5_putStringAt_47b60_1 rfl (lv_at hl 2 rfl) ?_
  have hPc := hP.sub (ws' := [(h0, .inr (1, [.ref bv, .int 0, w1, w2]))]) [0] rfl
  have hDc := hD.sub (ws' := [(h0, .inr (1, [.ref bv, .int 0, w1, w2]))]) [0] (by decide) rfl
  have hFc := va_free (wc := [(h0, .inr (1, [.ref bv, .int 0, w1, w2]))]) hD hS hA [0] rfl
  refine va_callv (va_runU (As := [.ref sx]) (rest := []) ⟨hx, hb, hml, hown, hts⟩ (c_inflIf l D y s.heap.size h0 ((.ref bv)) w1 w2 sx tx 11 zs6) (va_cwU 1 hts gv_c_putStr_6_0_16_c_inflIf_397 rfl rfl rfl rfl (by decide +kernel) ⟨(Nat.le_of_ble_eq_true rfl), (Nat.le_of_ble_eq_true rfl)⟩) (zB.preV hPc hDc hK hN hE hO hT hG hS hFc (fun _ h => nomatch h) (List.forall_mem_cons.mpr ⟨List.mem_of_getElem? (i := 0) rfl, (fun _ h => nomatch h)⟩) (fun _ h => nomatch h) (List.forall_mem_cons.mpr ⟨List.mem_of_getElem? (i := 0) rfl, (fun _ h => nomatch h)⟩) (va_recv hK hPc (ci := 1) (q0 := 0) rfl rfl)) rfl rfl hl.1 rfl (lv_room (Nat.le_of_ble_eq_true rfl)) dJ5_putStringAt_47b60_2 ⟨(Nat.le_of_ble_eq_true rfl), (Nat.le_of_ble_eq_true rfl)⟩) hS (fun q _ h => hFc q h) hFc (fun u t H1 locs ht hvm hw hB hz1 hk1 hS => ?_)
  obtain ⟨hP1, hD1⟩ := hB
  rw [ht] at hP1
  obtain ⟨hP, hD⟩ := va_join (wr := [(bv, .inl (y 0, 16, .inl g))]) (w1 := [(h0, .inr (1, [.ref bv, .int 0, w1, w2]))]) hP hD [0] [1] rfl rfl (by decide) (by decide) hk1 hFc hP1 hD1
  generalize H1 = H at hP hS ⊢
  have hP : va_P D vwCl [(bv, .inl (y 0, 16, .inl g)), (h0, .inr (1, [.ref bv, .int 0, w1, w2]))] H := hP
  have hD : va_D A [(bv, .inl (y 0, 16, .inl g)), (h0, .inr (1, [.ref bv, .int 0, w1, w2]))] := hD
  refine lv_aload_n hx hb dJ5_putStringAt_47b60_5 rfl (lv_at hl 2 rfl) ?_
  refine lv_aload_n hx hb dJ5_putStringAt_47b60_6 rfl (lv_at hl 0 rfl) ?_
  refine va_get (D := D) (ci := 1) (v := .ref bv) (C := RJ4) (T := TJ4) (N := 4) hx hb hts (by decide +kernel) hown hK hP 1 rfl rfl 0 (by decide) (hts (.fieldLink RJ5 15 "java/lang/AbstractStringBuilder" "value" "[B") (by decide +kernel)) (fun _ h9 => h9) rfl dJ5_putStringAt_47b60_7 ?_
  refine lv_iload_n hx hb dJ5_putStringAt_47b60_10 rfl (lv_at hl 1 rfl) ?_
  refine lv_aload_n hx hb dJ5_putStringAt_47b60_11 rfl (lv_at hl 0 rfl) ?_
  refine va_get (D := D) (ci := 1) (v := .int 0) (C := RJ4) (T := TJ4) (N := 4) hx hb hts (by decide +kernel) hown hK hP 1 rfl rfl 1 (by decide) (hts (.fieldLink RJ5 22 "java/lang/AbstractStringBuilder" "coder" "B") (by decide +kernel)) (fun _ h9 => h9) rfl dJ5_putStringAt_47b60_12 ?_
  have hPc := hP.sub (ws' := [(bv, .inl (y 0, 16, .inl g))]) [0] rfl
  have hDc := hD.sub (ws' := [(bv, .inl (y 0, 16, .inl g))]) [0] (by decide) rfl
  have hFc := va_free (wc := [(bv, .inl (y 0, 16, .inl g))]) hD hS hA [0] rfl
  refine va_callv (va_runV (As := [.ref bv, .int 0, .int 0]) (rest := []) ⟨hx, hb, hml, hown, hts⟩ (c_getBytes_6_0_16 l D y H.size bv sx tx g) (cwV 3 hts gv_c_putStr_6_0_16_c_getBytes_6_0_16_399 rfl rfl rfl (by decide +kernel) ⟨(Nat.le_of_ble_eq_true rfl), (Nat.le_of_ble_eq_true rfl)⟩) (zB.preV hPc hDc hK hN hE hO hT hG hS hFc (fun _ h => nomatch h) (List.forall_mem_cons.mpr ⟨List.mem_of_getElem? (i := 0) rfl, (fun _ h => nomatch h)⟩) (fun _ h => nomatch h) (List.forall_mem_cons.mpr ⟨List.mem_of_getElem? (i := 0) rfl, (fun _ h => nomatch h)⟩) (zStr.recv (show zStr sx tx 11 zs6 A s s.heap from (hG (.inr (.inl (sx, tx, 11, zs6))) (List.mem_of_getElem? (i := 0) rfl))) hS)) rfl rfl hl.1 rfl (lv_room (Nat.le_of_ble_eq_true rfl)) dJ5_putStringAt_47b60_15 ⟨(Nat.le_of_ble_eq_true rfl), (Nat.le_of_ble_eq_true rfl)⟩) hS (fun q _ h => hFc q h) hFc (fun u t H1 locs ht hvm hw hB hz1 hk1 hS => ?_)
  obtain ⟨hP1, hD1⟩ := hB
  rw [ht] at hP1
  obtain ⟨hP, hD⟩ := va_join (wr := [(h0, .inr (1, [.ref bv, .int 0, w1, w2]))]) (w1 := [(bv, .inl (y 0, 16, .inl (va_cpy zs6 g (0 : Int32).toNatClampNeg (0 : Int32).toNatClampNeg (11 : Int32).toNatClampNeg)))]) hP hD [0] [1] rfl rfl (by decide) (by decide) hk1 hFc hP1 hD1
  generalize H1 = H at hP hS ⊢
  have hP : va_P D vwCl [(h0, .inr (1, [.ref bv, .int 0, w1, w2])), (bv, .inl (y 0, 16, .inl (va_cpy zs6 g (0 : Int32).toNatClampNeg (0 : Int32).toNatClampNeg (11 : Int32).toNatClampNeg)))] H := hP
  have hD : va_D A [(h0, .inr (1, [.ref bv, .int 0, w1, w2])), (bv, .inl (y 0, 16, .inl (va_cpy zs6 g (0 : Int32).toNatClampNeg (0 : Int32).toNatClampNeg (11 : Int32).toNatClampNeg)))] := hD
  have hP9 := hP.sub (ws' := [(h0, .inr (1, [.ref bv, .int 0, w1, w2])), (bv, .inl (y 0, 16, .inl (va_cpy zs6 g (0 : Int32).toNatClampNeg (0 : Int32).toNatClampNeg (11 : Int32).toNatClampNeg)))]) [0, 1] rfl
  have hD9 := hD.sub (ws' := [(h0, .inr (1, [.ref bv, .int 0, w1, w2])), (bv, .inl (y 0, 16, .inl (va_cpy zs6 g (0 : Int32).toNatClampNeg (0 : Int32).toNatClampNeg (11 : Int32).toNatClampNeg)))]) [0, 1] (by decide) rfl
  refine W.widen (k := 0) (n := 0) (Nat.le_of_ble_eq_true rfl) (Nat.le_of_ble_eq_true rfl) ?_
  exact W.vret hx hb hr (fun t ht hW => ⟨⟨(), rfl, trivial, by rw [ht]; exact hP9, hD9⟩, hS.F ht⟩) hS.2.2 dJ5_putStringAt_47b60_18
def wz_c_ASBapp_6_0_16 : List Cond := .code yJ5_append_cf1ce cJ5_append_cf1ce 3 (some (.object "java/lang/AbstractStringBuilder")) :: ([.methodLink RJ5 32 yJ0_length_8abf5, .instanceMethod yJ0_length_8abf5, .selects RJ0 yJ0_length_8abf5 yJ0_length_8abf5, .initialized RJ0, .fieldLink RJ5 79 "java/lang/AbstractStringBuilder" "count" "I", .methodLink RJ5 100 ⟨"java/lang/AbstractStringBuilder", "ensureCapacityInternal", "(I)V"⟩, .sameMethod "java/lang/AbstractStringBuilder" "java/lang/AbstractStringBuilder" "ensureCapacityInternal" "(I)V", .selects RJ4 ⟨"java/lang/AbstractStringBuilder", "ensureCapacityInternal", "(I)V"⟩ yJ5_ensureCapacityInternal_d00df, .instanceMethod yJ5_ensureCapacityInternal_d00df, .initialized RJ5, .methodLink RJ5 208 ⟨"java/lang/AbstractStringBuilder", "putStringAt", "(ILjava/lang/String;)V"⟩, .sameMethod "java/lang/AbstractStringBuilder" "java/lang/AbstractStringBuilder" "putStringAt" "(ILjava/lang/String;)V", .selects RJ4 ⟨"java/lang/AbstractStringBuilder", "putStringAt", "(ILjava/lang/String;)V"⟩ yJ5_putStringAt_47b60, .instanceMethod yJ5_putStringAt_47b60] ++ (wsJ40 ++ (wz_c_len_o_11 ++ (wz_c_ens_16_11 ++ (wz_c_putStr_6_0_16 ++ ([]))))))
set_option maxRecDepth 100000 in
theorem gz_c_ASBapp_6_0_16_c_len_o_11 : GoodIn wz_c_ASBapp_6_0_16 wz_c_len_o_11 := goodIn_sub (fun w h => List.mem_cons_of_mem _ (List.mem_append_right _ (List.mem_append_right _ (List.mem_append_left _ h)))) (by decide +kernel)
set_option maxRecDepth 100000 in
theorem gz_c_ASBapp_6_0_16_c_ens_16_11 : GoodIn wz_c_ASBapp_6_0_16 wz_c_ens_16_11 := goodIn_sub (fun w h => List.mem_cons_of_mem _ (List.mem_append_right _ (List.mem_append_right _ (List.mem_append_right _ (List.mem_append_left _ h))))) (by decide +kernel)
set_option maxRecDepth 100000 in
theorem gz_c_ASBapp_6_0_16_c_putStr_6_0_16 : GoodIn wz_c_ASBapp_6_0_16 wz_c_putStr_6_0_16 := goodIn_sub (fun w h => List.mem_cons_of_mem _ (List.mem_append_right _ (List.mem_append_right _ (List.mem_append_right _ (List.mem_append_right _ (List.mem_append_left _ h)))))) (by decide +kernel)
set_option maxRecDepth 100000 in
theorem gv_c_ASBapp_6_0_16_c_len_o_11_32 : GoodIn wz_c_ASBapp_6_0_16 (wsV RJ5 32 RJ0 yJ0_length_8abf5 wz_c_len_o_11) := goodIn_app (goodIn_of _ (by decide +kernel)) gz_c_ASBapp_6_0_16_c_len_o_11
set_option maxRecDepth 100000 in
theorem gv_c_ASBapp_6_0_16_c_ens_16_11_100 : GoodIn wz_c_ASBapp_6_0_16 (va_wsU RJ5 100 RJ4 "java/lang/AbstractStringBuilder" ⟨"java/lang/AbstractStringBuilder", "ensureCapacityInternal", "(I)V"⟩ yJ5_ensureCapacityInternal_d00df wz_c_ens_16_11) := goodIn_app (goodIn_of _ (by decide +kernel)) gz_c_ASBapp_6_0_16_c_ens_16_11
set_option maxRecDepth 100000 in
theorem gv_c_ASBapp_6_0_16_c_putStr_6_0_16_208 : GoodIn wz_c_ASBapp_6_0_16 (va_wsU RJ5 208 RJ4 "java/lang/AbstractStringBuilder" ⟨"java/lang/AbstractStringBuilder", "putStringAt", "(ILjava/lang/String;)V"⟩ yJ5_putStringAt_47b60 wz_c_putStr_6_0_16) := goodIn_app (goodIn_of _ (by decide +kernel)) gz_c_ASBapp_6_0_16_c_putStr_6_0_16
set_option maxHeartbeats 4000000 in
set_option maxRecDepth 100000 in
theorem c_ASBapp_6_0_16 (l : Launch) (D : va_G) (y : Nat → ClassId) (sz : Nat) (h0 : Nat) (bv : Nat) (w1 : Value) (sx : Nat) (tx : Nat) (g : Nat → Int32) : Met l yJ5_append_cf1ce wz_c_ASBapp_6_0_16 ({ frames := 3, cells := 0, slots := 0, locals := 105 }) (va_Pc [.ref h0, .ref sx] (zB D y [(h0, .inr (1, [.ref bv, .int 0, w1, .int 0])), (bv, .inl (y 0, 16, .inl g))] sz [] [("java/lang/String", "COMPACT_STRINGS", "Z", .int 1)] [] [.inr (.inl (sx, tx, 11, zs6))])) (va_Qq (fun (r : Option Nat) (_ : Unit) => r = some h0) (fun _ t => va_P D vwCl [(h0, .inr (1, [.ref bv, .int 0, w1, .int 11])), (bv, .inl (y 0, 16, .inl (va_cpy zs6 g (0 : Int32).toNatClampNeg (0 : Int32).toNatClampNeg (11 : Int32).toNatClampNeg)))] t.heap ∧ va_D (va_A [(h0, .inr (1, [.ref bv, .int 0, w1, .int 0])), (bv, .inl (y 0, 16, .inl g))] sz) [(h0, .inr (1, [.ref bv, .int 0, w1, .int 11])), (bv, .inl (y 0, 16, .inl (va_cpy zs6 g (0 : Int32).toNatClampNeg (0 : Int32).toNatClampNeg (11 : Int32).toNatClampNeg)))]) (va_A [(h0, .inr (1, [.ref bv, .int 0, w1, .int 0])), (bv, .inl (y 0, 16, .inl g))] sz)) 0 0 (va_A [(h0, .inr (1, [.ref bv, .int 0, w1, .int 0])), (bv, .inl (y 0, 16, .inl g))] sz) := by
  refine Met.ofW (cc := cJ5_append_cf1ce) (maxL := 3) (ret := (some (.object "java/lang/AbstractStringBuilder"))) (by decide) rfl ?_
  intro p e s m args below meth c s₁ B hml hv
  obtain ⟨rfl, hsz, hP, hK, hD0, hN, hE, hO, hT, hG⟩ := hv
  have hx := B.exec
  have hb := B.bytes
  have hr := B.returns
  have hts := atoms_spec (ws := wz_c_ASBapp_6_0_16) B.pre
  have hown : s.vm.findClass RJ5 = some m.cls := findClass_of_methodNamed B.named
  have hlocks := B.notSynchronized
  subst hsz
  have hD := hD0.self (sz := s.heap.size)
  generalize hAe : va_A [(h0, .inr (1, [.ref bv, .int 0, w1, .int 0])), (bv, .inl (y 0, 16, .inl g))] s.heap.size = A at hD hE hT hG ⊢
  have hA : ∀ q : Nat, s.heap.size ≤ q → A q := fun q h => by rw [← hAe]; exact Or.inr h
  have hS : va_S A s.heap s.heap [] := va_S.rf
  have hl := lv_entry ([.ref h0, .ref sx]) (n := 3) (Nat.le_of_ble_eq_true rfl)
  rw [lg_entry_eq]
  generalize (lg_sl ([.ref h0, .ref sx]) ++ List.replicate (3 - (lg_sl ([.ref h0, .ref sx])).length) Slot.unset).toArray = ls at hl ⊢
  have hl : lv_has ls 3 [(0, .ref h0), (1, .ref sx)] := hl
  refine lv_aload_n hx hb dJ5_append_cf1ce_0 rfl (lv_at hl 1 rfl) ?_
  refine lv_ifnonnull (tgt := 9) hx hb dJ5_append_cf1ce_1 (by decide) ?_
  refine lv_aload_n hx hb dJ5_append_cf1ce_9 rfl (lv_at hl 1 rfl) ?_
  have hPc := hP.sub (ws' := []) [] rfl
  have hDc := hD.sub (ws' := []) [] (by decide) rfl
  have hFc := va_free (wc := []) hD hS hA [] rfl
  refine va_calli (va_runV (As := []) (rest := []) ⟨hx, hb, hml, hown, hts⟩ (c_len_o_11 l D y s.heap.size sx tx zs6) (cwV 0 hts gv_c_ASBapp_6_0_16_c_len_o_11_32 rfl rfl rfl (by decide +kernel) ⟨(Nat.le_of_ble_eq_true rfl), (Nat.le_of_ble_eq_true rfl)⟩) (zB.preV hPc hDc hK hN hE hO hT hG hS hFc (fun _ h => nomatch h) (List.forall_mem_cons.mpr ⟨List.mem_of_getElem? (i := 0) rfl, (fun _ h => nomatch h)⟩) (fun _ h => nomatch h) (List.forall_mem_cons.mpr ⟨List.mem_of_getElem? (i := 0) rfl, (fun _ h => nomatch h)⟩) (zStr.recv (show zStr sx tx 11 zs6 A s s.heap from (hG (.inr (.inl (sx, tx, 11, zs6))) (List.mem_of_getElem? (i := 0) rfl))) hS)) rfl rfl hl.1 rfl (lv_room (Nat.le_of_ble_eq_true rfl)) dJ5_append_cf1ce_10 ⟨(Nat.le_of_ble_eq_true rfl), (Nat.le_of_ble_eq_true rfl)⟩) hS (fun q _ h => hFc q h) hFc (fun r1 u t H1 locs ht hvm hw hB hz1 hk1 hS => ?_)
  obtain ⟨hP1, hD1⟩ := hB
  rw [ht] at hP1
  obtain ⟨hP, hD⟩ := va_join (wr := [(h0, .inr (1, [.ref bv, .int 0, w1, .int 0])), (bv, .inl (y 0, 16, .inl g))]) (w1 := []) hP hD [] [0, 1] rfl rfl (by decide) (by decide) hk1 hFc hP1 hD1
  generalize H1 = H at hP hS ⊢
  have hP : va_P D vwCl [(h0, .inr (1, [.ref bv, .int 0, w1, .int 0])), (bv, .inl (y 0, 16, .inl g))] H := hP
  have hD : va_D A [(h0, .inr (1, [.ref bv, .int 0, w1, .int 0])), (bv, .inl (y 0, 16, .inl g))] := hD
  have hw : r1 = 11 := hw
  subst hw
  refine lv_istore_n (lv' := [(2, .int 11), (0, .ref h0), (1, .ref sx)]) hx hb dJ5_append_cf1ce_13 rfl hl (by decide) rfl (fun ls hl => ?_)
  refine lv_aload_n hx hb dJ5_append_cf1ce_14 rfl (lv_at hl 1 rfl) ?_
  refine lv_aload_n hx hb dJ5_append_cf1ce_15 rfl (lv_at hl 1 rfl) ?_
  refine va_get (D := D) (ci := 1) (v := .int 0) (C := RJ4) (T := TJ4) (N := 4) hx hb hts (by decide +kernel) hown hK hP 0 rfl rfl 3 (by decide) (hts (.fieldLink RJ5 79 "java/lang/AbstractStringBuilder" "count" "I") (by decide +kernel)) (fun _ h9 => h9) rfl dJ5_append_cf1ce_16 ?_
  refine lv_iload_n hx hb dJ5_append_cf1ce_19 rfl (lv_at hl 0 rfl) ?_
  refine lv_iadd hx hb dJ5_append_cf1ce_20 ?_
  refine lv_topi (fun v2 ev2 => ?_)
  have ev2 : v2 = 11 := ev2.trans (by decide +kernel)
  subst ev2
  have hPc := hP.sub (ws' := [(h0, .inr (1, [.ref bv, .int 0, w1, .int 0])), (bv, .inl (y 0, 16, .inl g))]) [0, 1] rfl
  have hDc := hD.sub (ws' := [(h0, .inr (1, [.ref bv, .int 0, w1, .int 0])), (bv, .inl (y 0, 16, .inl g))]) [0, 1] (by decide) rfl
  have hFc := va_free (wc := [(h0, .inr (1, [.ref bv, .int 0, w1, .int 0])), (bv, .inl (y 0, 16, .inl g))]) hD hS hA [0, 1] rfl
  refine va_callv (va_runU (As := [.int 11]) (rest := []) ⟨hx, hb, hml, hown, hts⟩ (c_ens_16_11 l D y H.size h0 bv w1 ((.int 0)) g) (va_cwU 1 hts gv_c_ASBapp_6_0_16_c_ens_16_11_100 rfl rfl rfl rfl (by decide +kernel) ⟨(Nat.le_of_ble_eq_true rfl), (Nat.le_of_ble_eq_true rfl)⟩) (zB.preV hPc hDc hK hN hE hO hT hG hS hFc (fun _ h => nomatch h) (fun _ h => nomatch h) (fun _ h => nomatch h) (fun _ h => nomatch h) (va_recv hK hPc (ci := 1) (q0 := 0) rfl rfl)) rfl rfl hl.1 rfl (lv_room (Nat.le_of_ble_eq_true rfl)) dJ5_append_cf1ce_21 ⟨(Nat.le_of_ble_eq_true rfl), (Nat.le_of_ble_eq_true rfl)⟩) hS (fun q _ h => hFc q h) hFc (fun u t H1 locs ht hvm hw hB hz1 hk1 hS => ?_)
  obtain ⟨hP1, hD1⟩ := hB
  rw [ht] at hP1
  obtain ⟨hP, hD⟩ := va_join (wr := []) (w1 := [(h0, .inr (1, [.ref bv, .int 0, w1, .int 0])), (bv, .inl (y 0, 16, .inl g))]) hP hD [0, 1] [] rfl rfl (by decide) (by decide) hk1 hFc hP1 hD1
  generalize H1 = H at hP hS ⊢
  have hP : va_P D vwCl [(h0, .inr (1, [.ref bv, .int 0, w1, .int 0])), (bv, .inl (y 0, 16, .inl g))] H := hP
  have hD : va_D A [(h0, .inr (1, [.ref bv, .int 0, w1, .int 0])), (bv, .inl (y 0, 16, .inl g))] := hD
  refine lv_aload_n hx hb dJ5_append_cf1ce_24 rfl (lv_at hl 1 rfl) ?_
  refine lv_aload_n hx hb dJ5_append_cf1ce_25 rfl (lv_at hl 1 rfl) ?_
  refine va_get (D := D) (ci := 1) (v := .int 0) (C := RJ4) (T := TJ4) (N := 4) hx hb hts (by decide +kernel) hown hK hP 0 rfl rfl 3 (by decide) (hts (.fieldLink RJ5 79 "java/lang/AbstractStringBuilder" "count" "I") (by decide +kernel)) (fun _ h9 => h9) rfl dJ5_append_cf1ce_26 ?_
  refine lv_aload_n hx hb dJ5_append_cf1ce_29 rfl (lv_at hl 2 rfl) ?_
  have hPc := hP.sub (ws' := [(h0, .inr (1, [.ref bv, .int 0, w1, .int 0])), (bv, .inl (y 0, 16, .inl g))]) [0, 1] rfl
  have hDc := hD.sub (ws' := [(h0, .inr (1, [.ref bv, .int 0, w1, .int 0])), (bv, .inl (y 0, 16, .inl g))]) [0, 1] (by decide) rfl
  have hFc := va_free (wc := [(h0, .inr (1, [.ref bv, .int 0, w1, .int 0])), (bv, .inl (y 0, 16, .inl g))]) hD hS hA [0, 1] rfl
  refine va_callv (va_runU (As := [.int 0, .ref sx]) (rest := []) ⟨hx, hb, hml, hown, hts⟩ (c_putStr_6_0_16 l D y H.size h0 bv w1 ((.int 0)) sx tx g) (va_cwU 2 hts gv_c_ASBapp_6_0_16_c_putStr_6_0_16_208 rfl rfl rfl rfl (by decide +kernel) ⟨(Nat.le_of_ble_eq_true rfl), (Nat.le_of_ble_eq_true rfl)⟩) (zB.preV hPc hDc hK hN hE hO hT hG hS hFc (fun _ h => nomatch h) (List.forall_mem_cons.mpr ⟨List.mem_of_getElem? (i := 0) rfl, (fun _ h => nomatch h)⟩) (fun _ h => nomatch h) (List.forall_mem_cons.mpr ⟨List.mem_of_getElem? (i := 0) rfl, (fun _ h => nomatch h)⟩) (va_recv hK hPc (ci := 1) (q0 := 0) rfl rfl)) rfl rfl hl.1 rfl (lv_room (Nat.le_of_ble_eq_true rfl)) dJ5_append_cf1ce_30 ⟨(Nat.le_of_ble_eq_true rfl), (Nat.le_of_ble_eq_true rfl)⟩) hS (fun q _ h => hFc q h) hFc (fun u t H1 locs ht hvm hw hB hz1 hk1 hS => ?_)
  obtain ⟨hP1, hD1⟩ := hB
  rw [ht] at hP1
  obtain ⟨hP, hD⟩ := va_join (wr := []) (w1 := [(h0, .inr (1, [.ref bv, .int 0, w1, .int 0])), (bv, .inl (y 0, 16, .inl (va_cpy zs6 g (0 : Int32).toNatClampNeg (0 : Int32).toNatClampNeg (11 : Int32).toNatClampNeg)))]) hP hD [0, 1] [] rfl rfl (by decide) (by decide) hk1 hFc hP1 hD1
  generalize H1 = H at hP hS ⊢
  have hP : va_P D vwCl [(h0, .inr (1, [.ref bv, .int 0, w1, .int 0])), (bv, .inl (y 0, 16, .inl (va_cpy zs6 g (0 : Int32).toNatClampNeg (0 : Int32).toNatClampNeg (11 : Int32).toNatClampNeg)))] H := hP
  have hD : va_D A [(h0, .inr (1, [.ref bv, .int 0, w1, .int 0])), (bv, .inl (y 0, 16, .inl (va_cpy zs6 g (0 : Int32).toNatClampNeg (0 : Int32).toNatClampNeg (11 : Int32).toNatClampNeg)))] := hD
  refine lv_aload_n hx hb dJ5_append_cf1ce_33 rfl (lv_at hl 1 rfl) ?_
  refine lv_dup hx hb dJ5_append_cf1ce_34 rfl ?_
  refine va_get (D := D) (ci := 1) (v := .int 0) (C := RJ4) (T := TJ4) (N := 4) hx hb hts (by decide +kernel) hown hK hP 0 rfl rfl 3 (by decide) (hts (.fieldLink RJ5 79 "java/lang/AbstractStringBuilder" "count" "I") (by decide +kernel)) (fun _ h9 => h9) rfl dJ5_append_cf1ce_35 ?_
  refine lv_iload_n hx hb dJ5_append_cf1ce_38 rfl (lv_at hl 0 rfl) ?_
  refine lv_iadd hx hb dJ5_append_cf1ce_39 ?_
  refine lv_topi (fun v3 ev3 => ?_)
  have ev3 : v3 = 11 := ev3.trans (by decide +kernel)
  subst ev3
  refine va_put (D := D) (ci := 1) (v := .int 11) (ty := .int) (C := RJ4) (T := TJ4) (N := 4) hx hb hts (by decide +kernel) tyJ4 tyJ4_ok nmJ4 hown hK hP hD hS 0 rfl rfl 3 (by decide) (hts (.fieldLink RJ5 79 "java/lang/AbstractStringBuilder" "count" "I") (by decide +kernel)) (fun _ h9 => h9) rfl (by decide +kernel) rfl rfl (Nat.le_of_ble_eq_true rfl) dJ5_append_cf1ce_40 (fun H locs hP hD hS => ?_)
  have hP : va_P D vwCl [(h0, .inr (1, [.ref bv, .int 0, w1, .int 11])), (bv, .inl (y 0, 16, .inl (va_cpy zs6 g (0 : Int32).toNatClampNeg (0 : Int32).toNatClampNeg (11 : Int32).toNatClampNeg)))] H := hP
  have hD : va_D A [(h0, .inr (1, [.ref bv, .int 0, w1, .int 11])), (bv, .inl (y 0, 16, .inl (va_cpy zs6 g (0 : Int32).toNatClampNeg (0 : Int32).toNatClampNeg (11 : Int32).toNatClampNeg)))] := hD
  refine lv_aload_n hx hb dJ5_append_cf1ce_43 rfl (lv_at hl 1 rfl) ?_
  have hP9 := hP.sub (ws' := [(h0, .inr (1, [.ref bv, .int 0, w1, .int 11])), (bv, .inl (y 0, 16, .inl (va_cpy zs6 g (0 : Int32).toNatClampNeg (0 : Int32).toNatClampNeg (11 : Int32).toNatClampNeg)))]) [0, 1] rfl
  have hD9 := hD.sub (ws' := [(h0, .inr (1, [.ref bv, .int 0, w1, .int 11])), (bv, .inl (y 0, 16, .inl (va_cpy zs6 g (0 : Int32).toNatClampNeg (0 : Int32).toNatClampNeg (11 : Int32).toNatClampNeg)))]) [0, 1] (by decide) rfl
  refine W.widen (k := 0) (n := 0) (Nat.le_of_ble_eq_true rfl) (Nat.le_of_ble_eq_true rfl) ?_
  exact W.aret (v := .ref h0) hx hb hr (Or.inl ⟨_, rfl⟩) (Or.inr ⟨_, rfl⟩) (fun t ht hW => ⟨⟨(some h0), (), rfl, rfl, by rw [ht]; exact hP9, hD9⟩, hS.F ht⟩) hS.2.2 dJ5_append_cf1ce_44
def wz_c_SBapp_6_0_16 : List Cond := .code yJ4_append_15ec4 cJ4_append_15ec4 2 (some (.object "java/lang/StringBuilder")) :: ([.methodLink RJ4 29 yJ5_append_cf1ce, .sameMethod RJ5 RJ5 "append" "(Ljava/lang/String;)Ljava/lang/AbstractStringBuilder;", .superclass RJ4 RJ5, .instanceMethod yJ5_append_cf1ce, .initialized RJ5] ++ (wz_c_ASBapp_6_0_16 ++ ([])))
set_option maxRecDepth 100000 in
theorem gz_c_SBapp_6_0_16_c_ASBapp_6_0_16 : GoodIn wz_c_SBapp_6_0_16 wz_c_ASBapp_6_0_16 := goodIn_sub (fun w h => List.mem_cons_of_mem _ (List.mem_append_right _ (List.mem_append_left _ h))) (by decide +kernel)
set_option maxRecDepth 100000 in
theorem gv_c_SBapp_6_0_16_c_ASBapp_6_0_16_29 : GoodIn wz_c_SBapp_6_0_16 (va_wsSU RJ4 29 yJ5_append_cf1ce wz_c_ASBapp_6_0_16) := goodIn_app (goodIn_of _ (by decide +kernel)) gz_c_SBapp_6_0_16_c_ASBapp_6_0_16
set_option maxHeartbeats 4000000 in
set_option maxRecDepth 100000 in
theorem c_SBapp_6_0_16 (l : Launch) (D : va_G) (y : Nat → ClassId) (sz : Nat) (h0 : Nat) (bv : Nat) (w1 : Value) (sx : Nat) (tx : Nat) (g : Nat → Int32) : Met l yJ4_append_15ec4 wz_c_SBapp_6_0_16 ({ frames := 4, cells := 0, slots := 0, locals := 127 }) (va_Pc [.ref h0, .ref sx] (zB D y [(h0, .inr (1, [.ref bv, .int 0, w1, .int 0])), (bv, .inl (y 0, 16, .inl g))] sz [] [("java/lang/String", "COMPACT_STRINGS", "Z", .int 1)] [] [.inr (.inl (sx, tx, 11, zs6))])) (va_Qq (fun (r : Option Nat) (_ : Unit) => r = some h0) (fun _ t => va_P D vwCl [(h0, .inr (1, [.ref bv, .int 0, w1, .int 11])), (bv, .inl (y 0, 16, .inl (va_cpy zs6 g (0 : Int32).toNatClampNeg (0 : Int32).toNatClampNeg (11 : Int32).toNatClampNeg)))] t.heap ∧ va_D (va_A [(h0, .inr (1, [.ref bv, .int 0, w1, .int 0])), (bv, .inl (y 0, 16, .inl g))] sz) [(h0, .inr (1, [.ref bv, .int 0, w1, .int 11])), (bv, .inl (y 0, 16, .inl (va_cpy zs6 g (0 : Int32).toNatClampNeg (0 : Int32).toNatClampNeg (11 : Int32).toNatClampNeg)))]) (va_A [(h0, .inr (1, [.ref bv, .int 0, w1, .int 0])), (bv, .inl (y 0, 16, .inl g))] sz)) 0 0 (va_A [(h0, .inr (1, [.ref bv, .int 0, w1, .int 0])), (bv, .inl (y 0, 16, .inl g))] sz) := by
  refine Met.ofW (cc := cJ4_append_15ec4) (maxL := 2) (ret := (some (.object "java/lang/StringBuilder"))) (by decide) rfl ?_
  intro p e s m args below meth c s₁ B hml hv
  obtain ⟨rfl, hsz, hP, hK, hD0, hN, hE, hO, hT, hG⟩ := hv
  have hx := B.exec
  have hb := B.bytes
  have hr := B.returns
  have hts := atoms_spec (ws := wz_c_SBapp_6_0_16) B.pre
  have hown : s.vm.findClass RJ4 = some m.cls := findClass_of_methodNamed B.named
  have hlocks := B.notSynchronized
  subst hsz
  have hD := hD0.self (sz := s.heap.size)
  generalize hAe : va_A [(h0, .inr (1, [.ref bv, .int 0, w1, .int 0])), (bv, .inl (y 0, 16, .inl g))] s.heap.size = A at hD hE hT hG ⊢
  have hA : ∀ q : Nat, s.heap.size ≤ q → A q := fun q h => by rw [← hAe]; exact Or.inr h
  have hS : va_S A s.heap s.heap [] := va_S.rf
  have hl := lv_entry ([.ref h0, .ref sx]) (n := 2) (Nat.le_of_ble_eq_true rfl)
  rw [lg_entry_eq]
  generalize (lg_sl ([.ref h0, .ref sx]) ++ List.replicate (2 - (lg_sl ([.ref h0, .ref sx])).length) Slot.unset).toArray = ls at hl ⊢
  have hl : lv_has ls 2 [(0, .ref h0), (1, .ref sx)] := hl
  refine lv_aload_n hx hb dJ4_append_15ec4_0 rfl (lv_at hl 0 rfl) ?_
  refine lv_aload_n hx hb dJ4_append_15ec4_1 rfl (lv_at hl 1 rfl) ?_
  have hPc := hP.sub (ws' := [(h0, .inr (1, [.ref bv, .int 0, w1, .int 0])), (bv, .inl (y 0, 16, .inl g))]) [0, 1] rfl
  have hDc := hD.sub (ws' := [(h0, .inr (1, [.ref bv, .int 0, w1, .int 0])), (bv, .inl (y 0, 16, .inl g))]) [0, 1] (by decide) rfl
  have hFc := va_free (wc := [(h0, .inr (1, [.ref bv, .int 0, w1, .int 0])), (bv, .inl (y 0, 16, .inl g))]) hD hS hA [0, 1] rfl
  refine va_callq (va_runSU (hK.1 1 _ rfl).2 (As := [.ref sx]) (rest := []) ⟨hx, hb, hml, hown, hts⟩ (c_ASBapp_6_0_16 l D y s.heap.size h0 bv w1 sx tx g) (va_cwSU 1 hts gv_c_SBapp_6_0_16_c_ASBapp_6_0_16_29 rfl rfl rfl (by decide +kernel) ⟨(Nat.le_of_ble_eq_true rfl), (Nat.le_of_ble_eq_true rfl)⟩) (zB.preV hPc hDc hK hN hE hO hT hG hS hFc (fun _ h => nomatch h) (List.forall_mem_cons.mpr ⟨List.mem_of_getElem? (i := 0) rfl, (fun _ h => nomatch h)⟩) (fun _ h => nomatch h) (List.forall_mem_cons.mpr ⟨List.mem_of_getElem? (i := 0) rfl, (fun _ h => nomatch h)⟩) (va_recv hK hPc (ci := 1) (q0 := 0) rfl rfl)) rfl rfl hl.1 rfl (lv_room (Nat.le_of_ble_eq_true rfl)) dJ4_append_15ec4_2 ⟨(Nat.le_of_ble_eq_true rfl), (Nat.le_of_ble_eq_true rfl)⟩) hS (fun q _ h => hFc q h) hFc (fun r1 u t H1 locs ht hvm hw hB hz1 hk1 hS => ?_)
  obtain ⟨hP1, hD1⟩ := hB
  rw [ht] at hP1
  obtain ⟨hP, hD⟩ := va_join (wr := []) (w1 := [(h0, .inr (1, [.ref bv, .int 0, w1, .int 11])), (bv, .inl (y 0, 16, .inl (va_cpy zs6 g (0 : Int32).toNatClampNeg (0 : Int32).toNatClampNeg (11 : Int32).toNatClampNeg)))]) hP hD [0, 1] [] rfl rfl (by decide) (by decide) hk1 hFc hP1 hD1
  generalize H1 = H at hP hS ⊢
  have hP : va_P D vwCl [(h0, .inr (1, [.ref bv, .int 0, w1, .int 11])), (bv, .inl (y 0, 16, .inl (va_cpy zs6 g (0 : Int32).toNatClampNeg (0 : Int32).toNatClampNeg (11 : Int32).toNatClampNeg)))] H := hP
  have hD : va_D A [(h0, .inr (1, [.ref bv, .int 0, w1, .int 11])), (bv, .inl (y 0, 16, .inl (va_cpy zs6 g (0 : Int32).toNatClampNeg (0 : Int32).toNatClampNeg (11 : Int32).toNatClampNeg)))] := hD
  have hw : r1 = some h0 := hw
  subst hw
  refine W.eq (g2 := F0 m 5 ls [.ref h0]) rfl ?_
  refine lv_pop hx hb dJ4_append_15ec4_5 rfl ?_
  refine lv_aload_n hx hb dJ4_append_15ec4_6 rfl (lv_at hl 0 rfl) ?_
  have hP9 := hP.sub (ws' := [(h0, .inr (1, [.ref bv, .int 0, w1, .int 11])), (bv, .inl (y 0, 16, .inl (va_cpy zs6 g (0 : Int32).toNatClampNeg (0 : Int32).toNatClampNeg (11 : Int32).toNatClampNeg)))]) [0, 1] rfl
  have hD9 := hD.sub (ws' := [(h0, .inr (1, [.ref bv, .int 0, w1, .int 11])), (bv, .inl (y 0, 16, .inl (va_cpy zs6 g (0 : Int32).toNatClampNeg (0 : Int32).toNatClampNeg (11 : Int32).toNatClampNeg)))]) [0, 1] (by decide) rfl
  refine W.widen (k := 0) (n := 0) (Nat.le_of_ble_eq_true rfl) (Nat.le_of_ble_eq_true rfl) ?_
  exact W.aret (v := .ref h0) hx hb hr (Or.inl ⟨_, rfl⟩) (Or.inr ⟨_, rfl⟩) (fun t ht hW => ⟨⟨(some h0), (), rfl, rfl, by rw [ht]; exact hP9, hD9⟩, hS.F ht⟩) hS.2.2 dJ4_append_15ec4_7
def zk0 : Nat → Int32 := va_cpy zs6 (fun _ => 0) (0 : Int32).toNatClampNeg (0 : Int32).toNatClampNeg (11 : Int32).toNatClampNeg
def wz_c_newLen_22 : List Cond := .code yJ8_newLength_cabcc cJ8_newLength_cabcc 4 (some .int) :: ([.methodLink RJ8 194 Lib.Math.max.name, .static Lib.Math.max.name, .initialized "java/lang/Math", .code Lib.Math.max.name Lib.Math.max.code 2 (some .int), .constant RJ8 200 2147483639] ++ ([]))
set_option maxHeartbeats 4000000 in
set_option maxRecDepth 100000 in
theorem c_newLen_22 (l : Launch) (D : va_G) (y : Nat → ClassId) (sz : Nat)  : Met l yJ8_newLength_cabcc wz_c_newLen_22 ({ frames := 1, cells := 0, slots := 0, locals := 14 }) (va_Pc [.int 16, .int 6, .int 18] (zB D y [] sz [] [] [] [])) (va_Qi (fun (r : Int32) (_ : Unit) => r = 34) (fun _ t => va_P D vwCl [] t.heap ∧ va_D (va_A [] sz) []) (va_A [] sz)) 0 0 (va_A [] sz) := by
  refine Met.ofW (cc := cJ8_newLength_cabcc) (maxL := 4) (ret := (some .int)) (by decide) rfl ?_
  intro p e s m args below meth c s₁ B hml hv
  obtain ⟨rfl, hsz, hP, hK, hD0, hN, hE, hO, hT, hG⟩ := hv
  have hx := B.exec
  have hb := B.bytes
  have hr := B.returns
  have hts := atoms_spec (ws := wz_c_newLen_22) B.pre
  have hown : s.vm.findClass RJ8 = some m.cls := findClass_of_methodNamed B.named
  have hlocks := B.notSynchronized
  subst hsz
  have hD := hD0.self (sz := s.heap.size)
  generalize hAe : va_A [] s.heap.size = A at hD hE hT hG ⊢
  have hA : ∀ q : Nat, s.heap.size ≤ q → A q := fun q h => by rw [← hAe]; exact Or.inr h
  have hS : va_S A s.heap s.heap [] := va_S.rf
  have hl := lv_entry ([.int 16, .int 6, .int 18]) (n := 4) (Nat.le_of_ble_eq_true rfl)
  rw [lg_entry_eq]
  generalize (lg_sl ([.int 16, .int 6, .int 18]) ++ List.replicate (4 - (lg_sl ([.int 16, .int 6, .int 18])).length) Slot.unset).toArray = ls at hl ⊢
  have hl : lv_has ls 4 [(0, .int 16), (1, .int 6), (2, .int 18)] := hl
  refine lv_iload_n hx hb dJ8_newLength_cabcc_0 rfl (lv_at hl 0 rfl) ?_
  refine lv_iload_n hx hb dJ8_newLength_cabcc_1 rfl (lv_at hl 1 rfl) ?_
  refine lv_iload_n hx hb dJ8_newLength_cabcc_2 rfl (lv_at hl 2 rfl) ?_
  refine va_mmax hx hb (hml.trans hl.1.symm) hown (hts (.methodLink RJ8 194 Lib.Math.max.name) (by decide +kernel)) (hts (.static Lib.Math.max.name) (by decide +kernel)) (hts (.initialized "java/lang/Math") (by decide +kernel)) (hts (.code Lib.Math.max.name Lib.Math.max.code 2 (some .int)) (by decide +kernel)) (Nat.le_of_ble_eq_true rfl) (Nat.le_of_ble_eq_true rfl) (Nat.le_of_ble_eq_true rfl) (Nat.le_of_ble_eq_true rfl) dJ8_newLength_cabcc_3 ?_
  refine lv_topi (fun v1 ev1 => ?_)
  have ev1 : v1 = 18 := ev1.trans (by decide +kernel)
  subst ev1
  refine lv_iadd hx hb dJ8_newLength_cabcc_6 ?_
  refine lv_topi (fun v2 ev2 => ?_)
  have ev2 : v2 = 34 := ev2.trans (by decide +kernel)
  subst ev2
  refine lv_istore_n (lv' := [(3, .int 34), (0, .int 16), (1, .int 6), (2, .int 18)]) hx hb dJ8_newLength_cabcc_7 rfl hl (by decide) rfl (fun ls hl => ?_)
  refine lv_iconst (v := 0) hx hb dJ8_newLength_cabcc_8 (by decide) ?_
  refine lv_iload_n hx hb dJ8_newLength_cabcc_9 rfl (lv_at hl 0 rfl) ?_
  refine lv_icmp_ge (tgt := 21) hx hb dJ8_newLength_cabcc_10 (by decide) (fun c9 => absurd c9 (by decide)) (fun _ => ?_)
  refine lv_iload_n hx hb dJ8_newLength_cabcc_13 rfl (lv_at hl 0 rfl) ?_
  refine lv_ldc (v := 2147483639) hx hb hown (hts (.constant RJ8 200 2147483639) (by decide +kernel)) dJ8_newLength_cabcc_14 ?_
  refine lv_icmp_gt (tgt := 21) hx hb dJ8_newLength_cabcc_16 (by decide) (fun c9 => absurd c9 (by decide)) (fun _ => ?_)
  refine lv_iload_n hx hb dJ8_newLength_cabcc_19 rfl (lv_at hl 0 rfl) ?_
  have hP9 := hP.sub (ws' := []) [] rfl
  have hD9 := hD.sub (ws' := []) [] (by decide) rfl
  refine W.widen (k := 0) (n := 0) (Nat.le_of_ble_eq_true rfl) (Nat.le_of_ble_eq_true rfl) ?_
  exact W.iret (v := 34) hx hb hr (fun t ht hW => ⟨⟨34, (), rfl, rfl, by rw [ht]; exact hP9, hD9⟩, hS.F ht⟩) hS.2.2 dJ8_newLength_cabcc_20
def wz_c_newCap_22 : List Cond := .code yJ5_newCapacity_0f7a4 cJ5_newCapacity_0f7a4 6 (some .int) :: ([.fieldLink RJ5 15 "java/lang/AbstractStringBuilder" "value" "[B", .fieldLink RJ5 22 "java/lang/AbstractStringBuilder" "coder" "B", .methodLink RJ5 114 yJ8_newLength_cabcc, .static yJ8_newLength_cabcc, .initialized RJ8, .constant RJ5 39 2147483647] ++ (wsJ40 ++ (wz_c_newLen_22 ++ ([]))))
set_option maxRecDepth 100000 in
theorem gz_c_newCap_22_c_newLen_22 : GoodIn wz_c_newCap_22 wz_c_newLen_22 := goodIn_sub (fun w h => List.mem_cons_of_mem _ (List.mem_append_right _ (List.mem_append_right _ (List.mem_append_left _ h)))) (by decide +kernel)
set_option maxRecDepth 100000 in
theorem gv_c_newCap_22_c_newLen_22_114 : GoodIn wz_c_newCap_22 (va_wsS RJ5 114 yJ8_newLength_cabcc wz_c_newLen_22) := goodIn_app (goodIn_of _ (by decide +kernel)) gz_c_newCap_22_c_newLen_22
set_option maxHeartbeats 4000000 in
set_option maxRecDepth 100000 in
theorem c_newCap_22 (l : Launch) (D : va_G) (y : Nat → ClassId) (sz : Nat) (h0 : Nat) (bv : Nat) (w1 : Value) (w2 : Value) (g : Nat → Int32) : Met l yJ5_newCapacity_0f7a4 wz_c_newCap_22 ({ frames := 2, cells := 0, slots := 0, locals := 37 }) (va_Pc [.ref h0, .int 22] (zB D y [(h0, .inr (1, [.ref bv, .int 0, w1, w2])), (bv, .inl (y 0, 16, .inl g))] sz [] [] [] [])) (va_Qi (fun (r : Int32) (_ : Unit) => r = 34) (fun _ t => va_P D vwCl [(h0, .inr (1, [.ref bv, .int 0, w1, w2])), (bv, .inl (y 0, 16, .inl g))] t.heap ∧ va_D (va_A [(h0, .inr (1, [.ref bv, .int 0, w1, w2])), (bv, .inl (y 0, 16, .inl g))] sz) [(h0, .inr (1, [.ref bv, .int 0, w1, w2])), (bv, .inl (y 0, 16, .inl g))]) (va_A [(h0, .inr (1, [.ref bv, .int 0, w1, w2])), (bv, .inl (y 0, 16, .inl g))] sz)) 0 0 (va_A [(h0, .inr (1, [.ref bv, .int 0, w1, w2])), (bv, .inl (y 0, 16, .inl g))] sz) := by
  refine Met.ofW (cc := cJ5_newCapacity_0f7a4) (maxL := 6) (ret := (some .int)) (by decide) rfl ?_
  intro p e s m args below meth c s₁ B hml hv
  obtain ⟨rfl, hsz, hP, hK, hD0, hN, hE, hO, hT, hG⟩ := hv
  have hx := B.exec
  have hb := B.bytes
  have hr := B.returns
  have hts := atoms_spec (ws := wz_c_newCap_22) B.pre
  have hown : s.vm.findClass RJ5 = some m.cls := findClass_of_methodNamed B.named
  have hlocks := B.notSynchronized
  subst hsz
  have hD := hD0.self (sz := s.heap.size)
  generalize hAe : va_A [(h0, .inr (1, [.ref bv, .int 0, w1, w2])), (bv, .inl (y 0, 16, .inl g))] s.heap.size = A at hD hE hT hG ⊢
  have hA : ∀ q : Nat, s.heap.size ≤ q → A q := fun q h => by rw [← hAe]; exact Or.inr h
  have hS : va_S A s.heap s.heap [] := va_S.rf
  have hl := lv_entry ([.ref h0, .int 22]) (n := 6) (Nat.le_of_ble_eq_true rfl)
  rw [lg_entry_eq]
  generalize (lg_sl ([.ref h0, .int 22]) ++ List.replicate (6 - (lg_sl ([.ref h0, .int 22])).length) Slot.unset).toArray = ls at hl ⊢
  have hl : lv_has ls 6 [(0, .ref h0), (1, .int 22)] := hl
  refine lv_aload_n hx hb dJ5_newCapacity_0f7a4_0 rfl (lv_at hl 0 rfl) ?_
  refine va_get (D := D) (ci := 1) (v := .ref bv) (C := RJ4) (T := TJ4) (N := 4) hx hb hts (by decide +kernel) hown hK hP 0 rfl rfl 0 (by decide) (hts (.fieldLink RJ5 15 "java/lang/AbstractStringBuilder" "value" "[B") (by decide +kernel)) (fun _ h9 => h9) rfl dJ5_newCapacity_0f7a4_1 ?_
  refine va_alen (v := 16) hx hb hK hP 1 0 rfl rfl (show Int32.ofNat 16 = (16 : Int32) from by decide) dJ5_newCapacity_0f7a4_4 ?_
  refine lv_istore_n (lv' := [(2, .int 16), (0, .ref h0), (1, .int 22)]) hx hb dJ5_newCapacity_0f7a4_5 rfl hl (by decide) rfl (fun ls hl => ?_)
  refine lv_iload_n hx hb dJ5_newCapacity_0f7a4_6 rfl (lv_at hl 2 rfl) ?_
  refine lv_aload_n hx hb dJ5_newCapacity_0f7a4_7 rfl (lv_at hl 1 rfl) ?_
  refine va_get (D := D) (ci := 1) (v := .int 0) (C := RJ4) (T := TJ4) (N := 4) hx hb hts (by decide +kernel) hown hK hP 0 rfl rfl 1 (by decide) (hts (.fieldLink RJ5 22 "java/lang/AbstractStringBuilder" "coder" "B") (by decide +kernel)) (fun _ h9 => h9) rfl dJ5_newCapacity_0f7a4_8 ?_
  refine lv_ishl hx hb dJ5_newCapacity_0f7a4_11 ?_
  refine lv_topi (fun v1 ev1 => ?_)
  have ev1 : v1 = 22 := ev1.trans (by decide +kernel)
  subst ev1
  refine lv_istore_n (lv' := [(3, .int 22), (2, .int 16), (0, .ref h0), (1, .int 22)]) hx hb dJ5_newCapacity_0f7a4_12 rfl hl (by decide) rfl (fun ls hl => ?_)
  refine lv_iload_n hx hb dJ5_newCapacity_0f7a4_13 rfl (lv_at hl 0 rfl) ?_
  refine lv_iload_n hx hb dJ5_newCapacity_0f7a4_14 rfl (lv_at hl 1 rfl) ?_
  refine lv_isub hx hb dJ5_newCapacity_0f7a4_15 ?_
  refine lv_topi (fun v2 ev2 => ?_)
  have ev2 : v2 = 6 := ev2.trans (by decide +kernel)
  subst ev2
  refine lv_istore (lv' := [(4, .int 6), (3, .int 22), (2, .int 16), (0, .ref h0), (1, .int 22)]) hx hb dJ5_newCapacity_0f7a4_16 hl (by decide) rfl (fun ls hl => ?_)
  refine lv_iload_n hx hb dJ5_newCapacity_0f7a4_18 rfl (lv_at hl 2 rfl) ?_
  refine lv_iload hx hb dJ5_newCapacity_0f7a4_19 (lv_at hl 0 rfl) ?_
  refine lv_iload_n hx hb dJ5_newCapacity_0f7a4_21 rfl (lv_at hl 2 rfl) ?_
  refine lv_iconst (v := 2) hx hb dJ5_newCapacity_0f7a4_22 (by decide) ?_
  refine lv_aload_n hx hb dJ5_newCapacity_0f7a4_23 rfl (lv_at hl 3 rfl) ?_
  refine va_get (D := D) (ci := 1) (v := .int 0) (C := RJ4) (T := TJ4) (N := 4) hx hb hts (by decide +kernel) hown hK hP 0 rfl rfl 1 (by decide) (hts (.fieldLink RJ5 22 "java/lang/AbstractStringBuilder" "coder" "B") (by decide +kernel)) (fun _ h9 => h9) rfl dJ5_newCapacity_0f7a4_24 ?_
  refine lv_ishl hx hb dJ5_newCapacity_0f7a4_27 ?_
  refine lv_topi (fun v3 ev3 => ?_)
  have ev3 : v3 = 2 := ev3.trans (by decide +kernel)
  subst ev3
  refine lv_iadd hx hb dJ5_newCapacity_0f7a4_28 ?_
  refine lv_topi (fun v4 ev4 => ?_)
  have ev4 : v4 = 18 := ev4.trans (by decide +kernel)
  subst ev4
  have hPc := hP.sub (ws' := []) [] rfl
  have hDc := hD.sub (ws' := []) [] (by decide) rfl
  have hFc := va_free (wc := []) hD hS hA [] rfl
  refine va_calli (va_runS (As := [.int 16, .int 6, .int 18]) (rest := []) ⟨hx, hb, hml, hown, hts⟩ (c_newLen_22 l D y s.heap.size ) (va_cwS 3 hts gv_c_newCap_22_c_newLen_22_114 rfl rfl rfl (by decide +kernel) ⟨(Nat.le_of_ble_eq_true rfl), (Nat.le_of_ble_eq_true rfl)⟩) (zB.preS hPc hDc hK hN hE hO hT hG hS hFc (fun _ h => nomatch h) (fun _ h => nomatch h) (fun _ h => nomatch h) (fun _ h => nomatch h)) rfl rfl hl.1 rfl (lv_room (Nat.le_of_ble_eq_true rfl)) dJ5_newCapacity_0f7a4_29 ⟨(Nat.le_of_ble_eq_true rfl), (Nat.le_of_ble_eq_true rfl)⟩) hS (fun q _ h => hFc q h) hFc (fun r5 u t H1 locs ht hvm hw hB hz1 hk1 hS => ?_)
  obtain ⟨hP1, hD1⟩ := hB
  rw [ht] at hP1
  obtain ⟨hP, hD⟩ := va_join (wr := [(h0, .inr (1, [.ref bv, .int 0, w1, w2])), (bv, .inl (y 0, 16, .inl g))]) (w1 := []) hP hD [] [0, 1] rfl rfl (by decide) (by decide) hk1 hFc hP1 hD1
  generalize H1 = H at hP hS ⊢
  have hP : va_P D vwCl [(h0, .inr (1, [.ref bv, .int 0, w1, w2])), (bv, .inl (y 0, 16, .inl g))] H := hP
  have hD : va_D A [(h0, .inr (1, [.ref bv, .int 0, w1, w2])), (bv, .inl (y 0, 16, .inl g))] := hD
  have hw : r5 = 34 := hw
  subst hw
  refine lv_istore (lv' := [(5, .int 34), (4, .int 6), (3, .int 22), (2, .int 16), (0, .ref h0), (1, .int 22)]) hx hb dJ5_newCapacity_0f7a4_32 hl (by decide) rfl (fun ls hl => ?_)
  refine lv_iload hx hb dJ5_newCapacity_0f7a4_34 (lv_at hl 0 rfl) ?_
  refine lv_ldc (v := 2147483647) hx hb hown (hts (.constant RJ5 39 2147483647) (by decide +kernel)) dJ5_newCapacity_0f7a4_36 ?_
  refine lv_icmp_ne (tgt := 51) hx hb dJ5_newCapacity_0f7a4_38 (by decide) (fun _ => ?_) (fun c9 => absurd c9 (by decide))
  refine lv_iload hx hb dJ5_newCapacity_0f7a4_51 (lv_at hl 0 rfl) ?_
  refine lv_aload_n hx hb dJ5_newCapacity_0f7a4_53 rfl (lv_at hl 4 rfl) ?_
  refine va_get (D := D) (ci := 1) (v := .int 0) (C := RJ4) (T := TJ4) (N := 4) hx hb hts (by decide +kernel) hown hK hP 0 rfl rfl 1 (by decide) (hts (.fieldLink RJ5 22 "java/lang/AbstractStringBuilder" "coder" "B") (by decide +kernel)) (fun _ h9 => h9) rfl dJ5_newCapacity_0f7a4_54 ?_
  refine lv_ishr hx hb dJ5_newCapacity_0f7a4_57 ?_
  refine lv_topi (fun v6 ev6 => ?_)
  have ev6 : v6 = 34 := ev6.trans (by decide +kernel)
  subst ev6
  have hP9 := hP.sub (ws' := [(h0, .inr (1, [.ref bv, .int 0, w1, w2])), (bv, .inl (y 0, 16, .inl g))]) [0, 1] rfl
  have hD9 := hD.sub (ws' := [(h0, .inr (1, [.ref bv, .int 0, w1, w2])), (bv, .inl (y 0, 16, .inl g))]) [0, 1] (by decide) rfl
  refine W.widen (k := 0) (n := 0) (Nat.le_of_ble_eq_true rfl) (Nat.le_of_ble_eq_true rfl) ?_
  exact W.iret (v := 34) hx hb hr (fun t ht hW => ⟨⟨34, (), rfl, rfl, by rw [ht]; exact hP9, hD9⟩, hS.F ht⟩) hS.2.2 dJ5_newCapacity_0f7a4_58
def zk1 : Nat → Int32 := va_cpy zk0 (fun _ => 0) (0 : Int32).toNatClampNeg (0 : Int32).toNatClampNeg (16 : Int32).toNatClampNeg
def wz_c_copyOf_b0 : List Cond := .code yJ7_copyOf_9075b cJ7_copyOf_9075b 3 (some (.array .byte)) :: ([.arrayClass .byte, .methodLink RJ7 304 Lib.Math.min.name, .static Lib.Math.min.name, .initialized "java/lang/Math", .code Lib.Math.min.name Lib.Math.min.code 2 (some .int), .methodLink RJ7 150 arraycopyName, .native arraycopyName, .static arraycopyName, .initialized "java/lang/System"] ++ ([]))
set_option maxHeartbeats 4000000 in
set_option maxRecDepth 100000 in
theorem c_copyOf_b0 (l : Launch) (D : va_G) (y : Nat → ClassId) (sz : Nat) (bv : Nat) : Met l yJ7_copyOf_9075b wz_c_copyOf_b0 ({ frames := 1, cells := 1, slots := 34, locals := 60 }) (va_Pc [.ref bv, .int 34] (zB D y [(bv, .inl (y 0, 16, .inl zk0))] sz [] [] [] [])) (va_Qr (fun _ : Unit => True) (fun _ q1 t => va_P D vwCl [(bv, .inl (y 0, 16, .inl zk0)), (q1, .inl (y 0, 34, .inl zk1))] t.heap ∧ va_D (va_A [(bv, .inl (y 0, 16, .inl zk0))] sz) [(bv, .inl (y 0, 16, .inl zk0)), (q1, .inl (y 0, 34, .inl zk1))]) (va_A [(bv, .inl (y 0, 16, .inl zk0))] sz)) 1 34 (va_A [(bv, .inl (y 0, 16, .inl zk0))] sz) := by
  refine Met.ofW (cc := cJ7_copyOf_9075b) (maxL := 3) (ret := (some (.array .byte))) (by decide) rfl ?_
  intro p e s m args below meth c s₁ B hml hv
  obtain ⟨rfl, hsz, hP, hK, hD0, hN, hE, hO, hT, hG⟩ := hv
  have hx := B.exec
  have hb := B.bytes
  have hr := B.returns
  have hts := atoms_spec (ws := wz_c_copyOf_b0) B.pre
  have hown : s.vm.findClass RJ7 = some m.cls := findClass_of_methodNamed B.named
  have hlocks := B.notSynchronized
  subst hsz
  have hD := hD0.self (sz := s.heap.size)
  generalize hAe : va_A [(bv, .inl (y 0, 16, .inl zk0))] s.heap.size = A at hD hE hT hG ⊢
  have hA : ∀ q : Nat, s.heap.size ≤ q → A q := fun q h => by rw [← hAe]; exact Or.inr h
  have hS : va_S A s.heap s.heap [] := va_S.rf
  have hl := lv_entry ([.ref bv, .int 34]) (n := 3) (Nat.le_of_ble_eq_true rfl)
  rw [lg_entry_eq]
  generalize (lg_sl ([.ref bv, .int 34]) ++ List.replicate (3 - (lg_sl ([.ref bv, .int 34])).length) Slot.unset).toArray = ls at hl ⊢
  have hl : lv_has ls 3 [(0, .ref bv), (1, .int 34)] := hl
  refine lv_iload_n hx hb dJ7_copyOf_9075b_0 rfl (lv_at hl 1 rfl) ?_
  refine lv_aload_n hx hb dJ7_copyOf_9075b_1 rfl (lv_at hl 0 rfl) ?_
  refine va_alen (v := 16) hx hb hK hP 0 0 rfl rfl (show Int32.ofNat 16 = (16 : Int32) from by decide) dJ7_copyOf_9075b_2 ?_
  refine lv_icmp_ne (tgt := 14) hx hb dJ7_copyOf_9075b_3 (by decide) (fun _ => ?_) (fun c9 => absurd c9 (by decide))
  refine lv_iload_n hx hb dJ7_copyOf_9075b_14 rfl (lv_at hl 1 rfl) ?_
  refine zz_newa (atype := .byte) (n := 34) (N' := 34) (a0 := (34, .inl (fun _ => 0))) (ty := .byte) hx hb (hts (.arrayClass .byte) (by decide +kernel)) rfl hK 0 rfl hP hD hS hA (zz_aB 34) (by decide +kernel) (by decide +kernel) (by decide +kernel) (Nat.le_of_ble_eq_true rfl) (Nat.le_of_ble_eq_true rfl) dJ7_copyOf_9075b_15 (fun q1 H hP hD hS => ?_)
  have hP : va_P D vwCl [(bv, .inl (y 0, 16, .inl zk0)), (q1, .inl (y 0, 34, .inl (fun _ => 0)))] H := hP
  have hD : va_D A [(bv, .inl (y 0, 16, .inl zk0)), (q1, .inl (y 0, 34, .inl (fun _ => 0)))] := hD
  refine lv_astore_n (lv' := [(2, .ref q1), (0, .ref bv), (1, .int 34)]) hx hb dJ7_copyOf_9075b_17 rfl hl (by decide) rfl (fun ls hl => ?_)
  refine lv_aload_n hx hb dJ7_copyOf_9075b_18 rfl (lv_at hl 1 rfl) ?_
  refine lv_iconst (v := 0) hx hb dJ7_copyOf_9075b_19 (by decide) ?_
  refine lv_aload_n hx hb dJ7_copyOf_9075b_20 rfl (lv_at hl 0 rfl) ?_
  refine lv_iconst (v := 0) hx hb dJ7_copyOf_9075b_21 (by decide) ?_
  refine lv_aload_n hx hb dJ7_copyOf_9075b_22 rfl (lv_at hl 1 rfl) ?_
  refine va_alen (v := 16) hx hb hK hP 0 0 rfl rfl (show Int32.ofNat 16 = (16 : Int32) from by decide) dJ7_copyOf_9075b_23 ?_
  refine lv_iload_n hx hb dJ7_copyOf_9075b_24 rfl (lv_at hl 2 rfl) ?_
  refine va_mmin hx hb (hml.trans hl.1.symm) hown (hts (.methodLink RJ7 304 Lib.Math.min.name) (by decide +kernel)) (hts (.static Lib.Math.min.name) (by decide +kernel)) (hts (.initialized "java/lang/Math") (by decide +kernel)) (hts (.code Lib.Math.min.name Lib.Math.min.code 2 (some .int)) (by decide +kernel)) (Nat.le_of_ble_eq_true rfl) (Nat.le_of_ble_eq_true rfl) (Nat.le_of_ble_eq_true rfl) (Nat.le_of_ble_eq_true rfl) dJ7_copyOf_9075b_25 ?_
  refine lv_topi (fun v2 ev2 => ?_)
  have ev2 : v2 = 16 := ev2.trans (by decide +kernel)
  subst ev2
  refine va_copyi (ty := .byte) (sp := 0) (dp := 0) (n := 16) hx hb (hml.trans hl.1.symm) hown (hts (.methodLink RJ7 150 arraycopyName) (by decide +kernel)) (hts (.native arraycopyName) (by decide +kernel)) (hts (.static arraycopyName) (by decide +kernel)) (hts (.initialized "java/lang/System") (by decide +kernel)) hK hP hD hS 0 1 0 0 rfl rfl rfl rfl rfl (by decide +kernel) (by decide +kernel) (by decide +kernel) (by decide +kernel) (by decide +kernel) (by decide +kernel) (Nat.le_of_ble_eq_true rfl) (Nat.le_of_ble_eq_true rfl) dJ7_copyOf_9075b_28 (fun H locs hP hD hS => ?_)
  have hP : va_P D vwCl [(bv, .inl (y 0, 16, .inl zk0)), (q1, .inl (y 0, 34, .inl zk1))] H := hP
  have hD : va_D A [(bv, .inl (y 0, 16, .inl zk0)), (q1, .inl (y 0, 34, .inl zk1))] := hD
  refine lv_aload_n hx hb dJ7_copyOf_9075b_31 rfl (lv_at hl 0 rfl) ?_
  have hP9 := hP.sub (ws' := [(bv, .inl (y 0, 16, .inl zk0)), (q1, .inl (y 0, 34, .inl zk1))]) [0, 1] rfl
  have hD9 := hD.sub (ws' := [(bv, .inl (y 0, 16, .inl zk0)), (q1, .inl (y 0, 34, .inl zk1))]) [0, 1] (by decide) rfl
  refine W.widen (k := 1) (n := 34) (Nat.le_of_ble_eq_true rfl) (Nat.le_of_ble_eq_true rfl) ?_
  exact W.aret (v := .ref q1) hx hb hr (Or.inr ⟨_, rfl⟩) (Or.inr ⟨_, rfl⟩) (fun t ht hW => ⟨⟨(), q1, rfl, trivial, by rw [ht]; exact hP9, hD9⟩, hS.F ht⟩) hS.2.2 dJ7_copyOf_9075b_32
def wz_c_ens_b0 : List Cond := .code yJ5_ensureCapacityInternal_d00df cJ5_ensureCapacityInternal_d00df 3 none :: ([.fieldLink RJ5 15 "java/lang/AbstractStringBuilder" "value" "[B", .fieldLink RJ5 22 "java/lang/AbstractStringBuilder" "coder" "B", .methodLink RJ5 104 ⟨"java/lang/AbstractStringBuilder", "newCapacity", "(I)I"⟩, .sameMethod "java/lang/AbstractStringBuilder" "java/lang/AbstractStringBuilder" "newCapacity" "(I)I", .selects RJ4 ⟨"java/lang/AbstractStringBuilder", "newCapacity", "(I)I"⟩ yJ5_newCapacity_0f7a4, .instanceMethod yJ5_newCapacity_0f7a4, .initialized RJ5, .methodLink RJ5 108 yJ7_copyOf_9075b, .static yJ7_copyOf_9075b, .initialized RJ7] ++ (wsJ40 ++ (wz_c_newCap_22 ++ (wz_c_copyOf_b0 ++ ([])))))
set_option maxRecDepth 100000 in
theorem gz_c_ens_b0_c_newCap_22 : GoodIn wz_c_ens_b0 wz_c_newCap_22 := goodIn_sub (fun w h => List.mem_cons_of_mem _ (List.mem_append_right _ (List.mem_append_right _ (List.mem_append_left _ h)))) (by decide +kernel)
set_option maxRecDepth 100000 in
theorem gz_c_ens_b0_c_copyOf_b0 : GoodIn wz_c_ens_b0 wz_c_copyOf_b0 := goodIn_sub (fun w h => List.mem_cons_of_mem _ (List.mem_append_right _ (List.mem_append_right _ (List.mem_append_right _ (List.mem_append_left _ h))))) (by decide +kernel)
set_option maxRecDepth 100000 in
theorem gv_c_ens_b0_c_newCap_22_104 : GoodIn wz_c_ens_b0 (va_wsU RJ5 104 RJ4 "java/lang/AbstractStringBuilder" ⟨"java/lang/AbstractStringBuilder", "newCapacity", "(I)I"⟩ yJ5_newCapacity_0f7a4 wz_c_newCap_22) := goodIn_app (goodIn_of _ (by decide +kernel)) gz_c_ens_b0_c_newCap_22
set_option maxRecDepth 100000 in
theorem gv_c_ens_b0_c_copyOf_b0_108 : GoodIn wz_c_ens_b0 (va_wsS RJ5 108 yJ7_copyOf_9075b wz_c_copyOf_b0) := goodIn_app (goodIn_of _ (by decide +kernel)) gz_c_ens_b0_c_copyOf_b0
set_option maxHeartbeats 4000000 in
set_option maxRecDepth 100000 in
theorem c_ens_b0 (l : Launch) (D : va_G) (y : Nat → ClassId) (sz : Nat) (h0 : Nat) (bv : Nat) (w1 : Value) (w2 : Value) : Met l yJ5_ensureCapacityInternal_d00df wz_c_ens_b0 ({ frames := 3, cells := 1, slots := 34, locals := 82 }) (va_Pc [.ref h0, .int 22] (zB D y [(h0, .inr (1, [.ref bv, .int 0, w1, w2])), (bv, .inl (y 0, 16, .inl zk0))] sz [] [] [] [])) (va_Qv (fun _ : Unit => True) (fun _ t => ∃ r5 : Nat, va_P D vwCl [(h0, .inr (1, [.ref r5, .int 0, w1, w2])), (bv, .inl (y 0, 16, .inl zk0)), (r5, .inl (y 0, 34, .inl zk1))] t.heap ∧ va_D (va_A [(h0, .inr (1, [.ref bv, .int 0, w1, w2])), (bv, .inl (y 0, 16, .inl zk0))] sz) [(h0, .inr (1, [.ref r5, .int 0, w1, w2])), (bv, .inl (y 0, 16, .inl zk0)), (r5, .inl (y 0, 34, .inl zk1))]) (va_A [(h0, .inr (1, [.ref bv, .int 0, w1, w2])), (bv, .inl (y 0, 16, .inl zk0))] sz)) 1 34 (va_A [(h0, .inr (1, [.ref bv, .int 0, w1, w2])), (bv, .inl (y 0, 16, .inl zk0))] sz) := by
  refine Met.ofW (cc := cJ5_ensureCapacityInternal_d00df) (maxL := 3) (ret := none) (by decide) rfl ?_
  intro p e s m args below meth c s₁ B hml hv
  obtain ⟨rfl, hsz, hP, hK, hD0, hN, hE, hO, hT, hG⟩ := hv
  have hx := B.exec
  have hb := B.bytes
  have hr := B.returns
  have hts := atoms_spec (ws := wz_c_ens_b0) B.pre
  have hown : s.vm.findClass RJ5 = some m.cls := findClass_of_methodNamed B.named
  have hlocks := B.notSynchronized
  subst hsz
  have hD := hD0.self (sz := s.heap.size)
  generalize hAe : va_A [(h0, .inr (1, [.ref bv, .int 0, w1, w2])), (bv, .inl (y 0, 16, .inl zk0))] s.heap.size = A at hD hE hT hG ⊢
  have hA : ∀ q : Nat, s.heap.size ≤ q → A q := fun q h => by rw [← hAe]; exact Or.inr h
  have hS : va_S A s.heap s.heap [] := va_S.rf
  have hl := lv_entry ([.ref h0, .int 22]) (n := 3) (Nat.le_of_ble_eq_true rfl)
  rw [lg_entry_eq]
  generalize (lg_sl ([.ref h0, .int 22]) ++ List.replicate (3 - (lg_sl ([.ref h0, .int 22])).length) Slot.unset).toArray = ls at hl ⊢
  have hl : lv_has ls 3 [(0, .ref h0), (1, .int 22)] := hl
  refine lv_aload_n hx hb dJ5_ensureCapacityInternal_d00df_0 rfl (lv_at hl 0 rfl) ?_
  refine va_get (D := D) (ci := 1) (v := .ref bv) (C := RJ4) (T := TJ4) (N := 4) hx hb hts (by decide +kernel) hown hK hP 0 rfl rfl 0 (by decide) (hts (.fieldLink RJ5 15 "java/lang/AbstractStringBuilder" "value" "[B") (by decide +kernel)) (fun _ h9 => h9) rfl dJ5_ensureCapacityInternal_d00df_1 ?_
  refine va_alen (v := 16) hx hb hK hP 1 0 rfl rfl (show Int32.ofNat 16 = (16 : Int32) from by decide) dJ5_ensureCapacityInternal_d00df_4 ?_
  refine lv_aload_n hx hb dJ5_ensureCapacityInternal_d00df_5 rfl (lv_at hl 0 rfl) ?_
  refine va_get (D := D) (ci := 1) (v := .int 0) (C := RJ4) (T := TJ4) (N := 4) hx hb hts (by decide +kernel) hown hK hP 0 rfl rfl 1 (by decide) (hts (.fieldLink RJ5 22 "java/lang/AbstractStringBuilder" "coder" "B") (by decide +kernel)) (fun _ h9 => h9) rfl dJ5_ensureCapacityInternal_d00df_6 ?_
  refine lv_ishr hx hb dJ5_ensureCapacityInternal_d00df_9 ?_
  refine lv_topi (fun v1 ev1 => ?_)
  have ev1 : v1 = 16 := ev1.trans (by decide +kernel)
  subst ev1
  refine lv_istore_n (lv' := [(2, .int 16), (0, .ref h0), (1, .int 22)]) hx hb dJ5_ensureCapacityInternal_d00df_10 rfl hl (by decide) rfl (fun ls hl => ?_)
  refine lv_iload_n hx hb dJ5_ensureCapacityInternal_d00df_11 rfl (lv_at hl 2 rfl) ?_
  refine lv_iload_n hx hb dJ5_ensureCapacityInternal_d00df_12 rfl (lv_at hl 0 rfl) ?_
  refine lv_isub hx hb dJ5_ensureCapacityInternal_d00df_13 ?_
  refine lv_topi (fun v2 ev2 => ?_)
  have ev2 : v2 = 6 := ev2.trans (by decide +kernel)
  subst ev2
  refine lv_if_le (tgt := 38) hx hb dJ5_ensureCapacityInternal_d00df_14 (by decide) (fun c9 => absurd c9 (by decide)) (fun _ => ?_)
  refine lv_aload_n hx hb dJ5_ensureCapacityInternal_d00df_17 rfl (lv_at hl 1 rfl) ?_
  refine lv_aload_n hx hb dJ5_ensureCapacityInternal_d00df_18 rfl (lv_at hl 1 rfl) ?_
  refine va_get (D := D) (ci := 1) (v := .ref bv) (C := RJ4) (T := TJ4) (N := 4) hx hb hts (by decide +kernel) hown hK hP 0 rfl rfl 0 (by decide) (hts (.fieldLink RJ5 15 "java/lang/AbstractStringBuilder" "value" "[B") (by decide +kernel)) (fun _ h9 => h9) rfl dJ5_ensureCapacityInternal_d00df_19 ?_
  refine lv_aload_n hx hb dJ5_ensureCapacityInternal_d00df_22 rfl (lv_at hl 1 rfl) ?_
  refine lv_iload_n hx hb dJ5_ensureCapacityInternal_d00df_23 rfl (lv_at hl 2 rfl) ?_
  have hPc := hP.sub (ws' := [(h0, .inr (1, [.ref bv, .int 0, w1, w2])), (bv, .inl (y 0, 16, .inl zk0))]) [0, 1] rfl
  have hDc := hD.sub (ws' := [(h0, .inr (1, [.ref bv, .int 0, w1, w2])), (bv, .inl (y 0, 16, .inl zk0))]) [0, 1] (by decide) rfl
  have hFc := va_free (wc := [(h0, .inr (1, [.ref bv, .int 0, w1, w2])), (bv, .inl (y 0, 16, .inl zk0))]) hD hS hA [0, 1] rfl
  refine va_calli (va_runU (As := [.int 22]) (rest := [.ref bv, .ref h0]) ⟨hx, hb, hml, hown, hts⟩ (c_newCap_22 l D y s.heap.size h0 bv w1 w2 zk0) (va_cwU 1 hts gv_c_ens_b0_c_newCap_22_104 rfl rfl rfl rfl (by decide +kernel) ⟨(Nat.le_of_ble_eq_true rfl), (Nat.le_of_ble_eq_true rfl)⟩) (zB.preV hPc hDc hK hN hE hO hT hG hS hFc (fun _ h => nomatch h) (fun _ h => nomatch h) (fun _ h => nomatch h) (fun _ h => nomatch h) (va_recv hK hPc (ci := 1) (q0 := 0) rfl rfl)) rfl rfl hl.1 rfl (lv_room (Nat.le_of_ble_eq_true rfl)) dJ5_ensureCapacityInternal_d00df_24 ⟨(Nat.le_of_ble_eq_true rfl), (Nat.le_of_ble_eq_true rfl)⟩) hS (fun q _ h => hFc q h) hFc (fun r3 u t H1 locs ht hvm hw hB hz1 hk1 hS => ?_)
  obtain ⟨hP1, hD1⟩ := hB
  rw [ht] at hP1
  obtain ⟨hP, hD⟩ := va_join (wr := []) (w1 := [(h0, .inr (1, [.ref bv, .int 0, w1, w2])), (bv, .inl (y 0, 16, .inl zk0))]) hP hD [0, 1] [] rfl rfl (by decide) (by decide) hk1 hFc hP1 hD1
  generalize H1 = H at hP hS ⊢
  have hP : va_P D vwCl [(h0, .inr (1, [.ref bv, .int 0, w1, w2])), (bv, .inl (y 0, 16, .inl zk0))] H := hP
  have hD : va_D A [(h0, .inr (1, [.ref bv, .int 0, w1, w2])), (bv, .inl (y 0, 16, .inl zk0))] := hD
  have hw : r3 = 34 := hw
  subst hw
  refine lv_aload_n hx hb dJ5_ensureCapacityInternal_d00df_27 rfl (lv_at hl 1 rfl) ?_
  refine va_get (D := D) (ci := 1) (v := .int 0) (C := RJ4) (T := TJ4) (N := 4) hx hb hts (by decide +kernel) hown hK hP 0 rfl rfl 1 (by decide) (hts (.fieldLink RJ5 22 "java/lang/AbstractStringBuilder" "coder" "B") (by decide +kernel)) (fun _ h9 => h9) rfl dJ5_ensureCapacityInternal_d00df_28 ?_
  refine lv_ishl hx hb dJ5_ensureCapacityInternal_d00df_31 ?_
  refine lv_topi (fun v4 ev4 => ?_)
  have ev4 : v4 = 34 := ev4.trans (by decide +kernel)
  subst ev4
  have hPc := hP.sub (ws' := [(bv, .inl (y 0, 16, .inl zk0))]) [1] rfl
  have hDc := hD.sub (ws' := [(bv, .inl (y 0, 16, .inl zk0))]) [1] (by decide) rfl
  have hFc := va_free (wc := [(bv, .inl (y 0, 16, .inl zk0))]) hD hS hA [1] rfl
  refine va_callr (va_runS (As := [.ref bv, .int 34]) (rest := [.ref h0]) ⟨hx, hb, hml, hown, hts⟩ (c_copyOf_b0 l D y H.size bv) (va_cwS 2 hts gv_c_ens_b0_c_copyOf_b0_108 rfl rfl rfl (by decide +kernel) ⟨(Nat.le_of_ble_eq_true rfl), (Nat.le_of_ble_eq_true rfl)⟩) (zB.preS hPc hDc hK hN hE hO hT hG hS hFc (fun _ h => nomatch h) (fun _ h => nomatch h) (fun _ h => nomatch h) (fun _ h => nomatch h)) rfl rfl hl.1 rfl (lv_room (Nat.le_of_ble_eq_true rfl)) dJ5_ensureCapacityInternal_d00df_32 ⟨(Nat.le_of_ble_eq_true rfl), (Nat.le_of_ble_eq_true rfl)⟩) hS (fun q _ h => hFc q h) hFc (fun u r5 t H1 locs ht hvm hw hB hz1 hk1 hS => ?_)
  obtain ⟨hP1, hD1⟩ := hB
  rw [ht] at hP1
  obtain ⟨hP, hD⟩ := va_join (wr := [(h0, .inr (1, [.ref bv, .int 0, w1, w2]))]) (w1 := [(bv, .inl (y 0, 16, .inl zk0)), (r5, .inl (y 0, 34, .inl zk1))]) hP hD [1] [0] rfl rfl (by decide) (by decide) hk1 hFc hP1 hD1
  generalize H1 = H at hP hS ⊢
  have hP : va_P D vwCl [(h0, .inr (1, [.ref bv, .int 0, w1, w2])), (bv, .inl (y 0, 16, .inl zk0)), (r5, .inl (y 0, 34, .inl zk1))] H := hP
  have hD : va_D A [(h0, .inr (1, [.ref bv, .int 0, w1, w2])), (bv, .inl (y 0, 16, .inl zk0)), (r5, .inl (y 0, 34, .inl zk1))] := hD
  refine va_put (D := D) (ci := 1) (v := .ref r5) (ty := (.array .byte)) (C := RJ4) (T := TJ4) (N := 4) hx hb hts (by decide +kernel) tyJ4 tyJ4_ok nmJ4 hown hK hP hD hS 0 rfl rfl 0 (by decide) (hts (.fieldLink RJ5 15 "java/lang/AbstractStringBuilder" "value" "[B") (by decide +kernel)) (fun _ h9 => h9) rfl (by decide +kernel) rfl rfl (Nat.le_of_ble_eq_true rfl) dJ5_ensureCapacityInternal_d00df_35 (fun H locs hP hD hS => ?_)
  have hP : va_P D vwCl [(h0, .inr (1, [.ref r5, .int 0, w1, w2])), (bv, .inl (y 0, 16, .inl zk0)), (r5, .inl (y 0, 34, .inl zk1))] H := hP
  have hD : va_D A [(h0, .inr (1, [.ref r5, .int 0, w1, w2])), (bv, .inl (y 0, 16, .inl zk0)), (r5, .inl (y 0, 34, .inl zk1))] := hD
  have hP9 := hP.sub (ws' := [(h0, .inr (1, [.ref r5, .int 0, w1, w2])), (bv, .inl (y 0, 16, .inl zk0)), (r5, .inl (y 0, 34, .inl zk1))]) [0, 1, 2] rfl
  have hD9 := hD.sub (ws' := [(h0, .inr (1, [.ref r5, .int 0, w1, w2])), (bv, .inl (y 0, 16, .inl zk0)), (r5, .inl (y 0, 34, .inl zk1))]) [0, 1, 2] (by decide) rfl
  refine W.widen (k := 1) (n := 34) (Nat.le_of_ble_eq_true rfl) (Nat.le_of_ble_eq_true rfl) ?_
  exact W.vret hx hb hr (fun t ht hW => ⟨⟨(), rfl, trivial, r5, by rw [ht]; exact hP9, hD9⟩, hS.F ht⟩) hS.2.2 dJ5_ensureCapacityInternal_d00df_38
def wz_c_getBytes_7_11_34 : List Cond := .code yJ0_getBytes_840e7 cJ0_getBytes_840e7 4 none :: ([.methodLink RJ0 335 yJ0_coder_7d493, .instanceMethod yJ0_coder_7d493, .selects RJ0 yJ0_coder_7d493 yJ0_coder_7d493, .initialized RJ0, .fieldLink RJ0 9 "java/lang/String" "value" "[B", .methodLink RJ0 212 arraycopyName, .native arraycopyName, .static arraycopyName, .initialized "java/lang/System"] ++ (wz_c_coder_o ++ ([])))
set_option maxRecDepth 100000 in
theorem gz_c_getBytes_7_11_34_c_coder_o : GoodIn wz_c_getBytes_7_11_34 wz_c_coder_o := goodIn_sub (fun w h => List.mem_cons_of_mem _ (List.mem_append_right _ (List.mem_append_left _ h))) (by decide +kernel)
set_option maxRecDepth 100000 in
theorem gv_c_getBytes_7_11_34_c_coder_o_335 : GoodIn wz_c_getBytes_7_11_34 (wsV RJ0 335 RJ0 yJ0_coder_7d493 wz_c_coder_o) := goodIn_app (goodIn_of _ (by decide +kernel)) gz_c_getBytes_7_11_34_c_coder_o
set_option maxHeartbeats 4000000 in
set_option maxRecDepth 100000 in
theorem c_getBytes_7_11_34 (l : Launch) (D : va_G) (y : Nat → ClassId) (sz : Nat) (bv : Nat) (sx : Nat) (tx : Nat) (g : Nat → Int32) : Met l yJ0_getBytes_840e7 wz_c_getBytes_7_11_34 ({ frames := 1, cells := 0, slots := 0, locals := 60 }) (va_Pc [.ref sx, .ref bv, .int 11, .int 0] (zB D y [(bv, .inl (y 0, 34, .inl g))] sz [] [("java/lang/String", "COMPACT_STRINGS", "Z", .int 1)] [] [.inr (.inl (sx, tx, 11, zs7))])) (va_Qv (fun _ : Unit => True) (fun _ t => va_P D vwCl [(bv, .inl (y 0, 34, .inl (va_cpy zs7 g (0 : Int32).toNatClampNeg (11 : Int32).toNatClampNeg (11 : Int32).toNatClampNeg)))] t.heap ∧ va_D (va_A [(bv, .inl (y 0, 34, .inl g))] sz) [(bv, .inl (y 0, 34, .inl (va_cpy zs7 g (0 : Int32).toNatClampNeg (11 : Int32).toNatClampNeg (11 : Int32).toNatClampNeg)))]) (va_A [(bv, .inl (y 0, 34, .inl g))] sz)) 0 0 (va_A [(bv, .inl (y 0, 34, .inl g))] sz) := by
  refine Met.ofW (cc := cJ0_getBytes_840e7) (maxL := 4) (ret := none) (by decide) rfl ?_
  intro p e s m args below meth c s₁ B hml hv
  obtain ⟨rfl, hsz, hP, hK, hD0, hN, hE, hO, hT, hG⟩ := hv
  have hx := B.exec
  have hb := B.bytes
  have hr := B.returns
  have hts := atoms_spec (ws := wz_c_getBytes_7_11_34) B.pre
  have hown : s.vm.findClass RJ0 = some m.cls := findClass_of_methodNamed B.named
  have hlocks := B.notSynchronized
  subst hsz
  have hD := hD0.self (sz := s.heap.size)
  generalize hAe : va_A [(bv, .inl (y 0, 34, .inl g))] s.heap.size = A at hD hE hT hG ⊢
  have hA : ∀ q : Nat, s.heap.size ≤ q → A q := fun q h => by rw [← hAe]; exact Or.inr h
  have hS : va_S A s.heap s.heap [] := va_S.rf
  have hl := lv_entry ([.ref sx, .ref bv, .int 11, .int 0]) (n := 4) (Nat.le_of_ble_eq_true rfl)
  rw [lg_entry_eq]
  generalize (lg_sl ([.ref sx, .ref bv, .int 11, .int 0]) ++ List.replicate (4 - (lg_sl ([.ref sx, .ref bv, .int 11, .int 0])).length) Slot.unset).toArray = ls at hl ⊢
  have hl : lv_has ls 4 [(0, .ref sx), (1, .ref bv), (2, .int 11), (3, .int 0)] := hl
  refine lv_aload_n hx hb dJ0_getBytes_840e7_0 rfl (lv_at hl 0 rfl) ?_
  have hPc := hP.sub (ws' := []) [] rfl
  have hDc := hD.sub (ws' := []) [] (by decide) rfl
  have hFc := va_free (wc := []) hD hS hA [] rfl
  refine va_calli (va_runV (As := []) (rest := []) ⟨hx, hb, hml, hown, hts⟩ (c_coder_o l D y s.heap.size sx tx 11 zs7) (cwV 0 hts gv_c_getBytes_7_11_34_c_coder_o_335 rfl rfl rfl (by decide +kernel) ⟨(Nat.le_of_ble_eq_true rfl), (Nat.le_of_ble_eq_true rfl)⟩) (zB.preV hPc hDc hK hN hE hO hT hG hS hFc (fun _ h => nomatch h) (List.forall_mem_cons.mpr ⟨List.mem_of_getElem? (i := 0) rfl, (fun _ h => nomatch h)⟩) (fun _ h => nomatch h) (List.forall_mem_cons.mpr ⟨List.mem_of_getElem? (i := 0) rfl, (fun _ h => nomatch h)⟩) (zStr.recv (show zStr sx tx 11 zs7 A s s.heap from (hG (.inr (.inl (sx, tx, 11, zs7))) (List.mem_of_getElem? (i := 0) rfl))) hS)) rfl rfl hl.1 rfl (lv_room (Nat.le_of_ble_eq_true rfl)) dJ0_getBytes_840e7_1 ⟨(Nat.le_of_ble_eq_true rfl), (Nat.le_of_ble_eq_true rfl)⟩) hS (fun q _ h => hFc q h) hFc (fun r1 u t H1 locs ht hvm hw hB hz1 hk1 hS => ?_)
  obtain ⟨hP1, hD1⟩ := hB
  rw [ht] at hP1
  obtain ⟨hP, hD⟩ := va_join (wr := [(bv, .inl (y 0, 34, .inl g))]) (w1 := []) hP hD [] [0] rfl rfl (by decide) (by decide) hk1 hFc hP1 hD1
  generalize H1 = H at hP hS ⊢
  have hP : va_P D vwCl [(bv, .inl (y 0, 34, .inl g))] H := hP
  have hD : va_D A [(bv, .inl (y 0, 34, .inl g))] := hD
  have hw : r1 = 0 := hw
  subst hw
  refine lv_iload_n hx hb dJ0_getBytes_840e7_4 rfl (lv_at hl 3 rfl) ?_
  refine lv_icmp_ne (tgt := 28) hx hb dJ0_getBytes_840e7_5 (by decide) (fun c9 => absurd (by decide) c9) (fun _ => ?_)
  refine lv_aload_n hx hb dJ0_getBytes_840e7_8 rfl (lv_at hl 0 rfl) ?_
  refine vk_getf hx hb (show zStr sx tx 11 zs7 A s s.heap from (hG (.inr (.inl (sx, tx, 11, zs7))) (List.mem_of_getElem? (i := 0) rfl))).2.2.1 hS hown (hts (.fieldLink RJ0 9 "java/lang/String" "value" "[B") (by decide +kernel)) (fun _ h9 => h9) dJ0_getBytes_840e7_9 ?_
  refine lv_iconst (v := 0) hx hb dJ0_getBytes_840e7_12 (by decide) ?_
  refine lv_aload_n hx hb dJ0_getBytes_840e7_13 rfl (lv_at hl 1 rfl) ?_
  refine lv_iload_n hx hb dJ0_getBytes_840e7_14 rfl (lv_at hl 2 rfl) ?_
  refine lv_iload_n hx hb dJ0_getBytes_840e7_15 rfl (lv_at hl 3 rfl) ?_
  refine lv_ishl hx hb dJ0_getBytes_840e7_16 ?_
  refine lv_topi (fun v2 ev2 => ?_)
  have ev2 : v2 = 11 := ev2.trans (by decide +kernel)
  subst ev2
  refine lv_aload_n hx hb dJ0_getBytes_840e7_17 rfl (lv_at hl 0 rfl) ?_
  refine vk_getf hx hb (show zStr sx tx 11 zs7 A s s.heap from (hG (.inr (.inl (sx, tx, 11, zs7))) (List.mem_of_getElem? (i := 0) rfl))).2.2.1 hS hown (hts (.fieldLink RJ0 9 "java/lang/String" "value" "[B") (by decide +kernel)) (fun _ h9 => h9) dJ0_getBytes_840e7_18 ?_
  refine va_tlen (v := 11) hx hb (show zStr sx tx 11 zs7 A s s.heap from (hG (.inr (.inl (sx, tx, 11, zs7))) (List.mem_of_getElem? (i := 0) rfl))).2.2.2 hS (by decide) dJ0_getBytes_840e7_21 ?_
  refine vk_copyt (sp := 0) (dp := 11) (n := 11) (f := zs7) hx hb (hml.trans hl.1.symm) hown (hts (.methodLink RJ0 212 arraycopyName) (by decide +kernel)) (hts (.native arraycopyName) (by decide +kernel)) (hts (.static arraycopyName) (by decide +kernel)) (hts (.initialized "java/lang/System") (by decide +kernel)) hK hP hD hS (show zStr sx tx 11 zs7 A s s.heap from (hG (.inr (.inl (sx, tx, 11, zs7))) (List.mem_of_getElem? (i := 0) rfl))).2.2.2 0 0 rfl rfl (by decide +kernel) (by decide +kernel) (by decide +kernel) (by decide +kernel) (by decide +kernel) (by decide +kernel) (Nat.le_of_ble_eq_true rfl) (Nat.le_of_ble_eq_true rfl) dJ0_getBytes_840e7_22 (fun H locs hP hD hS => ?_)
  have hP : va_P D vwCl [(bv, .inl (y 0, 34, .inl (va_cpy zs7 g (0 : Int32).toNatClampNeg (11 : Int32).toNatClampNeg (11 : Int32).toNatClampNeg)))] H := hP
  have hD : va_D A [(bv, .inl (y 0, 34, .inl (va_cpy zs7 g (0 : Int32).toNatClampNeg (11 : Int32).toNatClampNeg (11 : Int32).toNatClampNeg)))] := hD
  refine lv_goto (tgt := 43) hx hb dJ0_getBytes_840e7_25 (by decide) ?_
  have hP9 := hP.sub (ws' := [(bv, .inl (y 0, 34, .inl (va_cpy zs7 g (0 : Int32).toNatClampNeg (11 : Int32).toNatClampNeg (11 : Int32).toNatClampNeg)))]) [0] rfl
  have hD9 := hD.sub (ws' := [(bv, .inl (y 0, 34, .inl (va_cpy zs7 g (0 : Int32).toNatClampNeg (11 : Int32).toNatClampNeg (11 : Int32).toNatClampNeg)))]) [0] (by decide) rfl
  refine W.widen (k := 0) (n := 0) (Nat.le_of_ble_eq_true rfl) (Nat.le_of_ble_eq_true rfl) ?_
  exact W.vret hx hb hr (fun t ht hW => ⟨⟨(), rfl, trivial, by rw [ht]; exact hP9, hD9⟩, hS.F ht⟩) hS.2.2 dJ0_getBytes_840e7_43
def wz_c_putStr_7_11_34 : List Cond := .code yJ5_putStringAt_47b60 cJ5_putStringAt_47b60 3 none :: ([.methodLink RJ5 397 ⟨"java/lang/AbstractStringBuilder", "inflateIfNeededFor", "(Ljava/lang/String;)V"⟩, .sameMethod "java/lang/AbstractStringBuilder" "java/lang/AbstractStringBuilder" "inflateIfNeededFor" "(Ljava/lang/String;)V", .selects RJ4 ⟨"java/lang/AbstractStringBuilder", "inflateIfNeededFor", "(Ljava/lang/String;)V"⟩ yJ5_inflateIfNeededFor_a7421, .instanceMethod yJ5_inflateIfNeededFor_a7421, .initialized RJ5, .fieldLink RJ5 15 "java/lang/AbstractStringBuilder" "value" "[B", .fieldLink RJ5 22 "java/lang/AbstractStringBuilder" "coder" "B", .methodLink RJ5 399 yJ0_getBytes_840e7, .instanceMethod yJ0_getBytes_840e7, .selects RJ0 yJ0_getBytes_840e7 yJ0_getBytes_840e7, .initialized RJ0] ++ (wsJ40 ++ (wz_c_inflIf ++ (wz_c_getBytes_7_11_34 ++ ([])))))
set_option maxRecDepth 100000 in
theorem gz_c_putStr_7_11_34_c_inflIf : GoodIn wz_c_putStr_7_11_34 wz_c_inflIf := goodIn_sub (fun w h => List.mem_cons_of_mem _ (List.mem_append_right _ (List.mem_append_right _ (List.mem_append_left _ h)))) (by decide +kernel)
set_option maxRecDepth 100000 in
theorem gz_c_putStr_7_11_34_c_getBytes_7_11_34 : GoodIn wz_c_putStr_7_11_34 wz_c_getBytes_7_11_34 := goodIn_sub (fun w h => List.mem_cons_of_mem _ (List.mem_append_right _ (List.mem_append_right _ (List.mem_append_right _ (List.mem_append_left _ h))))) (by decide +kernel)
set_option maxRecDepth 100000 in
theorem gv_c_putStr_7_11_34_c_inflIf_397 : GoodIn wz_c_putStr_7_11_34 (va_wsU RJ5 397 RJ4 "java/lang/AbstractStringBuilder" ⟨"java/lang/AbstractStringBuilder", "inflateIfNeededFor", "(Ljava/lang/String;)V"⟩ yJ5_inflateIfNeededFor_a7421 wz_c_inflIf) := goodIn_app (goodIn_of _ (by decide +kernel)) gz_c_putStr_7_11_34_c_inflIf
set_option maxRecDepth 100000 in
theorem gv_c_putStr_7_11_34_c_getBytes_7_11_34_399 : GoodIn wz_c_putStr_7_11_34 (wsV RJ5 399 RJ0 yJ0_getBytes_840e7 wz_c_getBytes_7_11_34) := goodIn_app (goodIn_of _ (by decide +kernel)) gz_c_putStr_7_11_34_c_getBytes_7_11_34
set_option maxHeartbeats 4000000 in
set_option maxRecDepth 100000 in
theorem c_putStr_7_11_34 (l : Launch) (D : va_G) (y : Nat → ClassId) (sz : Nat) (h0 : Nat) (bv : Nat) (w1 : Value) (w2 : Value) (sx : Nat) (tx : Nat) (g : Nat → Int32) : Met l yJ5_putStringAt_47b60 wz_c_putStr_7_11_34 ({ frames := 2, cells := 0, slots := 0, locals := 83 }) (va_Pc [.ref h0, .int 11, .ref sx] (zB D y [(h0, .inr (1, [.ref bv, .int 0, w1, w2])), (bv, .inl (y 0, 34, .inl g))] sz [] [("java/lang/String", "COMPACT_STRINGS", "Z", .int 1)] [] [.inr (.inl (sx, tx, 11, zs7))])) (va_Qv (fun _ : Unit => True) (fun _ t => va_P D vwCl [(h0, .inr (1, [.ref bv, .int 0, w1, w2])), (bv, .inl (y 0, 34, .inl (va_cpy zs7 g (0 : Int32).toNatClampNeg (11 : Int32).toNatClampNeg (11 : Int32).toNatClampNeg)))] t.heap ∧ va_D (va_A [(h0, .inr (1, [.ref bv, .int 0, w1, w2])), (bv, .inl (y 0, 34, .inl g))] sz) [(h0, .inr (1, [.ref bv, .int 0, w1, w2])), (bv, .inl (y 0, 34, .inl (va_cpy zs7 g (0 : Int32).toNatClampNeg (11 : Int32).toNatClampNeg (11 : Int32).toNatClampNeg)))]) (va_A [(h0, .inr (1, [.ref bv, .int 0, w1, w2])), (bv, .inl (y 0, 34, .inl g))] sz)) 0 0 (va_A [(h0, .inr (1, [.ref bv, .int 0, w1, w2])), (bv, .inl (y 0, 34, .inl g))] sz) := by
  refine Met.ofW (cc := cJ5_putStringAt_47b60) (maxL := 3) (ret := none) (by decide) rfl ?_
  intro p e s m args below meth c s₁ B hml hv
  obtain ⟨rfl, hsz, hP, hK, hD0, hN, hE, hO, hT, hG⟩ := hv
  have hx := B.exec
  have hb := B.bytes
  have hr := B.returns
  have hts := atoms_spec (ws := wz_c_putStr_7_11_34) B.pre
  have hown : s.vm.findClass RJ5 = some m.cls := findClass_of_methodNamed B.named
  have hlocks := B.notSynchronized
  subst hsz
  have hD := hD0.self (sz := s.heap.size)
  generalize hAe : va_A [(h0, .inr (1, [.ref bv, .int 0, w1, w2])), (bv, .inl (y 0, 34, .inl g))] s.heap.size = A at hD hE hT hG ⊢
  have hA : ∀ q : Nat, s.heap.size ≤ q → A q := fun q h => by rw [← hAe]; exact Or.inr h
  have hS : va_S A s.heap s.heap [] := va_S.rf
  have hl := lv_entry ([.ref h0, .int 11, .ref sx]) (n := 3) (Nat.le_of_ble_eq_true rfl)
  rw [lg_entry_eq]
  generalize (lg_sl ([.ref h0, .int 11, .ref sx]) ++ List.replicate (3 - (lg_sl ([.ref h0, .int 11, .ref sx])).length) Slot.unset).toArray = ls at hl ⊢
  have hl : lv_has ls 3 [(0, .ref h0), (1, .int 11), (2, .ref sx)] := hl
  refine lv_aload_n hx hb dJ5_putStringAt_47b60_0 rfl (lv_at hl 0 rfl) ?_
  refine lv_aload_n hx hb dJ5_putStringAt_47b60_1 rfl (lv_at hl 2 rfl) ?_
  have hPc := hP.sub (ws' := [(h0, .inr (1, [.ref bv, .int 0, w1, w2]))]) [0] rfl
  have hDc := hD.sub (ws' := [(h0, .inr (1, [.ref bv, .int 0, w1, w2]))]) [0] (by decide) rfl
  have hFc := va_free (wc := [(h0, .inr (1, [.ref bv, .int 0, w1, w2]))]) hD hS hA [0] rfl
  refine va_callv (va_runU (As := [.ref sx]) (rest := []) ⟨hx, hb, hml, hown, hts⟩ (c_inflIf l D y s.heap.size h0 ((.ref bv)) w1 w2 sx tx 11 zs7) (va_cwU 1 hts gv_c_putStr_7_11_34_c_inflIf_397 rfl rfl rfl rfl (by decide +kernel) ⟨(Nat.le_of_ble_eq_true rfl), (Nat.le_of_ble_eq_true rfl)⟩) (zB.preV hPc hDc hK hN hE hO hT hG hS hFc (fun _ h => nomatch h) (List.forall_mem_cons.mpr ⟨List.mem_of_getElem? (i := 0) rfl, (fun _ h => nomatch h)⟩) (fun _ h => nomatch h) (List.forall_mem_cons.mpr ⟨List.mem_of_getElem? (i := 0) rfl, (fun _ h => nomatch h)⟩) (va_recv hK hPc (ci := 1) (q0 := 0) rfl rfl)) rfl rfl hl.1 rfl (lv_room (Nat.le_of_ble_eq_true rfl)) dJ5_putStringAt_47b60_2 ⟨(Nat.le_of_ble_eq_true rfl), (Nat.le_of_ble_eq_true rfl)⟩) hS (fun q _ h => hFc q h) hFc (fun u t H1 locs ht hvm hw hB hz1 hk1 hS => ?_)
  obtain ⟨hP1, hD1⟩ := hB
  rw [ht] at hP1
  obtain ⟨hP, hD⟩ := va_join (wr := [(bv, .inl (y 0, 34, .inl g))]) (w1 := [(h0, .inr (1, [.ref bv, .int 0, w1, w2]))]) hP hD [0] [1] rfl rfl (by decide) (by decide) hk1 hFc hP1 hD1
  generalize H1 = H at hP hS ⊢
  have hP : va_P D vwCl [(bv, .inl (y 0, 34, .inl g)), (h0, .inr (1, [.ref bv, .int 0, w1, w2]))] H := hP
  have hD : va_D A [(bv, .inl (y 0, 34, .inl g)), (h0, .inr (1, [.ref bv, .int 0, w1, w2]))] := hD
  refine lv_aload_n hx hb dJ5_putStringAt_47b60_5 rfl (lv_at hl 2 rfl) ?_
  refine lv_aload_n hx hb dJ5_putStringAt_47b60_6 rfl (lv_at hl 0 rfl) ?_
  refine va_get (D := D) (ci := 1) (v := .ref bv) (C := RJ4) (T := TJ4) (N := 4) hx hb hts (by decide +kernel) hown hK hP 1 rfl rfl 0 (by decide) (hts (.fieldLink RJ5 15 "java/lang/AbstractStringBuilder" "value" "[B") (by decide +kernel)) (fun _ h9 => h9) rfl dJ5_putStringAt_47b60_7 ?_
  refine lv_iload_n hx hb dJ5_putStringAt_47b60_10 rfl (lv_at hl 1 rfl) ?_
  refine lv_aload_n hx hb dJ5_putStringAt_47b60_11 rfl (lv_at hl 0 rfl) ?_
  refine va_get (D := D) (ci := 1) (v := .int 0) (C := RJ4) (T := TJ4) (N := 4) hx hb hts (by decide +kernel) hown hK hP 1 rfl rfl 1 (by decide) (hts (.fieldLink RJ5 22 "java/lang/AbstractStringBuilder" "coder" "B") (by decide +kernel)) (fun _ h9 => h9) rfl dJ5_putStringAt_47b60_12 ?_
  have hPc := hP.sub (ws' := [(bv, .inl (y 0, 34, .inl g))]) [0] rfl
  have hDc := hD.sub (ws' := [(bv, .inl (y 0, 34, .inl g))]) [0] (by decide) rfl
  have hFc := va_free (wc := [(bv, .inl (y 0, 34, .inl g))]) hD hS hA [0] rfl
  refine va_callv (va_runV (As := [.ref bv, .int 11, .int 0]) (rest := []) ⟨hx, hb, hml, hown, hts⟩ (c_getBytes_7_11_34 l D y H.size bv sx tx g) (cwV 3 hts gv_c_putStr_7_11_34_c_getBytes_7_11_34_399 rfl rfl rfl (by decide +kernel) ⟨(Nat.le_of_ble_eq_true rfl), (Nat.le_of_ble_eq_true rfl)⟩) (zB.preV hPc hDc hK hN hE hO hT hG hS hFc (fun _ h => nomatch h) (List.forall_mem_cons.mpr ⟨List.mem_of_getElem? (i := 0) rfl, (fun _ h => nomatch h)⟩) (fun _ h => nomatch h) (List.forall_mem_cons.mpr ⟨List.mem_of_getElem? (i := 0) rfl, (fun _ h => nomatch h)⟩) (zStr.recv (show zStr sx tx 11 zs7 A s s.heap from (hG (.inr (.inl (sx, tx, 11, zs7))) (List.mem_of_getElem? (i := 0) rfl))) hS)) rfl rfl hl.1 rfl (lv_room (Nat.le_of_ble_eq_true rfl)) dJ5_putStringAt_47b60_15 ⟨(Nat.le_of_ble_eq_true rfl), (Nat.le_of_ble_eq_true rfl)⟩) hS (fun q _ h => hFc q h) hFc (fun u t H1 locs ht hvm hw hB hz1 hk1 hS => ?_)
  obtain ⟨hP1, hD1⟩ := hB
  rw [ht] at hP1
  obtain ⟨hP, hD⟩ := va_join (wr := [(h0, .inr (1, [.ref bv, .int 0, w1, w2]))]) (w1 := [(bv, .inl (y 0, 34, .inl (va_cpy zs7 g (0 : Int32).toNatClampNeg (11 : Int32).toNatClampNeg (11 : Int32).toNatClampNeg)))]) hP hD [0] [1] rfl rfl (by decide) (by decide) hk1 hFc hP1 hD1
  generalize H1 = H at hP hS ⊢
  have hP : va_P D vwCl [(h0, .inr (1, [.ref bv, .int 0, w1, w2])), (bv, .inl (y 0, 34, .inl (va_cpy zs7 g (0 : Int32).toNatClampNeg (11 : Int32).toNatClampNeg (11 : Int32).toNatClampNeg)))] H := hP
  have hD : va_D A [(h0, .inr (1, [.ref bv, .int 0, w1, w2])), (bv, .inl (y 0, 34, .inl (va_cpy zs7 g (0 : Int32).toNatClampNeg (11 : Int32).toNatClampNeg (11 : Int32).toNatClampNeg)))] := hD
  have hP9 := hP.sub (ws' := [(h0, .inr (1, [.ref bv, .int 0, w1, w2])), (bv, .inl (y 0, 34, .inl (va_cpy zs7 g (0 : Int32).toNatClampNeg (11 : Int32).toNatClampNeg (11 : Int32).toNatClampNeg)))]) [0, 1] rfl
  have hD9 := hD.sub (ws' := [(h0, .inr (1, [.ref bv, .int 0, w1, w2])), (bv, .inl (y 0, 34, .inl (va_cpy zs7 g (0 : Int32).toNatClampNeg (11 : Int32).toNatClampNeg (11 : Int32).toNatClampNeg)))]) [0, 1] (by decide) rfl
  refine W.widen (k := 0) (n := 0) (Nat.le_of_ble_eq_true rfl) (Nat.le_of_ble_eq_true rfl) ?_
  exact W.vret hx hb hr (fun t ht hW => ⟨⟨(), rfl, trivial, by rw [ht]; exact hP9, hD9⟩, hS.F ht⟩) hS.2.2 dJ5_putStringAt_47b60_18
def zk2 : Nat → Int32 := va_cpy zs7 zk1 (0 : Int32).toNatClampNeg (11 : Int32).toNatClampNeg (11 : Int32).toNatClampNeg
def wz_c_ASBapp_b0 : List Cond := .code yJ5_append_cf1ce cJ5_append_cf1ce 3 (some (.object "java/lang/AbstractStringBuilder")) :: ([.methodLink RJ5 32 yJ0_length_8abf5, .instanceMethod yJ0_length_8abf5, .selects RJ0 yJ0_length_8abf5 yJ0_length_8abf5, .initialized RJ0, .fieldLink RJ5 79 "java/lang/AbstractStringBuilder" "count" "I", .methodLink RJ5 100 ⟨"java/lang/AbstractStringBuilder", "ensureCapacityInternal", "(I)V"⟩, .sameMethod "java/lang/AbstractStringBuilder" "java/lang/AbstractStringBuilder" "ensureCapacityInternal" "(I)V", .selects RJ4 ⟨"java/lang/AbstractStringBuilder", "ensureCapacityInternal", "(I)V"⟩ yJ5_ensureCapacityInternal_d00df, .instanceMethod yJ5_ensureCapacityInternal_d00df, .initialized RJ5, .methodLink RJ5 208 ⟨"java/lang/AbstractStringBuilder", "putStringAt", "(ILjava/lang/String;)V"⟩, .sameMethod "java/lang/AbstractStringBuilder" "java/lang/AbstractStringBuilder" "putStringAt" "(ILjava/lang/String;)V", .selects RJ4 ⟨"java/lang/AbstractStringBuilder", "putStringAt", "(ILjava/lang/String;)V"⟩ yJ5_putStringAt_47b60, .instanceMethod yJ5_putStringAt_47b60] ++ (wsJ40 ++ (wz_c_len_o_11 ++ (wz_c_ens_b0 ++ (wz_c_putStr_7_11_34 ++ ([]))))))
set_option maxRecDepth 100000 in
theorem gz_c_ASBapp_b0_c_len_o_11 : GoodIn wz_c_ASBapp_b0 wz_c_len_o_11 := goodIn_sub (fun w h => List.mem_cons_of_mem _ (List.mem_append_right _ (List.mem_append_right _ (List.mem_append_left _ h)))) (by decide +kernel)
set_option maxRecDepth 100000 in
theorem gz_c_ASBapp_b0_c_ens_b0 : GoodIn wz_c_ASBapp_b0 wz_c_ens_b0 := goodIn_sub (fun w h => List.mem_cons_of_mem _ (List.mem_append_right _ (List.mem_append_right _ (List.mem_append_right _ (List.mem_append_left _ h))))) (by decide +kernel)
set_option maxRecDepth 100000 in
theorem gz_c_ASBapp_b0_c_putStr_7_11_34 : GoodIn wz_c_ASBapp_b0 wz_c_putStr_7_11_34 := goodIn_sub (fun w h => List.mem_cons_of_mem _ (List.mem_append_right _ (List.mem_append_right _ (List.mem_append_right _ (List.mem_append_right _ (List.mem_append_left _ h)))))) (by decide +kernel)
set_option maxRecDepth 100000 in
theorem gv_c_ASBapp_b0_c_len_o_11_32 : GoodIn wz_c_ASBapp_b0 (wsV RJ5 32 RJ0 yJ0_length_8abf5 wz_c_len_o_11) := goodIn_app (goodIn_of _ (by decide +kernel)) gz_c_ASBapp_b0_c_len_o_11
set_option maxRecDepth 100000 in
theorem gv_c_ASBapp_b0_c_ens_b0_100 : GoodIn wz_c_ASBapp_b0 (va_wsU RJ5 100 RJ4 "java/lang/AbstractStringBuilder" ⟨"java/lang/AbstractStringBuilder", "ensureCapacityInternal", "(I)V"⟩ yJ5_ensureCapacityInternal_d00df wz_c_ens_b0) := goodIn_app (goodIn_of _ (by decide +kernel)) gz_c_ASBapp_b0_c_ens_b0
set_option maxRecDepth 100000 in
theorem gv_c_ASBapp_b0_c_putStr_7_11_34_208 : GoodIn wz_c_ASBapp_b0 (va_wsU RJ5 208 RJ4 "java/lang/AbstractStringBuilder" ⟨"java/lang/AbstractStringBuilder", "putStringAt", "(ILjava/lang/String;)V"⟩ yJ5_putStringAt_47b60 wz_c_putStr_7_11_34) := goodIn_app (goodIn_of _ (by decide +kernel)) gz_c_ASBapp_b0_c_putStr_7_11_34
set_option maxHeartbeats 4000000 in
set_option maxRecDepth 100000 in
theorem c_ASBapp_b0 (l : Launch) (D : va_G) (y : Nat → ClassId) (sz : Nat) (h0 : Nat) (bv : Nat) (w1 : Value) (sx : Nat) (tx : Nat) : Met l yJ5_append_cf1ce wz_c_ASBapp_b0 ({ frames := 4, cells := 1, slots := 34, locals := 105 }) (va_Pc [.ref h0, .ref sx] (zB D y [(h0, .inr (1, [.ref bv, .int 0, w1, .int 11])), (bv, .inl (y 0, 16, .inl zk0))] sz [] [("java/lang/String", "COMPACT_STRINGS", "Z", .int 1)] [] [.inr (.inl (sx, tx, 11, zs7))])) (va_Qq (fun (r : Option Nat) (_ : Unit) => r = some h0) (fun _ t => ∃ q3 : Nat, va_P D vwCl [(h0, .inr (1, [.ref q3, .int 0, w1, .int 22])), (bv, .inl (y 0, 16, .inl zk0)), (q3, .inl (y 0, 34, .inl zk2))] t.heap ∧ va_D (va_A [(h0, .inr (1, [.ref bv, .int 0, w1, .int 11])), (bv, .inl (y 0, 16, .inl zk0))] sz) [(h0, .inr (1, [.ref q3, .int 0, w1, .int 22])), (bv, .inl (y 0, 16, .inl zk0)), (q3, .inl (y 0, 34, .inl zk2))]) (va_A [(h0, .inr (1, [.ref bv, .int 0, w1, .int 11])), (bv, .inl (y 0, 16, .inl zk0))] sz)) 1 34 (va_A [(h0, .inr (1, [.ref bv, .int 0, w1, .int 11])), (bv, .inl (y 0, 16, .inl zk0))] sz) := by
  refine Met.ofW (cc := cJ5_append_cf1ce) (maxL := 3) (ret := (some (.object "java/lang/AbstractStringBuilder"))) (by decide) rfl ?_
  intro p e s m args below meth c s₁ B hml hv
  obtain ⟨rfl, hsz, hP, hK, hD0, hN, hE, hO, hT, hG⟩ := hv
  have hx := B.exec
  have hb := B.bytes
  have hr := B.returns
  have hts := atoms_spec (ws := wz_c_ASBapp_b0) B.pre
  have hown : s.vm.findClass RJ5 = some m.cls := findClass_of_methodNamed B.named
  have hlocks := B.notSynchronized
  subst hsz
  have hD := hD0.self (sz := s.heap.size)
  generalize hAe : va_A [(h0, .inr (1, [.ref bv, .int 0, w1, .int 11])), (bv, .inl (y 0, 16, .inl zk0))] s.heap.size = A at hD hE hT hG ⊢
  have hA : ∀ q : Nat, s.heap.size ≤ q → A q := fun q h => by rw [← hAe]; exact Or.inr h
  have hS : va_S A s.heap s.heap [] := va_S.rf
  have hl := lv_entry ([.ref h0, .ref sx]) (n := 3) (Nat.le_of_ble_eq_true rfl)
  rw [lg_entry_eq]
  generalize (lg_sl ([.ref h0, .ref sx]) ++ List.replicate (3 - (lg_sl ([.ref h0, .ref sx])).length) Slot.unset).toArray = ls at hl ⊢
  have hl : lv_has ls 3 [(0, .ref h0), (1, .ref sx)] := hl
  refine lv_aload_n hx hb dJ5_append_cf1ce_0 rfl (lv_at hl 1 rfl) ?_
  refine lv_ifnonnull (tgt := 9) hx hb dJ5_append_cf1ce_1 (by decide) ?_
  refine lv_aload_n hx hb dJ5_append_cf1ce_9 rfl (lv_at hl 1 rfl) ?_
  have hPc := hP.sub (ws' := []) [] rfl
  have hDc := hD.sub (ws' := []) [] (by decide) rfl
  have hFc := va_free (wc := []) hD hS hA [] rfl
  refine va_calli (va_runV (As := []) (rest := []) ⟨hx, hb, hml, hown, hts⟩ (c_len_o_11 l D y s.heap.size sx tx zs7) (cwV 0 hts gv_c_ASBapp_b0_c_len_o_11_32 rfl rfl rfl (by decide +kernel) ⟨(Nat.le_of_ble_eq_true rfl), (Nat.le_of_ble_eq_true rfl)⟩) (zB.preV hPc hDc hK hN hE hO hT hG hS hFc (fun _ h => nomatch h) (List.forall_mem_cons.mpr ⟨List.mem_of_getElem? (i := 0) rfl, (fun _ h => nomatch h)⟩) (fun _ h => nomatch h) (List.forall_mem_cons.mpr ⟨List.mem_of_getElem? (i := 0) rfl, (fun _ h => nomatch h)⟩) (zStr.recv (show zStr sx tx 11 zs7 A s s.heap from (hG (.inr (.inl (sx, tx, 11, zs7))) (List.mem_of_getElem? (i := 0) rfl))) hS)) rfl rfl hl.1 rfl (lv_room (Nat.le_of_ble_eq_true rfl)) dJ5_append_cf1ce_10 ⟨(Nat.le_of_ble_eq_true rfl), (Nat.le_of_ble_eq_true rfl)⟩) hS (fun q _ h => hFc q h) hFc (fun r1 u t H1 locs ht hvm hw hB hz1 hk1 hS => ?_)
  obtain ⟨hP1, hD1⟩ := hB
  rw [ht] at hP1
  obtain ⟨hP, hD⟩ := va_join (wr := [(h0, .inr (1, [.ref bv, .int 0, w1, .int 11])), (bv, .inl (y 0, 16, .inl zk0))]) (w1 := []) hP hD [] [0, 1] rfl rfl (by decide) (by decide) hk1 hFc hP1 hD1
  generalize H1 = H at hP hS ⊢
  have hP : va_P D vwCl [(h0, .inr (1, [.ref bv, .int 0, w1, .int 11])), (bv, .inl (y 0, 16, .inl zk0))] H := hP
  have hD : va_D A [(h0, .inr (1, [.ref bv, .int 0, w1, .int 11])), (bv, .inl (y 0, 16, .inl zk0))] := hD
  have hw : r1 = 11 := hw
  subst hw
  refine lv_istore_n (lv' := [(2, .int 11), (0, .ref h0), (1, .ref sx)]) hx hb dJ5_append_cf1ce_13 rfl hl (by decide) rfl (fun ls hl => ?_)
  refine lv_aload_n hx hb dJ5_append_cf1ce_14 rfl (lv_at hl 1 rfl) ?_
  refine lv_aload_n hx hb dJ5_append_cf1ce_15 rfl (lv_at hl 1 rfl) ?_
  refine va_get (D := D) (ci := 1) (v := .int 11) (C := RJ4) (T := TJ4) (N := 4) hx hb hts (by decide +kernel) hown hK hP 0 rfl rfl 3 (by decide) (hts (.fieldLink RJ5 79 "java/lang/AbstractStringBuilder" "count" "I") (by decide +kernel)) (fun _ h9 => h9) rfl dJ5_append_cf1ce_16 ?_
  refine lv_iload_n hx hb dJ5_append_cf1ce_19 rfl (lv_at hl 0 rfl) ?_
  refine lv_iadd hx hb dJ5_append_cf1ce_20 ?_
  refine lv_topi (fun v2 ev2 => ?_)
  have ev2 : v2 = 22 := ev2.trans (by decide +kernel)
  subst ev2
  have hPc := hP.sub (ws' := [(h0, .inr (1, [.ref bv, .int 0, w1, .int 11])), (bv, .inl (y 0, 16, .inl zk0))]) [0, 1] rfl
  have hDc := hD.sub (ws' := [(h0, .inr (1, [.ref bv, .int 0, w1, .int 11])), (bv, .inl (y 0, 16, .inl zk0))]) [0, 1] (by decide) rfl
  have hFc := va_free (wc := [(h0, .inr (1, [.ref bv, .int 0, w1, .int 11])), (bv, .inl (y 0, 16, .inl zk0))]) hD hS hA [0, 1] rfl
  refine va_callv (va_runU (As := [.int 22]) (rest := []) ⟨hx, hb, hml, hown, hts⟩ (c_ens_b0 l D y H.size h0 bv w1 ((.int 11))) (va_cwU 1 hts gv_c_ASBapp_b0_c_ens_b0_100 rfl rfl rfl rfl (by decide +kernel) ⟨(Nat.le_of_ble_eq_true rfl), (Nat.le_of_ble_eq_true rfl)⟩) (zB.preV hPc hDc hK hN hE hO hT hG hS hFc (fun _ h => nomatch h) (fun _ h => nomatch h) (fun _ h => nomatch h) (fun _ h => nomatch h) (va_recv hK hPc (ci := 1) (q0 := 0) rfl rfl)) rfl rfl hl.1 rfl (lv_room (Nat.le_of_ble_eq_true rfl)) dJ5_append_cf1ce_21 ⟨(Nat.le_of_ble_eq_true rfl), (Nat.le_of_ble_eq_true rfl)⟩) hS (fun q _ h => hFc q h) hFc (fun u t H1 locs ht hvm hw hB hz1 hk1 hS => ?_)
  obtain ⟨q3, hP1, hD1⟩ := hB
  rw [ht] at hP1
  obtain ⟨hP, hD⟩ := va_join (wr := []) (w1 := [(h0, .inr (1, [.ref q3, .int 0, w1, .int 11])), (bv, .inl (y 0, 16, .inl zk0)), (q3, .inl (y 0, 34, .inl zk1))]) hP hD [0, 1] [] rfl rfl (by decide) (by decide) hk1 hFc hP1 hD1
  generalize H1 = H at hP hS ⊢
  have hP : va_P D vwCl [(h0, .inr (1, [.ref q3, .int 0, w1, .int 11])), (bv, .inl (y 0, 16, .inl zk0)), (q3, .inl (y 0, 34, .inl zk1))] H := hP
  have hD : va_D A [(h0, .inr (1, [.ref q3, .int 0, w1, .int 11])), (bv, .inl (y 0, 16, .inl zk0)), (q3, .inl (y 0, 34, .inl zk1))] := hD
  refine lv_aload_n hx hb dJ5_append_cf1ce_24 rfl (lv_at hl 1 rfl) ?_
  refine lv_aload_n hx hb dJ5_append_cf1ce_25 rfl (lv_at hl 1 rfl) ?_
  refine va_get (D := D) (ci := 1) (v := .int 11) (C := RJ4) (T := TJ4) (N := 4) hx hb hts (by decide +kernel) hown hK hP 0 rfl rfl 3 (by decide) (hts (.fieldLink RJ5 79 "java/lang/AbstractStringBuilder" "count" "I") (by decide +kernel)) (fun _ h9 => h9) rfl dJ5_append_cf1ce_26 ?_
  refine lv_aload_n hx hb dJ5_append_cf1ce_29 rfl (lv_at hl 2 rfl) ?_
  have hPc := hP.sub (ws' := [(h0, .inr (1, [.ref q3, .int 0, w1, .int 11])), (q3, .inl (y 0, 34, .inl zk1))]) [0, 2] rfl
  have hDc := hD.sub (ws' := [(h0, .inr (1, [.ref q3, .int 0, w1, .int 11])), (q3, .inl (y 0, 34, .inl zk1))]) [0, 2] (by decide) rfl
  have hFc := va_free (wc := [(h0, .inr (1, [.ref q3, .int 0, w1, .int 11])), (q3, .inl (y 0, 34, .inl zk1))]) hD hS hA [0, 2] rfl
  refine va_callv (va_runU (As := [.int 11, .ref sx]) (rest := []) ⟨hx, hb, hml, hown, hts⟩ (c_putStr_7_11_34 l D y H.size h0 q3 w1 ((.int 11)) sx tx zk1) (va_cwU 2 hts gv_c_ASBapp_b0_c_putStr_7_11_34_208 rfl rfl rfl rfl (by decide +kernel) ⟨(Nat.le_of_ble_eq_true rfl), (Nat.le_of_ble_eq_true rfl)⟩) (zB.preV hPc hDc hK hN hE hO hT hG hS hFc (fun _ h => nomatch h) (List.forall_mem_cons.mpr ⟨List.mem_of_getElem? (i := 0) rfl, (fun _ h => nomatch h)⟩) (fun _ h => nomatch h) (List.forall_mem_cons.mpr ⟨List.mem_of_getElem? (i := 0) rfl, (fun _ h => nomatch h)⟩) (va_recv hK hPc (ci := 1) (q0 := 0) rfl rfl)) rfl rfl hl.1 rfl (lv_room (Nat.le_of_ble_eq_true rfl)) dJ5_append_cf1ce_30 ⟨(Nat.le_of_ble_eq_true rfl), (Nat.le_of_ble_eq_true rfl)⟩) hS (fun q _ h => hFc q h) hFc (fun u t H1 locs ht hvm hw hB hz1 hk1 hS => ?_)
  obtain ⟨hP1, hD1⟩ := hB
  rw [ht] at hP1
  obtain ⟨hP, hD⟩ := va_join (wr := [(bv, .inl (y 0, 16, .inl zk0))]) (w1 := [(h0, .inr (1, [.ref q3, .int 0, w1, .int 11])), (q3, .inl (y 0, 34, .inl zk2))]) hP hD [0, 2] [1] rfl rfl (by decide) (by decide) hk1 hFc hP1 hD1
  generalize H1 = H at hP hS ⊢
  have hP : va_P D vwCl [(bv, .inl (y 0, 16, .inl zk0)), (h0, .inr (1, [.ref q3, .int 0, w1, .int 11])), (q3, .inl (y 0, 34, .inl zk2))] H := hP
  have hD : va_D A [(bv, .inl (y 0, 16, .inl zk0)), (h0, .inr (1, [.ref q3, .int 0, w1, .int 11])), (q3, .inl (y 0, 34, .inl zk2))] := hD
  refine lv_aload_n hx hb dJ5_append_cf1ce_33 rfl (lv_at hl 1 rfl) ?_
  refine lv_dup hx hb dJ5_append_cf1ce_34 rfl ?_
  refine va_get (D := D) (ci := 1) (v := .int 11) (C := RJ4) (T := TJ4) (N := 4) hx hb hts (by decide +kernel) hown hK hP 1 rfl rfl 3 (by decide) (hts (.fieldLink RJ5 79 "java/lang/AbstractStringBuilder" "count" "I") (by decide +kernel)) (fun _ h9 => h9) rfl dJ5_append_cf1ce_35 ?_
  refine lv_iload_n hx hb dJ5_append_cf1ce_38 rfl (lv_at hl 0 rfl) ?_
  refine lv_iadd hx hb dJ5_append_cf1ce_39 ?_
  refine lv_topi (fun v4 ev4 => ?_)
  have ev4 : v4 = 22 := ev4.trans (by decide +kernel)
  subst ev4
  refine va_put (D := D) (ci := 1) (v := .int 22) (ty := .int) (C := RJ4) (T := TJ4) (N := 4) hx hb hts (by decide +kernel) tyJ4 tyJ4_ok nmJ4 hown hK hP hD hS 1 rfl rfl 3 (by decide) (hts (.fieldLink RJ5 79 "java/lang/AbstractStringBuilder" "count" "I") (by decide +kernel)) (fun _ h9 => h9) rfl (by decide +kernel) rfl rfl (Nat.le_of_ble_eq_true rfl) dJ5_append_cf1ce_40 (fun H locs hP hD hS => ?_)
  have hP : va_P D vwCl [(bv, .inl (y 0, 16, .inl zk0)), (h0, .inr (1, [.ref q3, .int 0, w1, .int 22])), (q3, .inl (y 0, 34, .inl zk2))] H := hP
  have hD : va_D A [(bv, .inl (y 0, 16, .inl zk0)), (h0, .inr (1, [.ref q3, .int 0, w1, .int 22])), (q3, .inl (y 0, 34, .inl zk2))] := hD
  refine lv_aload_n hx hb dJ5_append_cf1ce_43 rfl (lv_at hl 1 rfl) ?_
  have hP9 := hP.sub (ws' := [(h0, .inr (1, [.ref q3, .int 0, w1, .int 22])), (bv, .inl (y 0, 16, .inl zk0)), (q3, .inl (y 0, 34, .inl zk2))]) [1, 0, 2] rfl
  have hD9 := hD.sub (ws' := [(h0, .inr (1, [.ref q3, .int 0, w1, .int 22])), (bv, .inl (y 0, 16, .inl zk0)), (q3, .inl (y 0, 34, .inl zk2))]) [1, 0, 2] (by decide) rfl
  refine W.widen (k := 1) (n := 34) (Nat.le_of_ble_eq_true rfl) (Nat.le_of_ble_eq_true rfl) ?_
  exact W.aret (v := .ref h0) hx hb hr (Or.inl ⟨_, rfl⟩) (Or.inr ⟨_, rfl⟩) (fun t ht hW => ⟨⟨(some h0), (), rfl, rfl, q3, by rw [ht]; exact hP9, hD9⟩, hS.F ht⟩) hS.2.2 dJ5_append_cf1ce_44
def wz_c_SBapp_b0 : List Cond := .code yJ4_append_15ec4 cJ4_append_15ec4 2 (some (.object "java/lang/StringBuilder")) :: ([.methodLink RJ4 29 yJ5_append_cf1ce, .sameMethod RJ5 RJ5 "append" "(Ljava/lang/String;)Ljava/lang/AbstractStringBuilder;", .superclass RJ4 RJ5, .instanceMethod yJ5_append_cf1ce, .initialized RJ5] ++ (wz_c_ASBapp_b0 ++ ([])))
set_option maxRecDepth 100000 in
theorem gz_c_SBapp_b0_c_ASBapp_b0 : GoodIn wz_c_SBapp_b0 wz_c_ASBapp_b0 := goodIn_sub (fun w h => List.mem_cons_of_mem _ (List.mem_append_right _ (List.mem_append_left _ h))) (by decide +kernel)
set_option maxRecDepth 100000 in
theorem gv_c_SBapp_b0_c_ASBapp_b0_29 : GoodIn wz_c_SBapp_b0 (va_wsSU RJ4 29 yJ5_append_cf1ce wz_c_ASBapp_b0) := goodIn_app (goodIn_of _ (by decide +kernel)) gz_c_SBapp_b0_c_ASBapp_b0
set_option maxHeartbeats 4000000 in
set_option maxRecDepth 100000 in
theorem c_SBapp_b0 (l : Launch) (D : va_G) (y : Nat → ClassId) (sz : Nat) (h0 : Nat) (bv : Nat) (w1 : Value) (sx : Nat) (tx : Nat) : Met l yJ4_append_15ec4 wz_c_SBapp_b0 ({ frames := 5, cells := 1, slots := 34, locals := 127 }) (va_Pc [.ref h0, .ref sx] (zB D y [(h0, .inr (1, [.ref bv, .int 0, w1, .int 11])), (bv, .inl (y 0, 16, .inl zk0))] sz [] [("java/lang/String", "COMPACT_STRINGS", "Z", .int 1)] [] [.inr (.inl (sx, tx, 11, zs7))])) (va_Qq (fun (r : Option Nat) (_ : Unit) => r = some h0) (fun _ t => ∃ q2 : Nat, va_P D vwCl [(h0, .inr (1, [.ref q2, .int 0, w1, .int 22])), (bv, .inl (y 0, 16, .inl zk0)), (q2, .inl (y 0, 34, .inl zk2))] t.heap ∧ va_D (va_A [(h0, .inr (1, [.ref bv, .int 0, w1, .int 11])), (bv, .inl (y 0, 16, .inl zk0))] sz) [(h0, .inr (1, [.ref q2, .int 0, w1, .int 22])), (bv, .inl (y 0, 16, .inl zk0)), (q2, .inl (y 0, 34, .inl zk2))]) (va_A [(h0, .inr (1, [.ref bv, .int 0, w1, .int 11])), (bv, .inl (y 0, 16, .inl zk0))] sz)) 1 34 (va_A [(h0, .inr (1, [.ref bv, .int 0, w1, .int 11])), (bv, .inl (y 0, 16, .inl zk0))] sz) := by
  refine Met.ofW (cc := cJ4_append_15ec4) (maxL := 2) (ret := (some (.object "java/lang/StringBuilder"))) (by decide) rfl ?_
  intro p e s m args below meth c s₁ B hml hv
  obtain ⟨rfl, hsz, hP, hK, hD0, hN, hE, hO, hT, hG⟩ := hv
  have hx := B.exec
  have hb := B.bytes
  have hr := B.returns
  have hts := atoms_spec (ws := wz_c_SBapp_b0) B.pre
  have hown : s.vm.findClass RJ4 = some m.cls := findClass_of_methodNamed B.named
  have hlocks := B.notSynchronized
  subst hsz
  have hD := hD0.self (sz := s.heap.size)
  generalize hAe : va_A [(h0, .inr (1, [.ref bv, .int 0, w1, .int 11])), (bv, .inl (y 0, 16, .inl zk0))] s.heap.size = A at hD hE hT hG ⊢
  have hA : ∀ q : Nat, s.heap.size ≤ q → A q := fun q h => by rw [← hAe]; exact Or.inr h
  have hS : va_S A s.heap s.heap [] := va_S.rf
  have hl := lv_entry ([.ref h0, .ref sx]) (n := 2) (Nat.le_of_ble_eq_true rfl)
  rw [lg_entry_eq]
  generalize (lg_sl ([.ref h0, .ref sx]) ++ List.replicate (2 - (lg_sl ([.ref h0, .ref sx])).length) Slot.unset).toArray = ls at hl ⊢
  have hl : lv_has ls 2 [(0, .ref h0), (1, .ref sx)] := hl
  refine lv_aload_n hx hb dJ4_append_15ec4_0 rfl (lv_at hl 0 rfl) ?_
  refine lv_aload_n hx hb dJ4_append_15ec4_1 rfl (lv_at hl 1 rfl) ?_
  have hPc := hP.sub (ws' := [(h0, .inr (1, [.ref bv, .int 0, w1, .int 11])), (bv, .inl (y 0, 16, .inl zk0))]) [0, 1] rfl
  have hDc := hD.sub (ws' := [(h0, .inr (1, [.ref bv, .int 0, w1, .int 11])), (bv, .inl (y 0, 16, .inl zk0))]) [0, 1] (by decide) rfl
  have hFc := va_free (wc := [(h0, .inr (1, [.ref bv, .int 0, w1, .int 11])), (bv, .inl (y 0, 16, .inl zk0))]) hD hS hA [0, 1] rfl
  refine va_callq (va_runSU (hK.1 1 _ rfl).2 (As := [.ref sx]) (rest := []) ⟨hx, hb, hml, hown, hts⟩ (c_ASBapp_b0 l D y s.heap.size h0 bv w1 sx tx) (va_cwSU 1 hts gv_c_SBapp_b0_c_ASBapp_b0_29 rfl rfl rfl (by decide +kernel) ⟨(Nat.le_of_ble_eq_true rfl), (Nat.le_of_ble_eq_true rfl)⟩) (zB.preV hPc hDc hK hN hE hO hT hG hS hFc (fun _ h => nomatch h) (List.forall_mem_cons.mpr ⟨List.mem_of_getElem? (i := 0) rfl, (fun _ h => nomatch h)⟩) (fun _ h => nomatch h) (List.forall_mem_cons.mpr ⟨List.mem_of_getElem? (i := 0) rfl, (fun _ h => nomatch h)⟩) (va_recv hK hPc (ci := 1) (q0 := 0) rfl rfl)) rfl rfl hl.1 rfl (lv_room (Nat.le_of_ble_eq_true rfl)) dJ4_append_15ec4_2 ⟨(Nat.le_of_ble_eq_true rfl), (Nat.le_of_ble_eq_true rfl)⟩) hS (fun q _ h => hFc q h) hFc (fun r1 u t H1 locs ht hvm hw hB hz1 hk1 hS => ?_)
  obtain ⟨q2, hP1, hD1⟩ := hB
  rw [ht] at hP1
  obtain ⟨hP, hD⟩ := va_join (wr := []) (w1 := [(h0, .inr (1, [.ref q2, .int 0, w1, .int 22])), (bv, .inl (y 0, 16, .inl zk0)), (q2, .inl (y 0, 34, .inl zk2))]) hP hD [0, 1] [] rfl rfl (by decide) (by decide) hk1 hFc hP1 hD1
  generalize H1 = H at hP hS ⊢
  have hP : va_P D vwCl [(h0, .inr (1, [.ref q2, .int 0, w1, .int 22])), (bv, .inl (y 0, 16, .inl zk0)), (q2, .inl (y 0, 34, .inl zk2))] H := hP
  have hD : va_D A [(h0, .inr (1, [.ref q2, .int 0, w1, .int 22])), (bv, .inl (y 0, 16, .inl zk0)), (q2, .inl (y 0, 34, .inl zk2))] := hD
  have hw : r1 = some h0 := hw
  subst hw
  refine W.eq (g2 := F0 m 5 ls [.ref h0]) rfl ?_
  refine lv_pop hx hb dJ4_append_15ec4_5 rfl ?_
  refine lv_aload_n hx hb dJ4_append_15ec4_6 rfl (lv_at hl 0 rfl) ?_
  have hP9 := hP.sub (ws' := [(h0, .inr (1, [.ref q2, .int 0, w1, .int 22])), (bv, .inl (y 0, 16, .inl zk0)), (q2, .inl (y 0, 34, .inl zk2))]) [0, 1, 2] rfl
  have hD9 := hD.sub (ws' := [(h0, .inr (1, [.ref q2, .int 0, w1, .int 22])), (bv, .inl (y 0, 16, .inl zk0)), (q2, .inl (y 0, 34, .inl zk2))]) [0, 1, 2] (by decide) rfl
  refine W.widen (k := 1) (n := 34) (Nat.le_of_ble_eq_true rfl) (Nat.le_of_ble_eq_true rfl) ?_
  exact W.aret (v := .ref h0) hx hb hr (Or.inl ⟨_, rfl⟩) (Or.inr ⟨_, rfl⟩) (fun t ht hW => ⟨⟨(some h0), (), rfl, rfl, q2, by rw [ht]; exact hP9, hD9⟩, hS.F ht⟩) hS.2.2 dJ4_append_15ec4_7
def wz_c_ens_34_27 : List Cond := .code yJ5_ensureCapacityInternal_d00df cJ5_ensureCapacityInternal_d00df 3 none :: ([.fieldLink RJ5 15 "java/lang/AbstractStringBuilder" "value" "[B", .fieldLink RJ5 22 "java/lang/AbstractStringBuilder" "coder" "B"] ++ (wsJ40 ++ ([])))
set_option maxHeartbeats 4000000 in
set_option maxRecDepth 100000 in
theorem c_ens_34_27 (l : Launch) (D : va_G) (y : Nat → ClassId) (sz : Nat) (h0 : Nat) (bv : Nat) (w1 : Value) (w2 : Value) (g : Nat → Int32) : Met l yJ5_ensureCapacityInternal_d00df wz_c_ens_34_27 ({ frames := 0, cells := 0, slots := 0, locals := 0 }) (va_Pc [.ref h0, .int 27] (zB D y [(h0, .inr (1, [.ref bv, .int 0, w1, w2])), (bv, .inl (y 0, 34, .inl g))] sz [] [] [] [])) (va_Qv (fun _ : Unit => True) (fun _ t => va_P D vwCl [(h0, .inr (1, [.ref bv, .int 0, w1, w2])), (bv, .inl (y 0, 34, .inl g))] t.heap ∧ va_D (va_A [(h0, .inr (1, [.ref bv, .int 0, w1, w2])), (bv, .inl (y 0, 34, .inl g))] sz) [(h0, .inr (1, [.ref bv, .int 0, w1, w2])), (bv, .inl (y 0, 34, .inl g))]) (va_A [(h0, .inr (1, [.ref bv, .int 0, w1, w2])), (bv, .inl (y 0, 34, .inl g))] sz)) 0 0 (va_A [(h0, .inr (1, [.ref bv, .int 0, w1, w2])), (bv, .inl (y 0, 34, .inl g))] sz) := by
  refine Met.ofW (cc := cJ5_ensureCapacityInternal_d00df) (maxL := 3) (ret := none) (by decide) rfl ?_
  intro p e s m args below meth c s₁ B hml hv
  obtain ⟨rfl, hsz, hP, hK, hD0, hN, hE, hO, hT, hG⟩ := hv
  have hx := B.exec
  have hb := B.bytes
  have hr := B.returns
  have hts := atoms_spec (ws := wz_c_ens_34_27) B.pre
  have hown : s.vm.findClass RJ5 = some m.cls := findClass_of_methodNamed B.named
  have hlocks := B.notSynchronized
  subst hsz
  have hD := hD0.self (sz := s.heap.size)
  generalize hAe : va_A [(h0, .inr (1, [.ref bv, .int 0, w1, w2])), (bv, .inl (y 0, 34, .inl g))] s.heap.size = A at hD hE hT hG ⊢
  have hA : ∀ q : Nat, s.heap.size ≤ q → A q := fun q h => by rw [← hAe]; exact Or.inr h
  have hS : va_S A s.heap s.heap [] := va_S.rf
  have hl := lv_entry ([.ref h0, .int 27]) (n := 3) (Nat.le_of_ble_eq_true rfl)
  rw [lg_entry_eq]
  generalize (lg_sl ([.ref h0, .int 27]) ++ List.replicate (3 - (lg_sl ([.ref h0, .int 27])).length) Slot.unset).toArray = ls at hl ⊢
  have hl : lv_has ls 3 [(0, .ref h0), (1, .int 27)] := hl
  refine lv_aload_n hx hb dJ5_ensureCapacityInternal_d00df_0 rfl (lv_at hl 0 rfl) ?_
  refine va_get (D := D) (ci := 1) (v := .ref bv) (C := RJ4) (T := TJ4) (N := 4) hx hb hts (by decide +kernel) hown hK hP 0 rfl rfl 0 (by decide) (hts (.fieldLink RJ5 15 "java/lang/AbstractStringBuilder" "value" "[B") (by decide +kernel)) (fun _ h9 => h9) rfl dJ5_ensureCapacityInternal_d00df_1 ?_
  refine va_alen (v := 34) hx hb hK hP 1 0 rfl rfl (show Int32.ofNat 34 = (34 : Int32) from by decide) dJ5_ensureCapacityInternal_d00df_4 ?_
  refine lv_aload_n hx hb dJ5_ensureCapacityInternal_d00df_5 rfl (lv_at hl 0 rfl) ?_
  refine va_get (D := D) (ci := 1) (v := .int 0) (C := RJ4) (T := TJ4) (N := 4) hx hb hts (by decide +kernel) hown hK hP 0 rfl rfl 1 (by decide) (hts (.fieldLink RJ5 22 "java/lang/AbstractStringBuilder" "coder" "B") (by decide +kernel)) (fun _ h9 => h9) rfl dJ5_ensureCapacityInternal_d00df_6 ?_
  refine lv_ishr hx hb dJ5_ensureCapacityInternal_d00df_9 ?_
  refine lv_topi (fun v1 ev1 => ?_)
  have ev1 : v1 = 34 := ev1.trans (by decide +kernel)
  subst ev1
  refine lv_istore_n (lv' := [(2, .int 34), (0, .ref h0), (1, .int 27)]) hx hb dJ5_ensureCapacityInternal_d00df_10 rfl hl (by decide) rfl (fun ls hl => ?_)
  refine lv_iload_n hx hb dJ5_ensureCapacityInternal_d00df_11 rfl (lv_at hl 2 rfl) ?_
  refine lv_iload_n hx hb dJ5_ensureCapacityInternal_d00df_12 rfl (lv_at hl 0 rfl) ?_
  refine lv_isub hx hb dJ5_ensureCapacityInternal_d00df_13 ?_
  refine lv_topi (fun v2 ev2 => ?_)
  have ev2 : v2 = -7 := ev2.trans (by decide +kernel)
  subst ev2
  refine lv_if_le (tgt := 38) hx hb dJ5_ensureCapacityInternal_d00df_14 (by decide) (fun _ => ?_) (fun c9 => absurd (by decide) c9)
  have hP9 := hP.sub (ws' := [(h0, .inr (1, [.ref bv, .int 0, w1, w2])), (bv, .inl (y 0, 34, .inl g))]) [0, 1] rfl
  have hD9 := hD.sub (ws' := [(h0, .inr (1, [.ref bv, .int 0, w1, w2])), (bv, .inl (y 0, 34, .inl g))]) [0, 1] (by decide) rfl
  refine W.widen (k := 0) (n := 0) (Nat.le_of_ble_eq_true rfl) (Nat.le_of_ble_eq_true rfl) ?_
  exact W.vret hx hb hr (fun t ht hW => ⟨⟨(), rfl, trivial, by rw [ht]; exact hP9, hD9⟩, hS.F ht⟩) hS.2.2 dJ5_ensureCapacityInternal_d00df_38
def wz_c_getBytes_10_22_34 : List Cond := .code yJ0_getBytes_840e7 cJ0_getBytes_840e7 4 none :: ([.methodLink RJ0 335 yJ0_coder_7d493, .instanceMethod yJ0_coder_7d493, .selects RJ0 yJ0_coder_7d493 yJ0_coder_7d493, .initialized RJ0, .fieldLink RJ0 9 "java/lang/String" "value" "[B", .methodLink RJ0 212 arraycopyName, .native arraycopyName, .static arraycopyName, .initialized "java/lang/System"] ++ (wz_c_coder_o ++ ([])))
set_option maxRecDepth 100000 in
theorem gz_c_getBytes_10_22_34_c_coder_o : GoodIn wz_c_getBytes_10_22_34 wz_c_coder_o := goodIn_sub (fun w h => List.mem_cons_of_mem _ (List.mem_append_right _ (List.mem_append_left _ h))) (by decide +kernel)
set_option maxRecDepth 100000 in
theorem gv_c_getBytes_10_22_34_c_coder_o_335 : GoodIn wz_c_getBytes_10_22_34 (wsV RJ0 335 RJ0 yJ0_coder_7d493 wz_c_coder_o) := goodIn_app (goodIn_of _ (by decide +kernel)) gz_c_getBytes_10_22_34_c_coder_o
set_option maxHeartbeats 4000000 in
set_option maxRecDepth 100000 in
theorem c_getBytes_10_22_34 (l : Launch) (D : va_G) (y : Nat → ClassId) (sz : Nat) (bv : Nat) (sx : Nat) (tx : Nat) (g : Nat → Int32) : Met l yJ0_getBytes_840e7 wz_c_getBytes_10_22_34 ({ frames := 1, cells := 0, slots := 0, locals := 60 }) (va_Pc [.ref sx, .ref bv, .int 22, .int 0] (zB D y [(bv, .inl (y 0, 34, .inl g))] sz [] [("java/lang/String", "COMPACT_STRINGS", "Z", .int 1)] [] [.inr (.inl (sx, tx, 5, zs10))])) (va_Qv (fun _ : Unit => True) (fun _ t => va_P D vwCl [(bv, .inl (y 0, 34, .inl (va_cpy zs10 g (0 : Int32).toNatClampNeg (22 : Int32).toNatClampNeg (5 : Int32).toNatClampNeg)))] t.heap ∧ va_D (va_A [(bv, .inl (y 0, 34, .inl g))] sz) [(bv, .inl (y 0, 34, .inl (va_cpy zs10 g (0 : Int32).toNatClampNeg (22 : Int32).toNatClampNeg (5 : Int32).toNatClampNeg)))]) (va_A [(bv, .inl (y 0, 34, .inl g))] sz)) 0 0 (va_A [(bv, .inl (y 0, 34, .inl g))] sz) := by
  refine Met.ofW (cc := cJ0_getBytes_840e7) (maxL := 4) (ret := none) (by decide) rfl ?_
  intro p e s m args below meth c s₁ B hml hv
  obtain ⟨rfl, hsz, hP, hK, hD0, hN, hE, hO, hT, hG⟩ := hv
  have hx := B.exec
  have hb := B.bytes
  have hr := B.returns
  have hts := atoms_spec (ws := wz_c_getBytes_10_22_34) B.pre
  have hown : s.vm.findClass RJ0 = some m.cls := findClass_of_methodNamed B.named
  have hlocks := B.notSynchronized
  subst hsz
  have hD := hD0.self (sz := s.heap.size)
  generalize hAe : va_A [(bv, .inl (y 0, 34, .inl g))] s.heap.size = A at hD hE hT hG ⊢
  have hA : ∀ q : Nat, s.heap.size ≤ q → A q := fun q h => by rw [← hAe]; exact Or.inr h
  have hS : va_S A s.heap s.heap [] := va_S.rf
  have hl := lv_entry ([.ref sx, .ref bv, .int 22, .int 0]) (n := 4) (Nat.le_of_ble_eq_true rfl)
  rw [lg_entry_eq]
  generalize (lg_sl ([.ref sx, .ref bv, .int 22, .int 0]) ++ List.replicate (4 - (lg_sl ([.ref sx, .ref bv, .int 22, .int 0])).length) Slot.unset).toArray = ls at hl ⊢
  have hl : lv_has ls 4 [(0, .ref sx), (1, .ref bv), (2, .int 22), (3, .int 0)] := hl
  refine lv_aload_n hx hb dJ0_getBytes_840e7_0 rfl (lv_at hl 0 rfl) ?_
  have hPc := hP.sub (ws' := []) [] rfl
  have hDc := hD.sub (ws' := []) [] (by decide) rfl
  have hFc := va_free (wc := []) hD hS hA [] rfl
  refine va_calli (va_runV (As := []) (rest := []) ⟨hx, hb, hml, hown, hts⟩ (c_coder_o l D y s.heap.size sx tx 5 zs10) (cwV 0 hts gv_c_getBytes_10_22_34_c_coder_o_335 rfl rfl rfl (by decide +kernel) ⟨(Nat.le_of_ble_eq_true rfl), (Nat.le_of_ble_eq_true rfl)⟩) (zB.preV hPc hDc hK hN hE hO hT hG hS hFc (fun _ h => nomatch h) (List.forall_mem_cons.mpr ⟨List.mem_of_getElem? (i := 0) rfl, (fun _ h => nomatch h)⟩) (fun _ h => nomatch h) (List.forall_mem_cons.mpr ⟨List.mem_of_getElem? (i := 0) rfl, (fun _ h => nomatch h)⟩) (zStr.recv (show zStr sx tx 5 zs10 A s s.heap from (hG (.inr (.inl (sx, tx, 5, zs10))) (List.mem_of_getElem? (i := 0) rfl))) hS)) rfl rfl hl.1 rfl (lv_room (Nat.le_of_ble_eq_true rfl)) dJ0_getBytes_840e7_1 ⟨(Nat.le_of_ble_eq_true rfl), (Nat.le_of_ble_eq_true rfl)⟩) hS (fun q _ h => hFc q h) hFc (fun r1 u t H1 locs ht hvm hw hB hz1 hk1 hS => ?_)
  obtain ⟨hP1, hD1⟩ := hB
  rw [ht] at hP1
  obtain ⟨hP, hD⟩ := va_join (wr := [(bv, .inl (y 0, 34, .inl g))]) (w1 := []) hP hD [] [0] rfl rfl (by decide) (by decide) hk1 hFc hP1 hD1
  generalize H1 = H at hP hS ⊢
  have hP : va_P D vwCl [(bv, .inl (y 0, 34, .inl g))] H := hP
  have hD : va_D A [(bv, .inl (y 0, 34, .inl g))] := hD
  have hw : r1 = 0 := hw
  subst hw
  refine lv_iload_n hx hb dJ0_getBytes_840e7_4 rfl (lv_at hl 3 rfl) ?_
  refine lv_icmp_ne (tgt := 28) hx hb dJ0_getBytes_840e7_5 (by decide) (fun c9 => absurd (by decide) c9) (fun _ => ?_)
  refine lv_aload_n hx hb dJ0_getBytes_840e7_8 rfl (lv_at hl 0 rfl) ?_
  refine vk_getf hx hb (show zStr sx tx 5 zs10 A s s.heap from (hG (.inr (.inl (sx, tx, 5, zs10))) (List.mem_of_getElem? (i := 0) rfl))).2.2.1 hS hown (hts (.fieldLink RJ0 9 "java/lang/String" "value" "[B") (by decide +kernel)) (fun _ h9 => h9) dJ0_getBytes_840e7_9 ?_
  refine lv_iconst (v := 0) hx hb dJ0_getBytes_840e7_12 (by decide) ?_
  refine lv_aload_n hx hb dJ0_getBytes_840e7_13 rfl (lv_at hl 1 rfl) ?_
  refine lv_iload_n hx hb dJ0_getBytes_840e7_14 rfl (lv_at hl 2 rfl) ?_
  refine lv_iload_n hx hb dJ0_getBytes_840e7_15 rfl (lv_at hl 3 rfl) ?_
  refine lv_ishl hx hb dJ0_getBytes_840e7_16 ?_
  refine lv_topi (fun v2 ev2 => ?_)
  have ev2 : v2 = 22 := ev2.trans (by decide +kernel)
  subst ev2
  refine lv_aload_n hx hb dJ0_getBytes_840e7_17 rfl (lv_at hl 0 rfl) ?_
  refine vk_getf hx hb (show zStr sx tx 5 zs10 A s s.heap from (hG (.inr (.inl (sx, tx, 5, zs10))) (List.mem_of_getElem? (i := 0) rfl))).2.2.1 hS hown (hts (.fieldLink RJ0 9 "java/lang/String" "value" "[B") (by decide +kernel)) (fun _ h9 => h9) dJ0_getBytes_840e7_18 ?_
  refine va_tlen (v := 5) hx hb (show zStr sx tx 5 zs10 A s s.heap from (hG (.inr (.inl (sx, tx, 5, zs10))) (List.mem_of_getElem? (i := 0) rfl))).2.2.2 hS (by decide) dJ0_getBytes_840e7_21 ?_
  refine vk_copyt (sp := 0) (dp := 22) (n := 5) (f := zs10) hx hb (hml.trans hl.1.symm) hown (hts (.methodLink RJ0 212 arraycopyName) (by decide +kernel)) (hts (.native arraycopyName) (by decide +kernel)) (hts (.static arraycopyName) (by decide +kernel)) (hts (.initialized "java/lang/System") (by decide +kernel)) hK hP hD hS (show zStr sx tx 5 zs10 A s s.heap from (hG (.inr (.inl (sx, tx, 5, zs10))) (List.mem_of_getElem? (i := 0) rfl))).2.2.2 0 0 rfl rfl (by decide +kernel) (by decide +kernel) (by decide +kernel) (by decide +kernel) (by decide +kernel) (by decide +kernel) (Nat.le_of_ble_eq_true rfl) (Nat.le_of_ble_eq_true rfl) dJ0_getBytes_840e7_22 (fun H locs hP hD hS => ?_)
  have hP : va_P D vwCl [(bv, .inl (y 0, 34, .inl (va_cpy zs10 g (0 : Int32).toNatClampNeg (22 : Int32).toNatClampNeg (5 : Int32).toNatClampNeg)))] H := hP
  have hD : va_D A [(bv, .inl (y 0, 34, .inl (va_cpy zs10 g (0 : Int32).toNatClampNeg (22 : Int32).toNatClampNeg (5 : Int32).toNatClampNeg)))] := hD
  refine lv_goto (tgt := 43) hx hb dJ0_getBytes_840e7_25 (by decide) ?_
  have hP9 := hP.sub (ws' := [(bv, .inl (y 0, 34, .inl (va_cpy zs10 g (0 : Int32).toNatClampNeg (22 : Int32).toNatClampNeg (5 : Int32).toNatClampNeg)))]) [0] rfl
  have hD9 := hD.sub (ws' := [(bv, .inl (y 0, 34, .inl (va_cpy zs10 g (0 : Int32).toNatClampNeg (22 : Int32).toNatClampNeg (5 : Int32).toNatClampNeg)))]) [0] (by decide) rfl
  refine W.widen (k := 0) (n := 0) (Nat.le_of_ble_eq_true rfl) (Nat.le_of_ble_eq_true rfl) ?_
  exact W.vret hx hb hr (fun t ht hW => ⟨⟨(), rfl, trivial, by rw [ht]; exact hP9, hD9⟩, hS.F ht⟩) hS.2.2 dJ0_getBytes_840e7_43
def wz_c_putStr_10_22_34 : List Cond := .code yJ5_putStringAt_47b60 cJ5_putStringAt_47b60 3 none :: ([.methodLink RJ5 397 ⟨"java/lang/AbstractStringBuilder", "inflateIfNeededFor", "(Ljava/lang/String;)V"⟩, .sameMethod "java/lang/AbstractStringBuilder" "java/lang/AbstractStringBuilder" "inflateIfNeededFor" "(Ljava/lang/String;)V", .selects RJ4 ⟨"java/lang/AbstractStringBuilder", "inflateIfNeededFor", "(Ljava/lang/String;)V"⟩ yJ5_inflateIfNeededFor_a7421, .instanceMethod yJ5_inflateIfNeededFor_a7421, .initialized RJ5, .fieldLink RJ5 15 "java/lang/AbstractStringBuilder" "value" "[B", .fieldLink RJ5 22 "java/lang/AbstractStringBuilder" "coder" "B", .methodLink RJ5 399 yJ0_getBytes_840e7, .instanceMethod yJ0_getBytes_840e7, .selects RJ0 yJ0_getBytes_840e7 yJ0_getBytes_840e7, .initialized RJ0] ++ (wsJ40 ++ (wz_c_inflIf ++ (wz_c_getBytes_10_22_34 ++ ([])))))
set_option maxRecDepth 100000 in
theorem gz_c_putStr_10_22_34_c_inflIf : GoodIn wz_c_putStr_10_22_34 wz_c_inflIf := goodIn_sub (fun w h => List.mem_cons_of_mem _ (List.mem_append_right _ (List.mem_append_right _ (List.mem_append_left _ h)))) (by decide +kernel)
set_option maxRecDepth 100000 in
theorem gz_c_putStr_10_22_34_c_getBytes_10_22_34 : GoodIn wz_c_putStr_10_22_34 wz_c_getBytes_10_22_34 := goodIn_sub (fun w h => List.mem_cons_of_mem _ (List.mem_append_right _ (List.mem_append_right _ (List.mem_append_right _ (List.mem_append_left _ h))))) (by decide +kernel)
set_option maxRecDepth 100000 in
theorem gv_c_putStr_10_22_34_c_inflIf_397 : GoodIn wz_c_putStr_10_22_34 (va_wsU RJ5 397 RJ4 "java/lang/AbstractStringBuilder" ⟨"java/lang/AbstractStringBuilder", "inflateIfNeededFor", "(Ljava/lang/String;)V"⟩ yJ5_inflateIfNeededFor_a7421 wz_c_inflIf) := goodIn_app (goodIn_of _ (by decide +kernel)) gz_c_putStr_10_22_34_c_inflIf
set_option maxRecDepth 100000 in
theorem gv_c_putStr_10_22_34_c_getBytes_10_22_34_399 : GoodIn wz_c_putStr_10_22_34 (wsV RJ5 399 RJ0 yJ0_getBytes_840e7 wz_c_getBytes_10_22_34) := goodIn_app (goodIn_of _ (by decide +kernel)) gz_c_putStr_10_22_34_c_getBytes_10_22_34
set_option maxHeartbeats 4000000 in
set_option maxRecDepth 100000 in
theorem c_putStr_10_22_34 (l : Launch) (D : va_G) (y : Nat → ClassId) (sz : Nat) (h0 : Nat) (bv : Nat) (w1 : Value) (w2 : Value) (sx : Nat) (tx : Nat) (g : Nat → Int32) : Met l yJ5_putStringAt_47b60 wz_c_putStr_10_22_34 ({ frames := 2, cells := 0, slots := 0, locals := 83 }) (va_Pc [.ref h0, .int 22, .ref sx] (zB D y [(h0, .inr (1, [.ref bv, .int 0, w1, w2])), (bv, .inl (y 0, 34, .inl g))] sz [] [("java/lang/String", "COMPACT_STRINGS", "Z", .int 1)] [] [.inr (.inl (sx, tx, 5, zs10))])) (va_Qv (fun _ : Unit => True) (fun _ t => va_P D vwCl [(h0, .inr (1, [.ref bv, .int 0, w1, w2])), (bv, .inl (y 0, 34, .inl (va_cpy zs10 g (0 : Int32).toNatClampNeg (22 : Int32).toNatClampNeg (5 : Int32).toNatClampNeg)))] t.heap ∧ va_D (va_A [(h0, .inr (1, [.ref bv, .int 0, w1, w2])), (bv, .inl (y 0, 34, .inl g))] sz) [(h0, .inr (1, [.ref bv, .int 0, w1, w2])), (bv, .inl (y 0, 34, .inl (va_cpy zs10 g (0 : Int32).toNatClampNeg (22 : Int32).toNatClampNeg (5 : Int32).toNatClampNeg)))]) (va_A [(h0, .inr (1, [.ref bv, .int 0, w1, w2])), (bv, .inl (y 0, 34, .inl g))] sz)) 0 0 (va_A [(h0, .inr (1, [.ref bv, .int 0, w1, w2])), (bv, .inl (y 0, 34, .inl g))] sz) := by
  refine Met.ofW (cc := cJ5_putStringAt_47b60) (maxL := 3) (ret := none) (by decide) rfl ?_
  intro p e s m args below meth c s₁ B hml hv
  obtain ⟨rfl, hsz, hP, hK, hD0, hN, hE, hO, hT, hG⟩ := hv
  have hx := B.exec
  have hb := B.bytes
  have hr := B.returns
  have hts := atoms_spec (ws := wz_c_putStr_10_22_34) B.pre
  have hown : s.vm.findClass RJ5 = some m.cls := findClass_of_methodNamed B.named
  have hlocks := B.notSynchronized
  subst hsz
  have hD := hD0.self (sz := s.heap.size)
  generalize hAe : va_A [(h0, .inr (1, [.ref bv, .int 0, w1, w2])), (bv, .inl (y 0, 34, .inl g))] s.heap.size = A at hD hE hT hG ⊢
  have hA : ∀ q : Nat, s.heap.size ≤ q → A q := fun q h => by rw [← hAe]; exact Or.inr h
  have hS : va_S A s.heap s.heap [] := va_S.rf
  have hl := lv_entry ([.ref h0, .int 22, .ref sx]) (n := 3) (Nat.le_of_ble_eq_true rfl)
  rw [lg_entry_eq]
  generalize (lg_sl ([.ref h0, .int 22, .ref sx]) ++ List.replicate (3 - (lg_sl ([.ref h0, .int 22, .ref sx])).length) Slot.unset).toArray = ls at hl ⊢
  have hl : lv_has ls 3 [(0, .ref h0), (1, .int 22), (2, .ref sx)] := hl
  refine lv_aload_n hx hb dJ5_putStringAt_47b60_0 rfl (lv_at hl 0 rfl) ?_
  refine lv_aload_n hx hb dJ5_putStringAt_47b60_1 rfl (lv_at hl 2 rfl) ?_
  have hPc := hP.sub (ws' := [(h0, .inr (1, [.ref bv, .int 0, w1, w2]))]) [0] rfl
  have hDc := hD.sub (ws' := [(h0, .inr (1, [.ref bv, .int 0, w1, w2]))]) [0] (by decide) rfl
  have hFc := va_free (wc := [(h0, .inr (1, [.ref bv, .int 0, w1, w2]))]) hD hS hA [0] rfl
  refine va_callv (va_runU (As := [.ref sx]) (rest := []) ⟨hx, hb, hml, hown, hts⟩ (c_inflIf l D y s.heap.size h0 ((.ref bv)) w1 w2 sx tx 5 zs10) (va_cwU 1 hts gv_c_putStr_10_22_34_c_inflIf_397 rfl rfl rfl rfl (by decide +kernel) ⟨(Nat.le_of_ble_eq_true rfl), (Nat.le_of_ble_eq_true rfl)⟩) (zB.preV hPc hDc hK hN hE hO hT hG hS hFc (fun _ h => nomatch h) (List.forall_mem_cons.mpr ⟨List.mem_of_getElem? (i := 0) rfl, (fun _ h => nomatch h)⟩) (fun _ h => nomatch h) (List.forall_mem_cons.mpr ⟨List.mem_of_getElem? (i := 0) rfl, (fun _ h => nomatch h)⟩) (va_recv hK hPc (ci := 1) (q0 := 0) rfl rfl)) rfl rfl hl.1 rfl (lv_room (Nat.le_of_ble_eq_true rfl)) dJ5_putStringAt_47b60_2 ⟨(Nat.le_of_ble_eq_true rfl), (Nat.le_of_ble_eq_true rfl)⟩) hS (fun q _ h => hFc q h) hFc (fun u t H1 locs ht hvm hw hB hz1 hk1 hS => ?_)
  obtain ⟨hP1, hD1⟩ := hB
  rw [ht] at hP1
  obtain ⟨hP, hD⟩ := va_join (wr := [(bv, .inl (y 0, 34, .inl g))]) (w1 := [(h0, .inr (1, [.ref bv, .int 0, w1, w2]))]) hP hD [0] [1] rfl rfl (by decide) (by decide) hk1 hFc hP1 hD1
  generalize H1 = H at hP hS ⊢
  have hP : va_P D vwCl [(bv, .inl (y 0, 34, .inl g)), (h0, .inr (1, [.ref bv, .int 0, w1, w2]))] H := hP
  have hD : va_D A [(bv, .inl (y 0, 34, .inl g)), (h0, .inr (1, [.ref bv, .int 0, w1, w2]))] := hD
  refine lv_aload_n hx hb dJ5_putStringAt_47b60_5 rfl (lv_at hl 2 rfl) ?_
  refine lv_aload_n hx hb dJ5_putStringAt_47b60_6 rfl (lv_at hl 0 rfl) ?_
  refine va_get (D := D) (ci := 1) (v := .ref bv) (C := RJ4) (T := TJ4) (N := 4) hx hb hts (by decide +kernel) hown hK hP 1 rfl rfl 0 (by decide) (hts (.fieldLink RJ5 15 "java/lang/AbstractStringBuilder" "value" "[B") (by decide +kernel)) (fun _ h9 => h9) rfl dJ5_putStringAt_47b60_7 ?_
  refine lv_iload_n hx hb dJ5_putStringAt_47b60_10 rfl (lv_at hl 1 rfl) ?_
  refine lv_aload_n hx hb dJ5_putStringAt_47b60_11 rfl (lv_at hl 0 rfl) ?_
  refine va_get (D := D) (ci := 1) (v := .int 0) (C := RJ4) (T := TJ4) (N := 4) hx hb hts (by decide +kernel) hown hK hP 1 rfl rfl 1 (by decide) (hts (.fieldLink RJ5 22 "java/lang/AbstractStringBuilder" "coder" "B") (by decide +kernel)) (fun _ h9 => h9) rfl dJ5_putStringAt_47b60_12 ?_
  have hPc := hP.sub (ws' := [(bv, .inl (y 0, 34, .inl g))]) [0] rfl
  have hDc := hD.sub (ws' := [(bv, .inl (y 0, 34, .inl g))]) [0] (by decide) rfl
  have hFc := va_free (wc := [(bv, .inl (y 0, 34, .inl g))]) hD hS hA [0] rfl
  refine va_callv (va_runV (As := [.ref bv, .int 22, .int 0]) (rest := []) ⟨hx, hb, hml, hown, hts⟩ (c_getBytes_10_22_34 l D y H.size bv sx tx g) (cwV 3 hts gv_c_putStr_10_22_34_c_getBytes_10_22_34_399 rfl rfl rfl (by decide +kernel) ⟨(Nat.le_of_ble_eq_true rfl), (Nat.le_of_ble_eq_true rfl)⟩) (zB.preV hPc hDc hK hN hE hO hT hG hS hFc (fun _ h => nomatch h) (List.forall_mem_cons.mpr ⟨List.mem_of_getElem? (i := 0) rfl, (fun _ h => nomatch h)⟩) (fun _ h => nomatch h) (List.forall_mem_cons.mpr ⟨List.mem_of_getElem? (i := 0) rfl, (fun _ h => nomatch h)⟩) (zStr.recv (show zStr sx tx 5 zs10 A s s.heap from (hG (.inr (.inl (sx, tx, 5, zs10))) (List.mem_of_getElem? (i := 0) rfl))) hS)) rfl rfl hl.1 rfl (lv_room (Nat.le_of_ble_eq_true rfl)) dJ5_putStringAt_47b60_15 ⟨(Nat.le_of_ble_eq_true rfl), (Nat.le_of_ble_eq_true rfl)⟩) hS (fun q _ h => hFc q h) hFc (fun u t H1 locs ht hvm hw hB hz1 hk1 hS => ?_)
  obtain ⟨hP1, hD1⟩ := hB
  rw [ht] at hP1
  obtain ⟨hP, hD⟩ := va_join (wr := [(h0, .inr (1, [.ref bv, .int 0, w1, w2]))]) (w1 := [(bv, .inl (y 0, 34, .inl (va_cpy zs10 g (0 : Int32).toNatClampNeg (22 : Int32).toNatClampNeg (5 : Int32).toNatClampNeg)))]) hP hD [0] [1] rfl rfl (by decide) (by decide) hk1 hFc hP1 hD1
  generalize H1 = H at hP hS ⊢
  have hP : va_P D vwCl [(h0, .inr (1, [.ref bv, .int 0, w1, w2])), (bv, .inl (y 0, 34, .inl (va_cpy zs10 g (0 : Int32).toNatClampNeg (22 : Int32).toNatClampNeg (5 : Int32).toNatClampNeg)))] H := hP
  have hD : va_D A [(h0, .inr (1, [.ref bv, .int 0, w1, w2])), (bv, .inl (y 0, 34, .inl (va_cpy zs10 g (0 : Int32).toNatClampNeg (22 : Int32).toNatClampNeg (5 : Int32).toNatClampNeg)))] := hD
  have hP9 := hP.sub (ws' := [(h0, .inr (1, [.ref bv, .int 0, w1, w2])), (bv, .inl (y 0, 34, .inl (va_cpy zs10 g (0 : Int32).toNatClampNeg (22 : Int32).toNatClampNeg (5 : Int32).toNatClampNeg)))]) [0, 1] rfl
  have hD9 := hD.sub (ws' := [(h0, .inr (1, [.ref bv, .int 0, w1, w2])), (bv, .inl (y 0, 34, .inl (va_cpy zs10 g (0 : Int32).toNatClampNeg (22 : Int32).toNatClampNeg (5 : Int32).toNatClampNeg)))]) [0, 1] (by decide) rfl
  refine W.widen (k := 0) (n := 0) (Nat.le_of_ble_eq_true rfl) (Nat.le_of_ble_eq_true rfl) ?_
  exact W.vret hx hb hr (fun t ht hW => ⟨⟨(), rfl, trivial, by rw [ht]; exact hP9, hD9⟩, hS.F ht⟩) hS.2.2 dJ5_putStringAt_47b60_18
def wz_c_ASBapp_10_22_34 : List Cond := .code yJ5_append_cf1ce cJ5_append_cf1ce 3 (some (.object "java/lang/AbstractStringBuilder")) :: ([.methodLink RJ5 32 yJ0_length_8abf5, .instanceMethod yJ0_length_8abf5, .selects RJ0 yJ0_length_8abf5 yJ0_length_8abf5, .initialized RJ0, .fieldLink RJ5 79 "java/lang/AbstractStringBuilder" "count" "I", .methodLink RJ5 100 ⟨"java/lang/AbstractStringBuilder", "ensureCapacityInternal", "(I)V"⟩, .sameMethod "java/lang/AbstractStringBuilder" "java/lang/AbstractStringBuilder" "ensureCapacityInternal" "(I)V", .selects RJ4 ⟨"java/lang/AbstractStringBuilder", "ensureCapacityInternal", "(I)V"⟩ yJ5_ensureCapacityInternal_d00df, .instanceMethod yJ5_ensureCapacityInternal_d00df, .initialized RJ5, .methodLink RJ5 208 ⟨"java/lang/AbstractStringBuilder", "putStringAt", "(ILjava/lang/String;)V"⟩, .sameMethod "java/lang/AbstractStringBuilder" "java/lang/AbstractStringBuilder" "putStringAt" "(ILjava/lang/String;)V", .selects RJ4 ⟨"java/lang/AbstractStringBuilder", "putStringAt", "(ILjava/lang/String;)V"⟩ yJ5_putStringAt_47b60, .instanceMethod yJ5_putStringAt_47b60] ++ (wsJ40 ++ (wz_c_len_o_5 ++ (wz_c_ens_34_27 ++ (wz_c_putStr_10_22_34 ++ ([]))))))
set_option maxRecDepth 100000 in
theorem gz_c_ASBapp_10_22_34_c_len_o_5 : GoodIn wz_c_ASBapp_10_22_34 wz_c_len_o_5 := goodIn_sub (fun w h => List.mem_cons_of_mem _ (List.mem_append_right _ (List.mem_append_right _ (List.mem_append_left _ h)))) (by decide +kernel)
set_option maxRecDepth 100000 in
theorem gz_c_ASBapp_10_22_34_c_ens_34_27 : GoodIn wz_c_ASBapp_10_22_34 wz_c_ens_34_27 := goodIn_sub (fun w h => List.mem_cons_of_mem _ (List.mem_append_right _ (List.mem_append_right _ (List.mem_append_right _ (List.mem_append_left _ h))))) (by decide +kernel)
set_option maxRecDepth 100000 in
theorem gz_c_ASBapp_10_22_34_c_putStr_10_22_34 : GoodIn wz_c_ASBapp_10_22_34 wz_c_putStr_10_22_34 := goodIn_sub (fun w h => List.mem_cons_of_mem _ (List.mem_append_right _ (List.mem_append_right _ (List.mem_append_right _ (List.mem_append_right _ (List.mem_append_left _ h)))))) (by decide +kernel)
set_option maxRecDepth 100000 in
theorem gv_c_ASBapp_10_22_34_c_len_o_5_32 : GoodIn wz_c_ASBapp_10_22_34 (wsV RJ5 32 RJ0 yJ0_length_8abf5 wz_c_len_o_5) := goodIn_app (goodIn_of _ (by decide +kernel)) gz_c_ASBapp_10_22_34_c_len_o_5
set_option maxRecDepth 100000 in
theorem gv_c_ASBapp_10_22_34_c_ens_34_27_100 : GoodIn wz_c_ASBapp_10_22_34 (va_wsU RJ5 100 RJ4 "java/lang/AbstractStringBuilder" ⟨"java/lang/AbstractStringBuilder", "ensureCapacityInternal", "(I)V"⟩ yJ5_ensureCapacityInternal_d00df wz_c_ens_34_27) := goodIn_app (goodIn_of _ (by decide +kernel)) gz_c_ASBapp_10_22_34_c_ens_34_27
set_option maxRecDepth 100000 in
theorem gv_c_ASBapp_10_22_34_c_putStr_10_22_34_208 : GoodIn wz_c_ASBapp_10_22_34 (va_wsU RJ5 208 RJ4 "java/lang/AbstractStringBuilder" ⟨"java/lang/AbstractStringBuilder", "putStringAt", "(ILjava/lang/String;)V"⟩ yJ5_putStringAt_47b60 wz_c_putStr_10_22_34) := goodIn_app (goodIn_of _ (by decide +kernel)) gz_c_ASBapp_10_22_34_c_putStr_10_22_34
set_option maxHeartbeats 4000000 in
set_option maxRecDepth 100000 in
theorem c_ASBapp_10_22_34 (l : Launch) (D : va_G) (y : Nat → ClassId) (sz : Nat) (h0 : Nat) (bv : Nat) (w1 : Value) (sx : Nat) (tx : Nat) (g : Nat → Int32) : Met l yJ5_append_cf1ce wz_c_ASBapp_10_22_34 ({ frames := 3, cells := 0, slots := 0, locals := 105 }) (va_Pc [.ref h0, .ref sx] (zB D y [(h0, .inr (1, [.ref bv, .int 0, w1, .int 22])), (bv, .inl (y 0, 34, .inl g))] sz [] [("java/lang/String", "COMPACT_STRINGS", "Z", .int 1)] [] [.inr (.inl (sx, tx, 5, zs10))])) (va_Qq (fun (r : Option Nat) (_ : Unit) => r = some h0) (fun _ t => va_P D vwCl [(h0, .inr (1, [.ref bv, .int 0, w1, .int 27])), (bv, .inl (y 0, 34, .inl (va_cpy zs10 g (0 : Int32).toNatClampNeg (22 : Int32).toNatClampNeg (5 : Int32).toNatClampNeg)))] t.heap ∧ va_D (va_A [(h0, .inr (1, [.ref bv, .int 0, w1, .int 22])), (bv, .inl (y 0, 34, .inl g))] sz) [(h0, .inr (1, [.ref bv, .int 0, w1, .int 27])), (bv, .inl (y 0, 34, .inl (va_cpy zs10 g (0 : Int32).toNatClampNeg (22 : Int32).toNatClampNeg (5 : Int32).toNatClampNeg)))]) (va_A [(h0, .inr (1, [.ref bv, .int 0, w1, .int 22])), (bv, .inl (y 0, 34, .inl g))] sz)) 0 0 (va_A [(h0, .inr (1, [.ref bv, .int 0, w1, .int 22])), (bv, .inl (y 0, 34, .inl g))] sz) := by
  refine Met.ofW (cc := cJ5_append_cf1ce) (maxL := 3) (ret := (some (.object "java/lang/AbstractStringBuilder"))) (by decide) rfl ?_
  intro p e s m args below meth c s₁ B hml hv
  obtain ⟨rfl, hsz, hP, hK, hD0, hN, hE, hO, hT, hG⟩ := hv
  have hx := B.exec
  have hb := B.bytes
  have hr := B.returns
  have hts := atoms_spec (ws := wz_c_ASBapp_10_22_34) B.pre
  have hown : s.vm.findClass RJ5 = some m.cls := findClass_of_methodNamed B.named
  have hlocks := B.notSynchronized
  subst hsz
  have hD := hD0.self (sz := s.heap.size)
  generalize hAe : va_A [(h0, .inr (1, [.ref bv, .int 0, w1, .int 22])), (bv, .inl (y 0, 34, .inl g))] s.heap.size = A at hD hE hT hG ⊢
  have hA : ∀ q : Nat, s.heap.size ≤ q → A q := fun q h => by rw [← hAe]; exact Or.inr h
  have hS : va_S A s.heap s.heap [] := va_S.rf
  have hl := lv_entry ([.ref h0, .ref sx]) (n := 3) (Nat.le_of_ble_eq_true rfl)
  rw [lg_entry_eq]
  generalize (lg_sl ([.ref h0, .ref sx]) ++ List.replicate (3 - (lg_sl ([.ref h0, .ref sx])).length) Slot.unset).toArray = ls at hl ⊢
  have hl : lv_has ls 3 [(0, .ref h0), (1, .ref sx)] := hl
  refine lv_aload_n hx hb dJ5_append_cf1ce_0 rfl (lv_at hl 1 rfl) ?_
  refine lv_ifnonnull (tgt := 9) hx hb dJ5_append_cf1ce_1 (by decide) ?_
  refine lv_aload_n hx hb dJ5_append_cf1ce_9 rfl (lv_at hl 1 rfl) ?_
  have hPc := hP.sub (ws' := []) [] rfl
  have hDc := hD.sub (ws' := []) [] (by decide) rfl
  have hFc := va_free (wc := []) hD hS hA [] rfl
  refine va_calli (va_runV (As := []) (rest := []) ⟨hx, hb, hml, hown, hts⟩ (c_len_o_5 l D y s.heap.size sx tx zs10) (cwV 0 hts gv_c_ASBapp_10_22_34_c_len_o_5_32 rfl rfl rfl (by decide +kernel) ⟨(Nat.le_of_ble_eq_true rfl), (Nat.le_of_ble_eq_true rfl)⟩) (zB.preV hPc hDc hK hN hE hO hT hG hS hFc (fun _ h => nomatch h) (List.forall_mem_cons.mpr ⟨List.mem_of_getElem? (i := 0) rfl, (fun _ h => nomatch h)⟩) (fun _ h => nomatch h) (List.forall_mem_cons.mpr ⟨List.mem_of_getElem? (i := 0) rfl, (fun _ h => nomatch h)⟩) (zStr.recv (show zStr sx tx 5 zs10 A s s.heap from (hG (.inr (.inl (sx, tx, 5, zs10))) (List.mem_of_getElem? (i := 0) rfl))) hS)) rfl rfl hl.1 rfl (lv_room (Nat.le_of_ble_eq_true rfl)) dJ5_append_cf1ce_10 ⟨(Nat.le_of_ble_eq_true rfl), (Nat.le_of_ble_eq_true rfl)⟩) hS (fun q _ h => hFc q h) hFc (fun r1 u t H1 locs ht hvm hw hB hz1 hk1 hS => ?_)
  obtain ⟨hP1, hD1⟩ := hB
  rw [ht] at hP1
  obtain ⟨hP, hD⟩ := va_join (wr := [(h0, .inr (1, [.ref bv, .int 0, w1, .int 22])), (bv, .inl (y 0, 34, .inl g))]) (w1 := []) hP hD [] [0, 1] rfl rfl (by decide) (by decide) hk1 hFc hP1 hD1
  generalize H1 = H at hP hS ⊢
  have hP : va_P D vwCl [(h0, .inr (1, [.ref bv, .int 0, w1, .int 22])), (bv, .inl (y 0, 34, .inl g))] H := hP
  have hD : va_D A [(h0, .inr (1, [.ref bv, .int 0, w1, .int 22])), (bv, .inl (y 0, 34, .inl g))] := hD
  have hw : r1 = 5 := hw
  subst hw
  refine lv_istore_n (lv' := [(2, .int 5), (0, .ref h0), (1, .ref sx)]) hx hb dJ5_append_cf1ce_13 rfl hl (by decide) rfl (fun ls hl => ?_)
  refine lv_aload_n hx hb dJ5_append_cf1ce_14 rfl (lv_at hl 1 rfl) ?_
  refine lv_aload_n hx hb dJ5_append_cf1ce_15 rfl (lv_at hl 1 rfl) ?_
  refine va_get (D := D) (ci := 1) (v := .int 22) (C := RJ4) (T := TJ4) (N := 4) hx hb hts (by decide +kernel) hown hK hP 0 rfl rfl 3 (by decide) (hts (.fieldLink RJ5 79 "java/lang/AbstractStringBuilder" "count" "I") (by decide +kernel)) (fun _ h9 => h9) rfl dJ5_append_cf1ce_16 ?_
  refine lv_iload_n hx hb dJ5_append_cf1ce_19 rfl (lv_at hl 0 rfl) ?_
  refine lv_iadd hx hb dJ5_append_cf1ce_20 ?_
  refine lv_topi (fun v2 ev2 => ?_)
  have ev2 : v2 = 27 := ev2.trans (by decide +kernel)
  subst ev2
  have hPc := hP.sub (ws' := [(h0, .inr (1, [.ref bv, .int 0, w1, .int 22])), (bv, .inl (y 0, 34, .inl g))]) [0, 1] rfl
  have hDc := hD.sub (ws' := [(h0, .inr (1, [.ref bv, .int 0, w1, .int 22])), (bv, .inl (y 0, 34, .inl g))]) [0, 1] (by decide) rfl
  have hFc := va_free (wc := [(h0, .inr (1, [.ref bv, .int 0, w1, .int 22])), (bv, .inl (y 0, 34, .inl g))]) hD hS hA [0, 1] rfl
  refine va_callv (va_runU (As := [.int 27]) (rest := []) ⟨hx, hb, hml, hown, hts⟩ (c_ens_34_27 l D y H.size h0 bv w1 ((.int 22)) g) (va_cwU 1 hts gv_c_ASBapp_10_22_34_c_ens_34_27_100 rfl rfl rfl rfl (by decide +kernel) ⟨(Nat.le_of_ble_eq_true rfl), (Nat.le_of_ble_eq_true rfl)⟩) (zB.preV hPc hDc hK hN hE hO hT hG hS hFc (fun _ h => nomatch h) (fun _ h => nomatch h) (fun _ h => nomatch h) (fun _ h => nomatch h) (va_recv hK hPc (ci := 1) (q0 := 0) rfl rfl)) rfl rfl hl.1 rfl (lv_room (Nat.le_of_ble_eq_true rfl)) dJ5_append_cf1ce_21 ⟨(Nat.le_of_ble_eq_true rfl), (Nat.le_of_ble_eq_true rfl)⟩) hS (fun q _ h => hFc q h) hFc (fun u t H1 locs ht hvm hw hB hz1 hk1 hS => ?_)
  obtain ⟨hP1, hD1⟩ := hB
  rw [ht] at hP1
  obtain ⟨hP, hD⟩ := va_join (wr := []) (w1 := [(h0, .inr (1, [.ref bv, .int 0, w1, .int 22])), (bv, .inl (y 0, 34, .inl g))]) hP hD [0, 1] [] rfl rfl (by decide) (by decide) hk1 hFc hP1 hD1
  generalize H1 = H at hP hS ⊢
  have hP : va_P D vwCl [(h0, .inr (1, [.ref bv, .int 0, w1, .int 22])), (bv, .inl (y 0, 34, .inl g))] H := hP
  have hD : va_D A [(h0, .inr (1, [.ref bv, .int 0, w1, .int 22])), (bv, .inl (y 0, 34, .inl g))] := hD
  refine lv_aload_n hx hb dJ5_append_cf1ce_24 rfl (lv_at hl 1 rfl) ?_
  refine lv_aload_n hx hb dJ5_append_cf1ce_25 rfl (lv_at hl 1 rfl) ?_
  refine va_get (D := D) (ci := 1) (v := .int 22) (C := RJ4) (T := TJ4) (N := 4) hx hb hts (by decide +kernel) hown hK hP 0 rfl rfl 3 (by decide) (hts (.fieldLink RJ5 79 "java/lang/AbstractStringBuilder" "count" "I") (by decide +kernel)) (fun _ h9 => h9) rfl dJ5_append_cf1ce_26 ?_
  refine lv_aload_n hx hb dJ5_append_cf1ce_29 rfl (lv_at hl 2 rfl) ?_
  have hPc := hP.sub (ws' := [(h0, .inr (1, [.ref bv, .int 0, w1, .int 22])), (bv, .inl (y 0, 34, .inl g))]) [0, 1] rfl
  have hDc := hD.sub (ws' := [(h0, .inr (1, [.ref bv, .int 0, w1, .int 22])), (bv, .inl (y 0, 34, .inl g))]) [0, 1] (by decide) rfl
  have hFc := va_free (wc := [(h0, .inr (1, [.ref bv, .int 0, w1, .int 22])), (bv, .inl (y 0, 34, .inl g))]) hD hS hA [0, 1] rfl
  refine va_callv (va_runU (As := [.int 22, .ref sx]) (rest := []) ⟨hx, hb, hml, hown, hts⟩ (c_putStr_10_22_34 l D y H.size h0 bv w1 ((.int 22)) sx tx g) (va_cwU 2 hts gv_c_ASBapp_10_22_34_c_putStr_10_22_34_208 rfl rfl rfl rfl (by decide +kernel) ⟨(Nat.le_of_ble_eq_true rfl), (Nat.le_of_ble_eq_true rfl)⟩) (zB.preV hPc hDc hK hN hE hO hT hG hS hFc (fun _ h => nomatch h) (List.forall_mem_cons.mpr ⟨List.mem_of_getElem? (i := 0) rfl, (fun _ h => nomatch h)⟩) (fun _ h => nomatch h) (List.forall_mem_cons.mpr ⟨List.mem_of_getElem? (i := 0) rfl, (fun _ h => nomatch h)⟩) (va_recv hK hPc (ci := 1) (q0 := 0) rfl rfl)) rfl rfl hl.1 rfl (lv_room (Nat.le_of_ble_eq_true rfl)) dJ5_append_cf1ce_30 ⟨(Nat.le_of_ble_eq_true rfl), (Nat.le_of_ble_eq_true rfl)⟩) hS (fun q _ h => hFc q h) hFc (fun u t H1 locs ht hvm hw hB hz1 hk1 hS => ?_)
  obtain ⟨hP1, hD1⟩ := hB
  rw [ht] at hP1
  obtain ⟨hP, hD⟩ := va_join (wr := []) (w1 := [(h0, .inr (1, [.ref bv, .int 0, w1, .int 22])), (bv, .inl (y 0, 34, .inl (va_cpy zs10 g (0 : Int32).toNatClampNeg (22 : Int32).toNatClampNeg (5 : Int32).toNatClampNeg)))]) hP hD [0, 1] [] rfl rfl (by decide) (by decide) hk1 hFc hP1 hD1
  generalize H1 = H at hP hS ⊢
  have hP : va_P D vwCl [(h0, .inr (1, [.ref bv, .int 0, w1, .int 22])), (bv, .inl (y 0, 34, .inl (va_cpy zs10 g (0 : Int32).toNatClampNeg (22 : Int32).toNatClampNeg (5 : Int32).toNatClampNeg)))] H := hP
  have hD : va_D A [(h0, .inr (1, [.ref bv, .int 0, w1, .int 22])), (bv, .inl (y 0, 34, .inl (va_cpy zs10 g (0 : Int32).toNatClampNeg (22 : Int32).toNatClampNeg (5 : Int32).toNatClampNeg)))] := hD
  refine lv_aload_n hx hb dJ5_append_cf1ce_33 rfl (lv_at hl 1 rfl) ?_
  refine lv_dup hx hb dJ5_append_cf1ce_34 rfl ?_
  refine va_get (D := D) (ci := 1) (v := .int 22) (C := RJ4) (T := TJ4) (N := 4) hx hb hts (by decide +kernel) hown hK hP 0 rfl rfl 3 (by decide) (hts (.fieldLink RJ5 79 "java/lang/AbstractStringBuilder" "count" "I") (by decide +kernel)) (fun _ h9 => h9) rfl dJ5_append_cf1ce_35 ?_
  refine lv_iload_n hx hb dJ5_append_cf1ce_38 rfl (lv_at hl 0 rfl) ?_
  refine lv_iadd hx hb dJ5_append_cf1ce_39 ?_
  refine lv_topi (fun v3 ev3 => ?_)
  have ev3 : v3 = 27 := ev3.trans (by decide +kernel)
  subst ev3
  refine va_put (D := D) (ci := 1) (v := .int 27) (ty := .int) (C := RJ4) (T := TJ4) (N := 4) hx hb hts (by decide +kernel) tyJ4 tyJ4_ok nmJ4 hown hK hP hD hS 0 rfl rfl 3 (by decide) (hts (.fieldLink RJ5 79 "java/lang/AbstractStringBuilder" "count" "I") (by decide +kernel)) (fun _ h9 => h9) rfl (by decide +kernel) rfl rfl (Nat.le_of_ble_eq_true rfl) dJ5_append_cf1ce_40 (fun H locs hP hD hS => ?_)
  have hP : va_P D vwCl [(h0, .inr (1, [.ref bv, .int 0, w1, .int 27])), (bv, .inl (y 0, 34, .inl (va_cpy zs10 g (0 : Int32).toNatClampNeg (22 : Int32).toNatClampNeg (5 : Int32).toNatClampNeg)))] H := hP
  have hD : va_D A [(h0, .inr (1, [.ref bv, .int 0, w1, .int 27])), (bv, .inl (y 0, 34, .inl (va_cpy zs10 g (0 : Int32).toNatClampNeg (22 : Int32).toNatClampNeg (5 : Int32).toNatClampNeg)))] := hD
  refine lv_aload_n hx hb dJ5_append_cf1ce_43 rfl (lv_at hl 1 rfl) ?_
  have hP9 := hP.sub (ws' := [(h0, .inr (1, [.ref bv, .int 0, w1, .int 27])), (bv, .inl (y 0, 34, .inl (va_cpy zs10 g (0 : Int32).toNatClampNeg (22 : Int32).toNatClampNeg (5 : Int32).toNatClampNeg)))]) [0, 1] rfl
  have hD9 := hD.sub (ws' := [(h0, .inr (1, [.ref bv, .int 0, w1, .int 27])), (bv, .inl (y 0, 34, .inl (va_cpy zs10 g (0 : Int32).toNatClampNeg (22 : Int32).toNatClampNeg (5 : Int32).toNatClampNeg)))]) [0, 1] (by decide) rfl
  refine W.widen (k := 0) (n := 0) (Nat.le_of_ble_eq_true rfl) (Nat.le_of_ble_eq_true rfl) ?_
  exact W.aret (v := .ref h0) hx hb hr (Or.inl ⟨_, rfl⟩) (Or.inr ⟨_, rfl⟩) (fun t ht hW => ⟨⟨(some h0), (), rfl, rfl, by rw [ht]; exact hP9, hD9⟩, hS.F ht⟩) hS.2.2 dJ5_append_cf1ce_44
def wz_c_SBapp_10_22_34 : List Cond := .code yJ4_append_15ec4 cJ4_append_15ec4 2 (some (.object "java/lang/StringBuilder")) :: ([.methodLink RJ4 29 yJ5_append_cf1ce, .sameMethod RJ5 RJ5 "append" "(Ljava/lang/String;)Ljava/lang/AbstractStringBuilder;", .superclass RJ4 RJ5, .instanceMethod yJ5_append_cf1ce, .initialized RJ5] ++ (wz_c_ASBapp_10_22_34 ++ ([])))
set_option maxRecDepth 100000 in
theorem gz_c_SBapp_10_22_34_c_ASBapp_10_22_34 : GoodIn wz_c_SBapp_10_22_34 wz_c_ASBapp_10_22_34 := goodIn_sub (fun w h => List.mem_cons_of_mem _ (List.mem_append_right _ (List.mem_append_left _ h))) (by decide +kernel)
set_option maxRecDepth 100000 in
theorem gv_c_SBapp_10_22_34_c_ASBapp_10_22_34_29 : GoodIn wz_c_SBapp_10_22_34 (va_wsSU RJ4 29 yJ5_append_cf1ce wz_c_ASBapp_10_22_34) := goodIn_app (goodIn_of _ (by decide +kernel)) gz_c_SBapp_10_22_34_c_ASBapp_10_22_34
set_option maxHeartbeats 4000000 in
set_option maxRecDepth 100000 in
theorem c_SBapp_10_22_34 (l : Launch) (D : va_G) (y : Nat → ClassId) (sz : Nat) (h0 : Nat) (bv : Nat) (w1 : Value) (sx : Nat) (tx : Nat) (g : Nat → Int32) : Met l yJ4_append_15ec4 wz_c_SBapp_10_22_34 ({ frames := 4, cells := 0, slots := 0, locals := 127 }) (va_Pc [.ref h0, .ref sx] (zB D y [(h0, .inr (1, [.ref bv, .int 0, w1, .int 22])), (bv, .inl (y 0, 34, .inl g))] sz [] [("java/lang/String", "COMPACT_STRINGS", "Z", .int 1)] [] [.inr (.inl (sx, tx, 5, zs10))])) (va_Qq (fun (r : Option Nat) (_ : Unit) => r = some h0) (fun _ t => va_P D vwCl [(h0, .inr (1, [.ref bv, .int 0, w1, .int 27])), (bv, .inl (y 0, 34, .inl (va_cpy zs10 g (0 : Int32).toNatClampNeg (22 : Int32).toNatClampNeg (5 : Int32).toNatClampNeg)))] t.heap ∧ va_D (va_A [(h0, .inr (1, [.ref bv, .int 0, w1, .int 22])), (bv, .inl (y 0, 34, .inl g))] sz) [(h0, .inr (1, [.ref bv, .int 0, w1, .int 27])), (bv, .inl (y 0, 34, .inl (va_cpy zs10 g (0 : Int32).toNatClampNeg (22 : Int32).toNatClampNeg (5 : Int32).toNatClampNeg)))]) (va_A [(h0, .inr (1, [.ref bv, .int 0, w1, .int 22])), (bv, .inl (y 0, 34, .inl g))] sz)) 0 0 (va_A [(h0, .inr (1, [.ref bv, .int 0, w1, .int 22])), (bv, .inl (y 0, 34, .inl g))] sz) := by
  refine Met.ofW (cc := cJ4_append_15ec4) (maxL := 2) (ret := (some (.object "java/lang/StringBuilder"))) (by decide) rfl ?_
  intro p e s m args below meth c s₁ B hml hv
  obtain ⟨rfl, hsz, hP, hK, hD0, hN, hE, hO, hT, hG⟩ := hv
  have hx := B.exec
  have hb := B.bytes
  have hr := B.returns
  have hts := atoms_spec (ws := wz_c_SBapp_10_22_34) B.pre
  have hown : s.vm.findClass RJ4 = some m.cls := findClass_of_methodNamed B.named
  have hlocks := B.notSynchronized
  subst hsz
  have hD := hD0.self (sz := s.heap.size)
  generalize hAe : va_A [(h0, .inr (1, [.ref bv, .int 0, w1, .int 22])), (bv, .inl (y 0, 34, .inl g))] s.heap.size = A at hD hE hT hG ⊢
  have hA : ∀ q : Nat, s.heap.size ≤ q → A q := fun q h => by rw [← hAe]; exact Or.inr h
  have hS : va_S A s.heap s.heap [] := va_S.rf
  have hl := lv_entry ([.ref h0, .ref sx]) (n := 2) (Nat.le_of_ble_eq_true rfl)
  rw [lg_entry_eq]
  generalize (lg_sl ([.ref h0, .ref sx]) ++ List.replicate (2 - (lg_sl ([.ref h0, .ref sx])).length) Slot.unset).toArray = ls at hl ⊢
  have hl : lv_has ls 2 [(0, .ref h0), (1, .ref sx)] := hl
  refine lv_aload_n hx hb dJ4_append_15ec4_0 rfl (lv_at hl 0 rfl) ?_
  refine lv_aload_n hx hb dJ4_append_15ec4_1 rfl (lv_at hl 1 rfl) ?_
  have hPc := hP.sub (ws' := [(h0, .inr (1, [.ref bv, .int 0, w1, .int 22])), (bv, .inl (y 0, 34, .inl g))]) [0, 1] rfl
  have hDc := hD.sub (ws' := [(h0, .inr (1, [.ref bv, .int 0, w1, .int 22])), (bv, .inl (y 0, 34, .inl g))]) [0, 1] (by decide) rfl
  have hFc := va_free (wc := [(h0, .inr (1, [.ref bv, .int 0, w1, .int 22])), (bv, .inl (y 0, 34, .inl g))]) hD hS hA [0, 1] rfl
  refine va_callq (va_runSU (hK.1 1 _ rfl).2 (As := [.ref sx]) (rest := []) ⟨hx, hb, hml, hown, hts⟩ (c_ASBapp_10_22_34 l D y s.heap.size h0 bv w1 sx tx g) (va_cwSU 1 hts gv_c_SBapp_10_22_34_c_ASBapp_10_22_34_29 rfl rfl rfl (by decide +kernel) ⟨(Nat.le_of_ble_eq_true rfl), (Nat.le_of_ble_eq_true rfl)⟩) (zB.preV hPc hDc hK hN hE hO hT hG hS hFc (fun _ h => nomatch h) (List.forall_mem_cons.mpr ⟨List.mem_of_getElem? (i := 0) rfl, (fun _ h => nomatch h)⟩) (fun _ h => nomatch h) (List.forall_mem_cons.mpr ⟨List.mem_of_getElem? (i := 0) rfl, (fun _ h => nomatch h)⟩) (va_recv hK hPc (ci := 1) (q0 := 0) rfl rfl)) rfl rfl hl.1 rfl (lv_room (Nat.le_of_ble_eq_true rfl)) dJ4_append_15ec4_2 ⟨(Nat.le_of_ble_eq_true rfl), (Nat.le_of_ble_eq_true rfl)⟩) hS (fun q _ h => hFc q h) hFc (fun r1 u t H1 locs ht hvm hw hB hz1 hk1 hS => ?_)
  obtain ⟨hP1, hD1⟩ := hB
  rw [ht] at hP1
  obtain ⟨hP, hD⟩ := va_join (wr := []) (w1 := [(h0, .inr (1, [.ref bv, .int 0, w1, .int 27])), (bv, .inl (y 0, 34, .inl (va_cpy zs10 g (0 : Int32).toNatClampNeg (22 : Int32).toNatClampNeg (5 : Int32).toNatClampNeg)))]) hP hD [0, 1] [] rfl rfl (by decide) (by decide) hk1 hFc hP1 hD1
  generalize H1 = H at hP hS ⊢
  have hP : va_P D vwCl [(h0, .inr (1, [.ref bv, .int 0, w1, .int 27])), (bv, .inl (y 0, 34, .inl (va_cpy zs10 g (0 : Int32).toNatClampNeg (22 : Int32).toNatClampNeg (5 : Int32).toNatClampNeg)))] H := hP
  have hD : va_D A [(h0, .inr (1, [.ref bv, .int 0, w1, .int 27])), (bv, .inl (y 0, 34, .inl (va_cpy zs10 g (0 : Int32).toNatClampNeg (22 : Int32).toNatClampNeg (5 : Int32).toNatClampNeg)))] := hD
  have hw : r1 = some h0 := hw
  subst hw
  refine W.eq (g2 := F0 m 5 ls [.ref h0]) rfl ?_
  refine lv_pop hx hb dJ4_append_15ec4_5 rfl ?_
  refine lv_aload_n hx hb dJ4_append_15ec4_6 rfl (lv_at hl 0 rfl) ?_
  have hP9 := hP.sub (ws' := [(h0, .inr (1, [.ref bv, .int 0, w1, .int 27])), (bv, .inl (y 0, 34, .inl (va_cpy zs10 g (0 : Int32).toNatClampNeg (22 : Int32).toNatClampNeg (5 : Int32).toNatClampNeg)))]) [0, 1] rfl
  have hD9 := hD.sub (ws' := [(h0, .inr (1, [.ref bv, .int 0, w1, .int 27])), (bv, .inl (y 0, 34, .inl (va_cpy zs10 g (0 : Int32).toNatClampNeg (22 : Int32).toNatClampNeg (5 : Int32).toNatClampNeg)))]) [0, 1] (by decide) rfl
  refine W.widen (k := 0) (n := 0) (Nat.le_of_ble_eq_true rfl) (Nat.le_of_ble_eq_true rfl) ?_
  exact W.aret (v := .ref h0) hx hb hr (Or.inl ⟨_, rfl⟩) (Or.inr ⟨_, rfl⟩) (fun t ht hW => ⟨⟨(some h0), (), rfl, rfl, by rw [ht]; exact hP9, hD9⟩, hS.F ht⟩) hS.2.2 dJ4_append_15ec4_7
def zk3 : Nat → Int32 := va_cpy zs10 zk2 (0 : Int32).toNatClampNeg (22 : Int32).toNatClampNeg (5 : Int32).toNatClampNeg
def wz_c_chkLen_27 : List Cond := .code yJ7_checkLength_df160 cJ7_checkLength_df160 2 none :: ([] ++ ([]))
set_option maxHeartbeats 4000000 in
set_option maxRecDepth 100000 in
theorem c_chkLen_27 (l : Launch) (D : va_G) (y : Nat → ClassId) (sz : Nat)  : Met l yJ7_checkLength_df160 wz_c_chkLen_27 ({ frames := 0, cells := 0, slots := 0, locals := 0 }) (va_Pc [.int 0, .int 27] (zB D y [] sz [] [] [] [])) (va_Qv (fun _ : Unit => True) (fun _ t => va_P D vwCl [] t.heap ∧ va_D (va_A [] sz) []) (va_A [] sz)) 0 0 (va_A [] sz) := by
  refine Met.ofW (cc := cJ7_checkLength_df160) (maxL := 2) (ret := none) (by decide) rfl ?_
  intro p e s m args below meth c s₁ B hml hv
  obtain ⟨rfl, hsz, hP, hK, hD0, hN, hE, hO, hT, hG⟩ := hv
  have hx := B.exec
  have hb := B.bytes
  have hr := B.returns
  have hts := atoms_spec (ws := wz_c_chkLen_27) B.pre
  have hown : s.vm.findClass RJ7 = some m.cls := findClass_of_methodNamed B.named
  have hlocks := B.notSynchronized
  subst hsz
  have hD := hD0.self (sz := s.heap.size)
  generalize hAe : va_A [] s.heap.size = A at hD hE hT hG ⊢
  have hA : ∀ q : Nat, s.heap.size ≤ q → A q := fun q h => by rw [← hAe]; exact Or.inr h
  have hS : va_S A s.heap s.heap [] := va_S.rf
  have hl := lv_entry ([.int 0, .int 27]) (n := 2) (Nat.le_of_ble_eq_true rfl)
  rw [lg_entry_eq]
  generalize (lg_sl ([.int 0, .int 27]) ++ List.replicate (2 - (lg_sl ([.int 0, .int 27])).length) Slot.unset).toArray = ls at hl ⊢
  have hl : lv_has ls 2 [(0, .int 0), (1, .int 27)] := hl
  refine lv_iload_n hx hb dJ7_checkLength_df160_0 rfl (lv_at hl 1 rfl) ?_
  refine lv_iload_n hx hb dJ7_checkLength_df160_1 rfl (lv_at hl 0 rfl) ?_
  refine lv_icmp_ge (tgt := 37) hx hb dJ7_checkLength_df160_2 (by decide) (fun _ => ?_) (fun c9 => absurd (by decide) c9)
  have hP9 := hP.sub (ws' := []) [] rfl
  have hD9 := hD.sub (ws' := []) [] (by decide) rfl
  refine W.widen (k := 0) (n := 0) (Nat.le_of_ble_eq_true rfl) (Nat.le_of_ble_eq_true rfl) ?_
  exact W.vret hx hb hr (fun t ht hW => ⟨⟨(), rfl, trivial, by rw [ht]; exact hP9, hD9⟩, hS.F ht⟩) hS.2.2 dJ7_checkLength_df160_37
def zk4 : Nat → Int32 := va_cpy zk3 (fun _ => 0) (0 : Int32).toNatClampNeg (0 : Int32).toNatClampNeg (27 : Int32).toNatClampNeg
def wz_c_cRB_b0 : List Cond := .code yJ7_copyOfRangeByte_39247 cJ7_copyOfRangeByte_39247 5 (some (.array .byte)) :: ([.methodLink RJ7 343 yJ7_checkLength_df160, .static yJ7_checkLength_df160, .initialized RJ7, .arrayClass .byte, .methodLink RJ7 304 Lib.Math.min.name, .static Lib.Math.min.name, .initialized "java/lang/Math", .code Lib.Math.min.name Lib.Math.min.code 2 (some .int), .methodLink RJ7 150 arraycopyName, .native arraycopyName, .static arraycopyName, .initialized "java/lang/System"] ++ (wz_c_chkLen_27 ++ ([])))
set_option maxRecDepth 100000 in
theorem gz_c_cRB_b0_c_chkLen_27 : GoodIn wz_c_cRB_b0 wz_c_chkLen_27 := goodIn_sub (fun w h => List.mem_cons_of_mem _ (List.mem_append_right _ (List.mem_append_left _ h))) (by decide +kernel)
set_option maxRecDepth 100000 in
theorem gv_c_cRB_b0_c_chkLen_27_343 : GoodIn wz_c_cRB_b0 (va_wsS RJ7 343 yJ7_checkLength_df160 wz_c_chkLen_27) := goodIn_app (goodIn_of _ (by decide +kernel)) gz_c_cRB_b0_c_chkLen_27
set_option maxHeartbeats 4000000 in
set_option maxRecDepth 100000 in
theorem c_cRB_b0 (l : Launch) (D : va_G) (y : Nat → ClassId) (sz : Nat) (bv : Nat) : Met l yJ7_copyOfRangeByte_39247 wz_c_cRB_b0 ({ frames := 1, cells := 1, slots := 27, locals := 60 }) (va_Pc [.ref bv, .int 0, .int 27] (zB D y [(bv, .inl (y 0, 34, .inl zk3))] sz [] [] [] [])) (va_Qr (fun _ : Unit => True) (fun _ q2 t => va_P D vwCl [(bv, .inl (y 0, 34, .inl zk3)), (q2, .inl (y 0, 27, .inl zk4))] t.heap ∧ va_D (va_A [(bv, .inl (y 0, 34, .inl zk3))] sz) [(bv, .inl (y 0, 34, .inl zk3)), (q2, .inl (y 0, 27, .inl zk4))]) (va_A [(bv, .inl (y 0, 34, .inl zk3))] sz)) 1 27 (va_A [(bv, .inl (y 0, 34, .inl zk3))] sz) := by
  refine Met.ofW (cc := cJ7_copyOfRangeByte_39247) (maxL := 5) (ret := (some (.array .byte))) (by decide) rfl ?_
  intro p e s m args below meth c s₁ B hml hv
  obtain ⟨rfl, hsz, hP, hK, hD0, hN, hE, hO, hT, hG⟩ := hv
  have hx := B.exec
  have hb := B.bytes
  have hr := B.returns
  have hts := atoms_spec (ws := wz_c_cRB_b0) B.pre
  have hown : s.vm.findClass RJ7 = some m.cls := findClass_of_methodNamed B.named
  have hlocks := B.notSynchronized
  subst hsz
  have hD := hD0.self (sz := s.heap.size)
  generalize hAe : va_A [(bv, .inl (y 0, 34, .inl zk3))] s.heap.size = A at hD hE hT hG ⊢
  have hA : ∀ q : Nat, s.heap.size ≤ q → A q := fun q h => by rw [← hAe]; exact Or.inr h
  have hS : va_S A s.heap s.heap [] := va_S.rf
  have hl := lv_entry ([.ref bv, .int 0, .int 27]) (n := 5) (Nat.le_of_ble_eq_true rfl)
  rw [lg_entry_eq]
  generalize (lg_sl ([.ref bv, .int 0, .int 27]) ++ List.replicate (5 - (lg_sl ([.ref bv, .int 0, .int 27])).length) Slot.unset).toArray = ls at hl ⊢
  have hl : lv_has ls 5 [(0, .ref bv), (1, .int 0), (2, .int 27)] := hl
  refine lv_iload_n hx hb dJ7_copyOfRangeByte_39247_0 rfl (lv_at hl 1 rfl) ?_
  refine lv_iload_n hx hb dJ7_copyOfRangeByte_39247_1 rfl (lv_at hl 2 rfl) ?_
  have hPc := hP.sub (ws' := []) [] rfl
  have hDc := hD.sub (ws' := []) [] (by decide) rfl
  have hFc := va_free (wc := []) hD hS hA [] rfl
  refine va_callv (va_runS (As := [.int 0, .int 27]) (rest := []) ⟨hx, hb, hml, hown, hts⟩ (c_chkLen_27 l D y s.heap.size ) (va_cwS 2 hts gv_c_cRB_b0_c_chkLen_27_343 rfl rfl rfl (by decide +kernel) ⟨(Nat.le_of_ble_eq_true rfl), (Nat.le_of_ble_eq_true rfl)⟩) (zB.preS hPc hDc hK hN hE hO hT hG hS hFc (fun _ h => nomatch h) (fun _ h => nomatch h) (fun _ h => nomatch h) (fun _ h => nomatch h)) rfl rfl hl.1 rfl (lv_room (Nat.le_of_ble_eq_true rfl)) dJ7_copyOfRangeByte_39247_2 ⟨(Nat.le_of_ble_eq_true rfl), (Nat.le_of_ble_eq_true rfl)⟩) hS (fun q _ h => hFc q h) hFc (fun u t H1 locs ht hvm hw hB hz1 hk1 hS => ?_)
  obtain ⟨hP1, hD1⟩ := hB
  rw [ht] at hP1
  obtain ⟨hP, hD⟩ := va_join (wr := [(bv, .inl (y 0, 34, .inl zk3))]) (w1 := []) hP hD [] [0] rfl rfl (by decide) (by decide) hk1 hFc hP1 hD1
  generalize H1 = H at hP hS ⊢
  have hP : va_P D vwCl [(bv, .inl (y 0, 34, .inl zk3))] H := hP
  have hD : va_D A [(bv, .inl (y 0, 34, .inl zk3))] := hD
  refine lv_iload_n hx hb dJ7_copyOfRangeByte_39247_5 rfl (lv_at hl 2 rfl) ?_
  refine lv_iload_n hx hb dJ7_copyOfRangeByte_39247_6 rfl (lv_at hl 1 rfl) ?_
  refine lv_isub hx hb dJ7_copyOfRangeByte_39247_7 ?_
  refine lv_topi (fun v1 ev1 => ?_)
  have ev1 : v1 = 27 := ev1.trans (by decide +kernel)
  subst ev1
  refine lv_istore_n (lv' := [(3, .int 27), (0, .ref bv), (1, .int 0), (2, .int 27)]) hx hb dJ7_copyOfRangeByte_39247_8 rfl hl (by decide) rfl (fun ls hl => ?_)
  refine lv_iload_n hx hb dJ7_copyOfRangeByte_39247_9 rfl (lv_at hl 0 rfl) ?_
  refine zz_newa (atype := .byte) (n := 27) (N' := 27) (a0 := (27, .inl (fun _ => 0))) (ty := .byte) hx hb (hts (.arrayClass .byte) (by decide +kernel)) rfl hK 0 rfl hP hD hS hA (zz_aB 27) (by decide +kernel) (by decide +kernel) (by decide +kernel) (Nat.le_of_ble_eq_true rfl) (Nat.le_of_ble_eq_true rfl) dJ7_copyOfRangeByte_39247_10 (fun q2 H hP hD hS => ?_)
  have hP : va_P D vwCl [(bv, .inl (y 0, 34, .inl zk3)), (q2, .inl (y 0, 27, .inl (fun _ => 0)))] H := hP
  have hD : va_D A [(bv, .inl (y 0, 34, .inl zk3)), (q2, .inl (y 0, 27, .inl (fun _ => 0)))] := hD
  refine lv_astore (lv' := [(4, .ref q2), (3, .int 27), (0, .ref bv), (1, .int 0), (2, .int 27)]) hx hb dJ7_copyOfRangeByte_39247_12 hl (by decide) rfl (fun ls hl => ?_)
  refine lv_aload_n hx hb dJ7_copyOfRangeByte_39247_14 rfl (lv_at hl 2 rfl) ?_
  refine lv_iload_n hx hb dJ7_copyOfRangeByte_39247_15 rfl (lv_at hl 3 rfl) ?_
  refine lv_aload hx hb dJ7_copyOfRangeByte_39247_16 (lv_at hl 0 rfl) ?_
  refine lv_iconst (v := 0) hx hb dJ7_copyOfRangeByte_39247_18 (by decide) ?_
  refine lv_aload_n hx hb dJ7_copyOfRangeByte_39247_19 rfl (lv_at hl 2 rfl) ?_
  refine va_alen (v := 34) hx hb hK hP 0 0 rfl rfl (show Int32.ofNat 34 = (34 : Int32) from by decide) dJ7_copyOfRangeByte_39247_20 ?_
  refine lv_iload_n hx hb dJ7_copyOfRangeByte_39247_21 rfl (lv_at hl 3 rfl) ?_
  refine lv_isub hx hb dJ7_copyOfRangeByte_39247_22 ?_
  refine lv_topi (fun v3 ev3 => ?_)
  have ev3 : v3 = 34 := ev3.trans (by decide +kernel)
  subst ev3
  refine lv_iload_n hx hb dJ7_copyOfRangeByte_39247_23 rfl (lv_at hl 1 rfl) ?_
  refine va_mmin hx hb (hml.trans hl.1.symm) hown (hts (.methodLink RJ7 304 Lib.Math.min.name) (by decide +kernel)) (hts (.static Lib.Math.min.name) (by decide +kernel)) (hts (.initialized "java/lang/Math") (by decide +kernel)) (hts (.code Lib.Math.min.name Lib.Math.min.code 2 (some .int)) (by decide +kernel)) (Nat.le_of_ble_eq_true rfl) (Nat.le_of_ble_eq_true rfl) (Nat.le_of_ble_eq_true rfl) (Nat.le_of_ble_eq_true rfl) dJ7_copyOfRangeByte_39247_24 ?_
  refine lv_topi (fun v4 ev4 => ?_)
  have ev4 : v4 = 27 := ev4.trans (by decide +kernel)
  subst ev4
  refine va_copyi (ty := .byte) (sp := 0) (dp := 0) (n := 27) hx hb (hml.trans hl.1.symm) hown (hts (.methodLink RJ7 150 arraycopyName) (by decide +kernel)) (hts (.native arraycopyName) (by decide +kernel)) (hts (.static arraycopyName) (by decide +kernel)) (hts (.initialized "java/lang/System") (by decide +kernel)) hK hP hD hS 0 1 0 0 rfl rfl rfl rfl rfl (by decide +kernel) (by decide +kernel) (by decide +kernel) (by decide +kernel) (by decide +kernel) (by decide +kernel) (Nat.le_of_ble_eq_true rfl) (Nat.le_of_ble_eq_true rfl) dJ7_copyOfRangeByte_39247_27 (fun H locs hP hD hS => ?_)
  have hP : va_P D vwCl [(bv, .inl (y 0, 34, .inl zk3)), (q2, .inl (y 0, 27, .inl zk4))] H := hP
  have hD : va_D A [(bv, .inl (y 0, 34, .inl zk3)), (q2, .inl (y 0, 27, .inl zk4))] := hD
  refine lv_aload hx hb dJ7_copyOfRangeByte_39247_30 (lv_at hl 0 rfl) ?_
  have hP9 := hP.sub (ws' := [(bv, .inl (y 0, 34, .inl zk3)), (q2, .inl (y 0, 27, .inl zk4))]) [0, 1] rfl
  have hD9 := hD.sub (ws' := [(bv, .inl (y 0, 34, .inl zk3)), (q2, .inl (y 0, 27, .inl zk4))]) [0, 1] (by decide) rfl
  refine W.widen (k := 1) (n := 27) (Nat.le_of_ble_eq_true rfl) (Nat.le_of_ble_eq_true rfl) ?_
  exact W.aret (v := .ref q2) hx hb hr (Or.inr ⟨_, rfl⟩) (Or.inr ⟨_, rfl⟩) (fun t ht hW => ⟨⟨(), q2, rfl, trivial, by rw [ht]; exact hP9, hD9⟩, hS.F ht⟩) hS.2.2 dJ7_copyOfRangeByte_39247_32
def wz_c_cR_b0 : List Cond := .code yJ7_copyOfRange_39247 cJ7_copyOfRange_39247 3 (some (.array .byte)) :: ([.methodLink RJ7 339 yJ7_copyOfRangeByte_39247, .static yJ7_copyOfRangeByte_39247, .initialized RJ7] ++ (wz_c_cRB_b0 ++ ([])))
set_option maxRecDepth 100000 in
theorem gz_c_cR_b0_c_cRB_b0 : GoodIn wz_c_cR_b0 wz_c_cRB_b0 := goodIn_sub (fun w h => List.mem_cons_of_mem _ (List.mem_append_right _ (List.mem_append_left _ h))) (by decide +kernel)
set_option maxRecDepth 100000 in
theorem gv_c_cR_b0_c_cRB_b0_339 : GoodIn wz_c_cR_b0 (va_wsS RJ7 339 yJ7_copyOfRangeByte_39247 wz_c_cRB_b0) := goodIn_app (goodIn_of _ (by decide +kernel)) gz_c_cR_b0_c_cRB_b0
set_option maxHeartbeats 4000000 in
set_option maxRecDepth 100000 in
theorem c_cR_b0 (l : Launch) (D : va_G) (y : Nat → ClassId) (sz : Nat) (bv : Nat) : Met l yJ7_copyOfRange_39247 wz_c_cR_b0 ({ frames := 2, cells := 1, slots := 27, locals := 84 }) (va_Pc [.ref bv, .int 0, .int 27] (zB D y [(bv, .inl (y 0, 34, .inl zk3))] sz [] [] [] [])) (va_Qr (fun _ : Unit => True) (fun _ r1 t => va_P D vwCl [(bv, .inl (y 0, 34, .inl zk3)), (r1, .inl (y 0, 27, .inl zk4))] t.heap ∧ va_D (va_A [(bv, .inl (y 0, 34, .inl zk3))] sz) [(bv, .inl (y 0, 34, .inl zk3)), (r1, .inl (y 0, 27, .inl zk4))]) (va_A [(bv, .inl (y 0, 34, .inl zk3))] sz)) 1 27 (va_A [(bv, .inl (y 0, 34, .inl zk3))] sz) := by
  refine Met.ofW (cc := cJ7_copyOfRange_39247) (maxL := 3) (ret := (some (.array .byte))) (by decide) rfl ?_
  intro p e s m args below meth c s₁ B hml hv
  obtain ⟨rfl, hsz, hP, hK, hD0, hN, hE, hO, hT, hG⟩ := hv
  have hx := B.exec
  have hb := B.bytes
  have hr := B.returns
  have hts := atoms_spec (ws := wz_c_cR_b0) B.pre
  have hown : s.vm.findClass RJ7 = some m.cls := findClass_of_methodNamed B.named
  have hlocks := B.notSynchronized
  subst hsz
  have hD := hD0.self (sz := s.heap.size)
  generalize hAe : va_A [(bv, .inl (y 0, 34, .inl zk3))] s.heap.size = A at hD hE hT hG ⊢
  have hA : ∀ q : Nat, s.heap.size ≤ q → A q := fun q h => by rw [← hAe]; exact Or.inr h
  have hS : va_S A s.heap s.heap [] := va_S.rf
  have hl := lv_entry ([.ref bv, .int 0, .int 27]) (n := 3) (Nat.le_of_ble_eq_true rfl)
  rw [lg_entry_eq]
  generalize (lg_sl ([.ref bv, .int 0, .int 27]) ++ List.replicate (3 - (lg_sl ([.ref bv, .int 0, .int 27])).length) Slot.unset).toArray = ls at hl ⊢
  have hl : lv_has ls 3 [(0, .ref bv), (1, .int 0), (2, .int 27)] := hl
  refine lv_iload_n hx hb dJ7_copyOfRange_39247_0 rfl (lv_at hl 1 rfl) ?_
  refine lv_if_ne (tgt := 10) hx hb dJ7_copyOfRange_39247_1 (by decide) (fun c9 => absurd (by decide) c9) (fun _ => ?_)
  refine lv_iload_n hx hb dJ7_copyOfRange_39247_4 rfl (lv_at hl 2 rfl) ?_
  refine lv_aload_n hx hb dJ7_copyOfRange_39247_5 rfl (lv_at hl 0 rfl) ?_
  refine va_alen (v := 34) hx hb hK hP 0 0 rfl rfl (show Int32.ofNat 34 = (34 : Int32) from by decide) dJ7_copyOfRange_39247_6 ?_
  refine lv_icmp_eq (tgt := 17) hx hb dJ7_copyOfRange_39247_7 (by decide) (fun c9 => absurd c9 (by decide)) (fun _ => ?_)
  refine lv_aload_n hx hb dJ7_copyOfRange_39247_10 rfl (lv_at hl 0 rfl) ?_
  refine lv_iload_n hx hb dJ7_copyOfRange_39247_11 rfl (lv_at hl 1 rfl) ?_
  refine lv_iload_n hx hb dJ7_copyOfRange_39247_12 rfl (lv_at hl 2 rfl) ?_
  have hPc := hP.sub (ws' := [(bv, .inl (y 0, 34, .inl zk3))]) [0] rfl
  have hDc := hD.sub (ws' := [(bv, .inl (y 0, 34, .inl zk3))]) [0] (by decide) rfl
  have hFc := va_free (wc := [(bv, .inl (y 0, 34, .inl zk3))]) hD hS hA [0] rfl
  refine va_callr (va_runS (As := [.ref bv, .int 0, .int 27]) (rest := []) ⟨hx, hb, hml, hown, hts⟩ (c_cRB_b0 l D y s.heap.size bv) (va_cwS 3 hts gv_c_cR_b0_c_cRB_b0_339 rfl rfl rfl (by decide +kernel) ⟨(Nat.le_of_ble_eq_true rfl), (Nat.le_of_ble_eq_true rfl)⟩) (zB.preS hPc hDc hK hN hE hO hT hG hS hFc (fun _ h => nomatch h) (fun _ h => nomatch h) (fun _ h => nomatch h) (fun _ h => nomatch h)) rfl rfl hl.1 rfl (lv_room (Nat.le_of_ble_eq_true rfl)) dJ7_copyOfRange_39247_13 ⟨(Nat.le_of_ble_eq_true rfl), (Nat.le_of_ble_eq_true rfl)⟩) hS (fun q _ h => hFc q h) hFc (fun u r1 t H1 locs ht hvm hw hB hz1 hk1 hS => ?_)
  obtain ⟨hP1, hD1⟩ := hB
  rw [ht] at hP1
  obtain ⟨hP, hD⟩ := va_join (wr := []) (w1 := [(bv, .inl (y 0, 34, .inl zk3)), (r1, .inl (y 0, 27, .inl zk4))]) hP hD [0] [] rfl rfl (by decide) (by decide) hk1 hFc hP1 hD1
  generalize H1 = H at hP hS ⊢
  have hP : va_P D vwCl [(bv, .inl (y 0, 34, .inl zk3)), (r1, .inl (y 0, 27, .inl zk4))] H := hP
  have hD : va_D A [(bv, .inl (y 0, 34, .inl zk3)), (r1, .inl (y 0, 27, .inl zk4))] := hD
  have hP9 := hP.sub (ws' := [(bv, .inl (y 0, 34, .inl zk3)), (r1, .inl (y 0, 27, .inl zk4))]) [0, 1] rfl
  have hD9 := hD.sub (ws' := [(bv, .inl (y 0, 34, .inl zk3)), (r1, .inl (y 0, 27, .inl zk4))]) [0, 1] (by decide) rfl
  refine W.widen (k := 1) (n := 27) (Nat.le_of_ble_eq_true rfl) (Nat.le_of_ble_eq_true rfl) ?_
  exact W.aret (v := .ref r1) hx hb hr (Or.inr ⟨_, rfl⟩) (Or.inr ⟨_, rfl⟩) (fun t ht hW => ⟨⟨(), r1, rfl, trivial, by rw [ht]; exact hP9, hD9⟩, hS.F ht⟩) hS.2.2 dJ7_copyOfRange_39247_16
def wz_c_Si1_b0 : List Cond := .code yJ0_init_db425 cJ0_init_db425 5 none :: ([.methodLink RJ0 1 objectInit, .instanceMethod objectInit, .code objectInit ⟨#[0xb1]⟩ 1 none, .methodLink RJ0 552 ⟨"java/lang/AbstractStringBuilder", "getValue", "()[B"⟩, .sameMethod "java/lang/AbstractStringBuilder" "java/lang/AbstractStringBuilder" "getValue" "()[B", .selects RJ4 ⟨"java/lang/AbstractStringBuilder", "getValue", "()[B"⟩ yJ5_getValue_6d5f1, .instanceMethod yJ5_getValue_6d5f1, .initialized RJ5, .methodLink RJ0 549 ⟨"java/lang/AbstractStringBuilder", "length", "()I"⟩, .sameMethod RJ5 RJ5 "length" "()I", .instanceMethod yJ5_length_8abf5, .selects RJ4 ⟨"java/lang/AbstractStringBuilder", "length", "()I"⟩ yJ4_length_8abf5, .instanceMethod yJ4_length_8abf5, .initialized RJ4, .code yJ5_length_8abf5 cJ5_length_8abf5 1 (some .int), .methodLink RJ0 1047 ⟨"java/lang/AbstractStringBuilder", "isLatin1", "()Z"⟩, .sameMethod "java/lang/AbstractStringBuilder" "java/lang/AbstractStringBuilder" "isLatin1" "()Z", .selects RJ4 ⟨"java/lang/AbstractStringBuilder", "isLatin1", "()Z"⟩ yJ5_isLatin1_aae02, .instanceMethod yJ5_isLatin1_aae02, .fieldLink RJ0 15 "java/lang/String" "coder" "B", .methodLink RJ0 54 yJ7_copyOfRange_39247, .static yJ7_copyOfRange_39247, .initialized RJ7, .fieldLink RJ0 9 "java/lang/String" "value" "[B"] ++ (wsJ00 ++ (wz_c_getValue ++ (wz_c_SB_length ++ (wz_c_ASB_isLatin1 ++ (wz_c_cR_b0 ++ ([])))))))
set_option maxRecDepth 100000 in
theorem gz_c_Si1_b0_c_getValue : GoodIn wz_c_Si1_b0 wz_c_getValue := goodIn_sub (fun w h => List.mem_cons_of_mem _ (List.mem_append_right _ (List.mem_append_right _ (List.mem_append_left _ h)))) (by decide +kernel)
set_option maxRecDepth 100000 in
theorem gz_c_Si1_b0_c_SB_length : GoodIn wz_c_Si1_b0 wz_c_SB_length := goodIn_sub (fun w h => List.mem_cons_of_mem _ (List.mem_append_right _ (List.mem_append_right _ (List.mem_append_right _ (List.mem_append_left _ h))))) (by decide +kernel)
set_option maxRecDepth 100000 in
theorem gz_c_Si1_b0_c_ASB_isLatin1 : GoodIn wz_c_Si1_b0 wz_c_ASB_isLatin1 := goodIn_sub (fun w h => List.mem_cons_of_mem _ (List.mem_append_right _ (List.mem_append_right _ (List.mem_append_right _ (List.mem_append_right _ (List.mem_append_left _ h)))))) (by decide +kernel)
set_option maxRecDepth 100000 in
theorem gz_c_Si1_b0_c_cR_b0 : GoodIn wz_c_Si1_b0 wz_c_cR_b0 := goodIn_sub (fun w h => List.mem_cons_of_mem _ (List.mem_append_right _ (List.mem_append_right _ (List.mem_append_right _ (List.mem_append_right _ (List.mem_append_right _ (List.mem_append_left _ h))))))) (by decide +kernel)
set_option maxRecDepth 100000 in
theorem gv_c_Si1_b0_c_getValue_552 : GoodIn wz_c_Si1_b0 (va_wsU RJ0 552 RJ4 "java/lang/AbstractStringBuilder" ⟨"java/lang/AbstractStringBuilder", "getValue", "()[B"⟩ yJ5_getValue_6d5f1 wz_c_getValue) := goodIn_app (goodIn_of _ (by decide +kernel)) gz_c_Si1_b0_c_getValue
set_option maxRecDepth 100000 in
theorem gv_c_Si1_b0_c_SB_length_549 : GoodIn wz_c_Si1_b0 (va_wsO RJ0 549 RJ4 RJ5 ⟨"java/lang/AbstractStringBuilder", "length", "()I"⟩ yJ4_length_8abf5 wz_c_SB_length) := goodIn_app (goodIn_of _ (by decide +kernel)) gz_c_Si1_b0_c_SB_length
set_option maxRecDepth 100000 in
theorem gv_c_Si1_b0_c_ASB_isLatin1_1047 : GoodIn wz_c_Si1_b0 (va_wsU RJ0 1047 RJ4 "java/lang/AbstractStringBuilder" ⟨"java/lang/AbstractStringBuilder", "isLatin1", "()Z"⟩ yJ5_isLatin1_aae02 wz_c_ASB_isLatin1) := goodIn_app (goodIn_of _ (by decide +kernel)) gz_c_Si1_b0_c_ASB_isLatin1
set_option maxRecDepth 100000 in
theorem gv_c_Si1_b0_c_cR_b0_54 : GoodIn wz_c_Si1_b0 (va_wsS RJ0 54 yJ7_copyOfRange_39247 wz_c_cR_b0) := goodIn_app (goodIn_of _ (by decide +kernel)) gz_c_Si1_b0_c_cR_b0
set_option maxHeartbeats 4000000 in
set_option maxRecDepth 100000 in
theorem c_Si1_b0 (l : Launch) (D : va_G) (y : Nat → ClassId) (sz : Nat) (h0 : Nat) (sb : Nat) (bv : Nat) (w1 : Value) : Met l yJ0_init_db425 wz_c_Si1_b0 ({ frames := 3, cells := 1, slots := 27, locals := 106 }) (va_Pc [.ref h0, .ref sb, .null] (zB D y [(h0, .inr (0, [.null, .int 0, .int 0, .int 0])), (sb, .inr (1, [.ref bv, .int 0, w1, .int 27])), (bv, .inl (y 0, 34, .inl zk3))] sz [] [("java/lang/String", "COMPACT_STRINGS", "Z", .int 1)] [] [])) (va_Qv (fun _ : Unit => True) (fun _ t => ∃ r4 : Nat, va_P D vwCl [(h0, .inr (0, [.ref r4, .int 0, .int 0, .int 0])), (sb, .inr (1, [.ref bv, .int 0, w1, .int 27])), (bv, .inl (y 0, 34, .inl zk3)), (r4, .inl (y 0, 27, .inl zk4))] t.heap ∧ va_D (va_A [(h0, .inr (0, [.null, .int 0, .int 0, .int 0])), (sb, .inr (1, [.ref bv, .int 0, w1, .int 27])), (bv, .inl (y 0, 34, .inl zk3))] sz) [(h0, .inr (0, [.ref r4, .int 0, .int 0, .int 0])), (sb, .inr (1, [.ref bv, .int 0, w1, .int 27])), (bv, .inl (y 0, 34, .inl zk3)), (r4, .inl (y 0, 27, .inl zk4))]) (va_A [(h0, .inr (0, [.null, .int 0, .int 0, .int 0])), (sb, .inr (1, [.ref bv, .int 0, w1, .int 27])), (bv, .inl (y 0, 34, .inl zk3))] sz)) 1 27 (va_A [(h0, .inr (0, [.null, .int 0, .int 0, .int 0])), (sb, .inr (1, [.ref bv, .int 0, w1, .int 27])), (bv, .inl (y 0, 34, .inl zk3))] sz) := by
  refine Met.ofW (cc := cJ0_init_db425) (maxL := 5) (ret := none) (by decide) rfl ?_
  intro p e s m args below meth c s₁ B hml hv
  obtain ⟨rfl, hsz, hP, hK, hD0, hN, hE, hO, hT, hG⟩ := hv
  have hx := B.exec
  have hb := B.bytes
  have hr := B.returns
  have hts := atoms_spec (ws := wz_c_Si1_b0) B.pre
  have hown : s.vm.findClass RJ0 = some m.cls := findClass_of_methodNamed B.named
  have hlocks := B.notSynchronized
  have hin : meth.name = "<init>" := (name_of_methodNamed B.named B.method).1
  subst hsz
  have hD := hD0.self (sz := s.heap.size)
  generalize hAe : va_A [(h0, .inr (0, [.null, .int 0, .int 0, .int 0])), (sb, .inr (1, [.ref bv, .int 0, w1, .int 27])), (bv, .inl (y 0, 34, .inl zk3))] s.heap.size = A at hD hE hT hG ⊢
  have hA : ∀ q : Nat, s.heap.size ≤ q → A q := fun q h => by rw [← hAe]; exact Or.inr h
  have hS : va_S A s.heap s.heap [] := va_S.rf
  have hl := lv_entry ([.ref h0, .ref sb, .null]) (n := 5) (Nat.le_of_ble_eq_true rfl)
  rw [lg_entry_eq]
  generalize (lg_sl ([.ref h0, .ref sb, .null]) ++ List.replicate (5 - (lg_sl ([.ref h0, .ref sb, .null])).length) Slot.unset).toArray = ls at hl ⊢
  have hl : lv_has ls 5 [(0, .ref h0), (1, .ref sb), (2, .null)] := hl
  refine lv_aload_n hx hb dJ0_init_db425_0 rfl (lv_at hl 0 rfl) ?_
  refine W.objInit hx hb hown (hts (.methodLink RJ0 1 objectInit) (by decide +kernel)) (hts (.instanceMethod objectInit) (by decide +kernel)) (hts (.code objectInit ⟨#[0xb1]⟩ 1 none) (by decide +kernel)) rfl (by rw [hml]; exact hl.1) rfl dJ0_init_db425_1 (Nat.le_of_ble_eq_true rfl) (Nat.le_of_ble_eq_true rfl) ?_
  refine W.eq (g2 := F0 m 4 ls []) rfl ?_
  refine lv_aload_n hx hb dJ0_init_db425_4 rfl (lv_at hl 1 rfl) ?_
  have hPc := hP.sub (ws' := [(sb, .inr (1, [.ref bv, .int 0, w1, .int 27]))]) [1] rfl
  have hDc := hD.sub (ws' := [(sb, .inr (1, [.ref bv, .int 0, w1, .int 27]))]) [1] (by decide) rfl
  have hFc := va_free (wc := [(sb, .inr (1, [.ref bv, .int 0, w1, .int 27]))]) hD hS hA [1] rfl
  refine va_callq (va_runU (As := []) (rest := []) ⟨hx, hb, hml, hown, hts⟩ (c_getValue l D y s.heap.size sb bv ((.int 0)) w1 ((.int 27))) (va_cwU 0 hts gv_c_Si1_b0_c_getValue_552 rfl rfl rfl rfl (by decide +kernel) ⟨(Nat.le_of_ble_eq_true rfl), (Nat.le_of_ble_eq_true rfl)⟩) (zB.preV hPc hDc hK hN hE hO hT hG hS hFc (fun _ h => nomatch h) (fun _ h => nomatch h) (fun _ h => nomatch h) (fun _ h => nomatch h) (va_recv hK hPc (ci := 1) (q0 := 0) rfl rfl)) rfl rfl hl.1 rfl (lv_room (Nat.le_of_ble_eq_true rfl)) dJ0_init_db425_5 ⟨(Nat.le_of_ble_eq_true rfl), (Nat.le_of_ble_eq_true rfl)⟩) hS (fun q _ h => hFc q h) hFc (fun r1 u t H1 locs ht hvm hw hB hz1 hk1 hS => ?_)
  obtain ⟨hP1, hD1⟩ := hB
  rw [ht] at hP1
  obtain ⟨hP, hD⟩ := va_join (wr := [(h0, .inr (0, [.null, .int 0, .int 0, .int 0])), (bv, .inl (y 0, 34, .inl zk3))]) (w1 := [(sb, .inr (1, [.ref bv, .int 0, w1, .int 27]))]) hP hD [1] [0, 2] rfl rfl (by decide) (by decide) hk1 hFc hP1 hD1
  generalize H1 = H at hP hS ⊢
  have hP : va_P D vwCl [(h0, .inr (0, [.null, .int 0, .int 0, .int 0])), (bv, .inl (y 0, 34, .inl zk3)), (sb, .inr (1, [.ref bv, .int 0, w1, .int 27]))] H := hP
  have hD : va_D A [(h0, .inr (0, [.null, .int 0, .int 0, .int 0])), (bv, .inl (y 0, 34, .inl zk3)), (sb, .inr (1, [.ref bv, .int 0, w1, .int 27]))] := hD
  have hw : r1 = some bv := hw
  subst hw
  refine W.eq (g2 := F0 m 8 ls [.ref bv]) rfl ?_
  refine lv_astore_n (lv' := [(3, .ref bv), (0, .ref h0), (1, .ref sb), (2, .null)]) hx hb dJ0_init_db425_8 rfl hl (by decide) rfl (fun ls hl => ?_)
  refine lv_aload_n hx hb dJ0_init_db425_9 rfl (lv_at hl 2 rfl) ?_
  have hPc := hP.sub (ws' := [(sb, .inr (1, [.ref bv, .int 0, w1, .int 27]))]) [2] rfl
  have hDc := hD.sub (ws' := [(sb, .inr (1, [.ref bv, .int 0, w1, .int 27]))]) [2] (by decide) rfl
  have hFc := va_free (wc := [(sb, .inr (1, [.ref bv, .int 0, w1, .int 27]))]) hD hS hA [2] rfl
  refine va_calli (va_runU (As := []) (rest := []) ⟨hx, hb, hml, hown, hts⟩ (c_SB_length l D y H.size sb ((.ref bv)) ((.int 0)) w1 27) (va_cwO 0 hts gv_c_Si1_b0_c_SB_length_549 rfl rfl rfl (b0 := cJ5_length_8abf5) (m0 := 1) (r0 := (some .int)) (by decide +kernel) (by decide +kernel) ⟨(Nat.le_of_ble_eq_true rfl), (Nat.le_of_ble_eq_true rfl)⟩) (zB.preV hPc hDc hK hN hE hO hT hG hS hFc (fun _ h => nomatch h) (fun _ h => nomatch h) (fun _ h => nomatch h) (fun _ h => nomatch h) (va_recv hK hPc (ci := 1) (q0 := 0) rfl rfl)) rfl rfl hl.1 rfl (lv_room (Nat.le_of_ble_eq_true rfl)) dJ0_init_db425_10 ⟨(Nat.le_of_ble_eq_true rfl), (Nat.le_of_ble_eq_true rfl)⟩) hS (fun q _ h => hFc q h) hFc (fun r2 u t H1 locs ht hvm hw hB hz1 hk1 hS => ?_)
  obtain ⟨hP1, hD1⟩ := hB
  rw [ht] at hP1
  obtain ⟨hP, hD⟩ := va_join (wr := [(h0, .inr (0, [.null, .int 0, .int 0, .int 0])), (bv, .inl (y 0, 34, .inl zk3))]) (w1 := [(sb, .inr (1, [.ref bv, .int 0, w1, .int 27]))]) hP hD [2] [0, 1] rfl rfl (by decide) (by decide) hk1 hFc hP1 hD1
  generalize H1 = H at hP hS ⊢
  have hP : va_P D vwCl [(h0, .inr (0, [.null, .int 0, .int 0, .int 0])), (bv, .inl (y 0, 34, .inl zk3)), (sb, .inr (1, [.ref bv, .int 0, w1, .int 27]))] H := hP
  have hD : va_D A [(h0, .inr (0, [.null, .int 0, .int 0, .int 0])), (bv, .inl (y 0, 34, .inl zk3)), (sb, .inr (1, [.ref bv, .int 0, w1, .int 27]))] := hD
  have hw : r2 = 27 := hw
  subst hw
  refine lv_istore (lv' := [(4, .int 27), (3, .ref bv), (0, .ref h0), (1, .ref sb), (2, .null)]) hx hb dJ0_init_db425_13 hl (by decide) rfl (fun ls hl => ?_)
  refine lv_aload_n hx hb dJ0_init_db425_15 rfl (lv_at hl 3 rfl) ?_
  have hPc := hP.sub (ws' := [(sb, .inr (1, [.ref bv, .int 0, w1, .int 27]))]) [2] rfl
  have hDc := hD.sub (ws' := [(sb, .inr (1, [.ref bv, .int 0, w1, .int 27]))]) [2] (by decide) rfl
  have hFc := va_free (wc := [(sb, .inr (1, [.ref bv, .int 0, w1, .int 27]))]) hD hS hA [2] rfl
  refine va_calli (va_runU (As := []) (rest := []) ⟨hx, hb, hml, hown, hts⟩ (c_ASB_isLatin1 l D y H.size sb ((.ref bv)) w1 ((.int 27))) (va_cwU 0 hts gv_c_Si1_b0_c_ASB_isLatin1_1047 rfl rfl rfl rfl (by decide +kernel) ⟨(Nat.le_of_ble_eq_true rfl), (Nat.le_of_ble_eq_true rfl)⟩) (zB.preV hPc hDc hK hN hE hO hT hG hS hFc (fun _ h => nomatch h) (List.forall_mem_cons.mpr ⟨List.mem_of_getElem? (i := 0) rfl, (fun _ h => nomatch h)⟩) (fun _ h => nomatch h) (fun _ h => nomatch h) (va_recv hK hPc (ci := 1) (q0 := 0) rfl rfl)) rfl rfl hl.1 rfl (lv_room (Nat.le_of_ble_eq_true rfl)) dJ0_init_db425_16 ⟨(Nat.le_of_ble_eq_true rfl), (Nat.le_of_ble_eq_true rfl)⟩) hS (fun q _ h => hFc q h) hFc (fun r3 u t H1 locs ht hvm hw hB hz1 hk1 hS => ?_)
  obtain ⟨hP1, hD1⟩ := hB
  rw [ht] at hP1
  obtain ⟨hP, hD⟩ := va_join (wr := [(h0, .inr (0, [.null, .int 0, .int 0, .int 0])), (bv, .inl (y 0, 34, .inl zk3))]) (w1 := [(sb, .inr (1, [.ref bv, .int 0, w1, .int 27]))]) hP hD [2] [0, 1] rfl rfl (by decide) (by decide) hk1 hFc hP1 hD1
  generalize H1 = H at hP hS ⊢
  have hP : va_P D vwCl [(h0, .inr (0, [.null, .int 0, .int 0, .int 0])), (bv, .inl (y 0, 34, .inl zk3)), (sb, .inr (1, [.ref bv, .int 0, w1, .int 27]))] H := hP
  have hD : va_D A [(h0, .inr (0, [.null, .int 0, .int 0, .int 0])), (bv, .inl (y 0, 34, .inl zk3)), (sb, .inr (1, [.ref bv, .int 0, w1, .int 27]))] := hD
  have hw : r3 = 1 := hw
  subst hw
  refine lv_if_eq (tgt := 41) hx hb dJ0_init_db425_19 (by decide) (fun c9 => absurd c9 (by decide)) (fun _ => ?_)
  refine lv_aload_n hx hb dJ0_init_db425_22 rfl (lv_at hl 2 rfl) ?_
  refine lv_iconst (v := 0) hx hb dJ0_init_db425_23 (by decide) ?_
  refine va_putF (D := D) (ci := 0) (v := .int 0) (ty := .byte) (C := RJ0) (T := TJ0) (N := 4) hx hb hts (by decide +kernel) tyJ0 tyJ0_ok nmJ0 hown hK hP hD hS 0 rfl rfl 1 (by decide) (hts (.fieldLink RJ0 15 "java/lang/String" "coder" "B") (by decide +kernel)) (fun _ h9 => h9) rfl hin rfl (by decide +kernel) rfl rfl (Nat.le_of_ble_eq_true rfl) dJ0_init_db425_24 (fun H locs hP hD hS => ?_)
  have hP : va_P D vwCl [(h0, .inr (0, [.null, .int 0, .int 0, .int 0])), (bv, .inl (y 0, 34, .inl zk3)), (sb, .inr (1, [.ref bv, .int 0, w1, .int 27]))] H := hP
  have hD : va_D A [(h0, .inr (0, [.null, .int 0, .int 0, .int 0])), (bv, .inl (y 0, 34, .inl zk3)), (sb, .inr (1, [.ref bv, .int 0, w1, .int 27]))] := hD
  refine lv_aload_n hx hb dJ0_init_db425_27 rfl (lv_at hl 2 rfl) ?_
  refine lv_aload_n hx hb dJ0_init_db425_28 rfl (lv_at hl 1 rfl) ?_
  refine lv_iconst (v := 0) hx hb dJ0_init_db425_29 (by decide) ?_
  refine lv_iload hx hb dJ0_init_db425_30 (lv_at hl 0 rfl) ?_
  have hPc := hP.sub (ws' := [(bv, .inl (y 0, 34, .inl zk3))]) [1] rfl
  have hDc := hD.sub (ws' := [(bv, .inl (y 0, 34, .inl zk3))]) [1] (by decide) rfl
  have hFc := va_free (wc := [(bv, .inl (y 0, 34, .inl zk3))]) hD hS hA [1] rfl
  refine va_callr (va_runS (As := [.ref bv, .int 0, .int 27]) (rest := [.ref h0]) ⟨hx, hb, hml, hown, hts⟩ (c_cR_b0 l D y H.size bv) (va_cwS 3 hts gv_c_Si1_b0_c_cR_b0_54 rfl rfl rfl (by decide +kernel) ⟨(Nat.le_of_ble_eq_true rfl), (Nat.le_of_ble_eq_true rfl)⟩) (zB.preS hPc hDc hK hN hE hO hT hG hS hFc (fun _ h => nomatch h) (fun _ h => nomatch h) (fun _ h => nomatch h) (fun _ h => nomatch h)) rfl rfl hl.1 rfl (lv_room (Nat.le_of_ble_eq_true rfl)) dJ0_init_db425_32 ⟨(Nat.le_of_ble_eq_true rfl), (Nat.le_of_ble_eq_true rfl)⟩) hS (fun q _ h => hFc q h) hFc (fun u r4 t H1 locs ht hvm hw hB hz1 hk1 hS => ?_)
  obtain ⟨hP1, hD1⟩ := hB
  rw [ht] at hP1
  obtain ⟨hP, hD⟩ := va_join (wr := [(h0, .inr (0, [.null, .int 0, .int 0, .int 0])), (sb, .inr (1, [.ref bv, .int 0, w1, .int 27]))]) (w1 := [(bv, .inl (y 0, 34, .inl zk3)), (r4, .inl (y 0, 27, .inl zk4))]) hP hD [1] [0, 2] rfl rfl (by decide) (by decide) hk1 hFc hP1 hD1
  generalize H1 = H at hP hS ⊢
  have hP : va_P D vwCl [(h0, .inr (0, [.null, .int 0, .int 0, .int 0])), (sb, .inr (1, [.ref bv, .int 0, w1, .int 27])), (bv, .inl (y 0, 34, .inl zk3)), (r4, .inl (y 0, 27, .inl zk4))] H := hP
  have hD : va_D A [(h0, .inr (0, [.null, .int 0, .int 0, .int 0])), (sb, .inr (1, [.ref bv, .int 0, w1, .int 27])), (bv, .inl (y 0, 34, .inl zk3)), (r4, .inl (y 0, 27, .inl zk4))] := hD
  refine va_putF (D := D) (ci := 0) (v := .ref r4) (ty := (.array .byte)) (C := RJ0) (T := TJ0) (N := 4) hx hb hts (by decide +kernel) tyJ0 tyJ0_ok nmJ0 hown hK hP hD hS 0 rfl rfl 0 (by decide) (hts (.fieldLink RJ0 9 "java/lang/String" "value" "[B") (by decide +kernel)) (fun _ h9 => h9) rfl hin rfl (by decide +kernel) rfl rfl (Nat.le_of_ble_eq_true rfl) dJ0_init_db425_35 (fun H locs hP hD hS => ?_)
  have hP : va_P D vwCl [(h0, .inr (0, [.ref r4, .int 0, .int 0, .int 0])), (sb, .inr (1, [.ref bv, .int 0, w1, .int 27])), (bv, .inl (y 0, 34, .inl zk3)), (r4, .inl (y 0, 27, .inl zk4))] H := hP
  have hD : va_D A [(h0, .inr (0, [.ref r4, .int 0, .int 0, .int 0])), (sb, .inr (1, [.ref bv, .int 0, w1, .int 27])), (bv, .inl (y 0, 34, .inl zk3)), (r4, .inl (y 0, 27, .inl zk4))] := hD
  refine lv_goto (tgt := 97) hx hb dJ0_init_db425_38 (by decide) ?_
  have hP9 := hP.sub (ws' := [(h0, .inr (0, [.ref r4, .int 0, .int 0, .int 0])), (sb, .inr (1, [.ref bv, .int 0, w1, .int 27])), (bv, .inl (y 0, 34, .inl zk3)), (r4, .inl (y 0, 27, .inl zk4))]) [0, 1, 2, 3] rfl
  have hD9 := hD.sub (ws' := [(h0, .inr (0, [.ref r4, .int 0, .int 0, .int 0])), (sb, .inr (1, [.ref bv, .int 0, w1, .int 27])), (bv, .inl (y 0, 34, .inl zk3)), (r4, .inl (y 0, 27, .inl zk4))]) [0, 1, 2, 3] (by decide) rfl
  refine W.widen (k := 1) (n := 27) (Nat.le_of_ble_eq_true rfl) (Nat.le_of_ble_eq_true rfl) ?_
  exact W.vret hx hb hr (fun t ht hW => ⟨⟨(), rfl, trivial, r4, by rw [ht]; exact hP9, hD9⟩, hS.F ht⟩) hS.2.2 dJ0_init_db425_97
def wz_c_Si2_b0 : List Cond := .code yJ0_init_81219 cJ0_init_81219 2 none :: ([.initialized RJ0, .methodLink RJ0 489 yJ0_init_db425, .instanceMethod yJ0_init_db425] ++ (wz_c_Si1_b0 ++ ([])))
set_option maxRecDepth 100000 in
theorem gz_c_Si2_b0_c_Si1_b0 : GoodIn wz_c_Si2_b0 wz_c_Si1_b0 := goodIn_sub (fun w h => List.mem_cons_of_mem _ (List.mem_append_right _ (List.mem_append_left _ h))) (by decide +kernel)
set_option maxHeartbeats 4000000 in
set_option maxRecDepth 100000 in
theorem c_Si2_b0 (l : Launch) (D : va_G) (y : Nat → ClassId) (sz : Nat) (h0 : Nat) (sb : Nat) (bv : Nat) (w1 : Value) : Met l yJ0_init_81219 wz_c_Si2_b0 ({ frames := 4, cells := 1, slots := 27, locals := 130 }) (va_Pc [.ref h0, .ref sb] (zB D y [(h0, .inr (0, [.null, .int 0, .int 0, .int 0])), (sb, .inr (1, [.ref bv, .int 0, w1, .int 27])), (bv, .inl (y 0, 34, .inl zk3))] sz [] [("java/lang/String", "COMPACT_STRINGS", "Z", .int 1)] [] [])) (va_Qv (fun _ : Unit => True) (fun _ t => ∃ q1 : Nat, va_P D vwCl [(h0, .inr (0, [.ref q1, .int 0, .int 0, .int 0])), (sb, .inr (1, [.ref bv, .int 0, w1, .int 27])), (bv, .inl (y 0, 34, .inl zk3)), (q1, .inl (y 0, 27, .inl zk4))] t.heap ∧ va_D (va_A [(h0, .inr (0, [.null, .int 0, .int 0, .int 0])), (sb, .inr (1, [.ref bv, .int 0, w1, .int 27])), (bv, .inl (y 0, 34, .inl zk3))] sz) [(h0, .inr (0, [.ref q1, .int 0, .int 0, .int 0])), (sb, .inr (1, [.ref bv, .int 0, w1, .int 27])), (bv, .inl (y 0, 34, .inl zk3)), (q1, .inl (y 0, 27, .inl zk4))]) (va_A [(h0, .inr (0, [.null, .int 0, .int 0, .int 0])), (sb, .inr (1, [.ref bv, .int 0, w1, .int 27])), (bv, .inl (y 0, 34, .inl zk3))] sz)) 1 27 (va_A [(h0, .inr (0, [.null, .int 0, .int 0, .int 0])), (sb, .inr (1, [.ref bv, .int 0, w1, .int 27])), (bv, .inl (y 0, 34, .inl zk3))] sz) := by
  refine Met.ofW (cc := cJ0_init_81219) (maxL := 2) (ret := none) (by decide) rfl ?_
  intro p e s m args below meth c s₁ B hml hv
  obtain ⟨rfl, hsz, hP, hK, hD0, hN, hE, hO, hT, hG⟩ := hv
  have hx := B.exec
  have hb := B.bytes
  have hr := B.returns
  have hts := atoms_spec (ws := wz_c_Si2_b0) B.pre
  have hown : s.vm.findClass RJ0 = some m.cls := findClass_of_methodNamed B.named
  have hlocks := B.notSynchronized
  have hin : meth.name = "<init>" := (name_of_methodNamed B.named B.method).1
  subst hsz
  have hD := hD0.self (sz := s.heap.size)
  generalize hAe : va_A [(h0, .inr (0, [.null, .int 0, .int 0, .int 0])), (sb, .inr (1, [.ref bv, .int 0, w1, .int 27])), (bv, .inl (y 0, 34, .inl zk3))] s.heap.size = A at hD hE hT hG ⊢
  have hA : ∀ q : Nat, s.heap.size ≤ q → A q := fun q h => by rw [← hAe]; exact Or.inr h
  have hS : va_S A s.heap s.heap [] := va_S.rf
  have hl := lv_entry ([.ref h0, .ref sb]) (n := 2) (Nat.le_of_ble_eq_true rfl)
  rw [lg_entry_eq]
  generalize (lg_sl ([.ref h0, .ref sb]) ++ List.replicate (2 - (lg_sl ([.ref h0, .ref sb])).length) Slot.unset).toArray = ls at hl ⊢
  have hl : lv_has ls 2 [(0, .ref h0), (1, .ref sb)] := hl
  refine lv_aload_n hx hb dJ0_init_81219_0 rfl (lv_at hl 0 rfl) ?_
  refine lv_aload_n hx hb dJ0_init_81219_1 rfl (lv_at hl 1 rfl) ?_
  refine lv_null hx hb dJ0_init_81219_2 ?_
  have hPc := hP.sub (ws' := [(h0, .inr (0, [.null, .int 0, .int 0, .int 0])), (sb, .inr (1, [.ref bv, .int 0, w1, .int 27])), (bv, .inl (y 0, 34, .inl zk3))]) [0, 1, 2] rfl
  have hDc := hD.sub (ws' := [(h0, .inr (0, [.null, .int 0, .int 0, .int 0])), (sb, .inr (1, [.ref bv, .int 0, w1, .int 27])), (bv, .inl (y 0, 34, .inl zk3))]) [0, 1, 2] (by decide) rfl
  have hFc := va_free (wc := [(h0, .inr (0, [.null, .int 0, .int 0, .int 0])), (sb, .inr (1, [.ref bv, .int 0, w1, .int 27])), (bv, .inl (y 0, 34, .inl zk3))]) hD hS hA [0, 1, 2] rfl
  refine va_callv (va_runI (As := [.ref sb, .null]) (rest := []) ⟨hx, hb, hml, hown, hts⟩ (c_Si1_b0 l D y s.heap.size h0 sb bv w1) (cwI 2 hts gz_c_Si2_b0_c_Si1_b0 rfl rfl rfl (hts (.initialized RJ0) (by decide +kernel)) (hts (.methodLink RJ0 489 yJ0_init_db425) (by decide +kernel)) (hts (.instanceMethod yJ0_init_db425) (by decide +kernel)) rfl (by decide +kernel) ⟨(Nat.le_of_ble_eq_true rfl), (Nat.le_of_ble_eq_true rfl)⟩) (zB.preS hPc hDc hK hN hE hO hT hG hS hFc (fun _ h => nomatch h) (List.forall_mem_cons.mpr ⟨List.mem_of_getElem? (i := 0) rfl, (fun _ h => nomatch h)⟩) (fun _ h => nomatch h) (fun _ h => nomatch h)) rfl rfl hl.1 rfl (lv_room (Nat.le_of_ble_eq_true rfl)) dJ0_init_81219_3 ⟨(Nat.le_of_ble_eq_true rfl), (Nat.le_of_ble_eq_true rfl)⟩) hS (fun q _ h => hFc q h) hFc (fun u t H1 locs ht hvm hw hB hz1 hk1 hS => ?_)
  obtain ⟨q1, hP1, hD1⟩ := hB
  rw [ht] at hP1
  obtain ⟨hP, hD⟩ := va_join (wr := []) (w1 := [(h0, .inr (0, [.ref q1, .int 0, .int 0, .int 0])), (sb, .inr (1, [.ref bv, .int 0, w1, .int 27])), (bv, .inl (y 0, 34, .inl zk3)), (q1, .inl (y 0, 27, .inl zk4))]) hP hD [0, 1, 2] [] rfl rfl (by decide) (by decide) hk1 hFc hP1 hD1
  generalize H1 = H at hP hS ⊢
  have hP : va_P D vwCl [(h0, .inr (0, [.ref q1, .int 0, .int 0, .int 0])), (sb, .inr (1, [.ref bv, .int 0, w1, .int 27])), (bv, .inl (y 0, 34, .inl zk3)), (q1, .inl (y 0, 27, .inl zk4))] H := hP
  have hD : va_D A [(h0, .inr (0, [.ref q1, .int 0, .int 0, .int 0])), (sb, .inr (1, [.ref bv, .int 0, w1, .int 27])), (bv, .inl (y 0, 34, .inl zk3)), (q1, .inl (y 0, 27, .inl zk4))] := hD
  have hP9 := hP.sub (ws' := [(h0, .inr (0, [.ref q1, .int 0, .int 0, .int 0])), (sb, .inr (1, [.ref bv, .int 0, w1, .int 27])), (bv, .inl (y 0, 34, .inl zk3)), (q1, .inl (y 0, 27, .inl zk4))]) [0, 1, 2, 3] rfl
  have hD9 := hD.sub (ws' := [(h0, .inr (0, [.ref q1, .int 0, .int 0, .int 0])), (sb, .inr (1, [.ref bv, .int 0, w1, .int 27])), (bv, .inl (y 0, 34, .inl zk3)), (q1, .inl (y 0, 27, .inl zk4))]) [0, 1, 2, 3] (by decide) rfl
  refine W.widen (k := 1) (n := 27) (Nat.le_of_ble_eq_true rfl) (Nat.le_of_ble_eq_true rfl) ?_
  exact W.vret hx hb hr (fun t ht hW => ⟨⟨(), rfl, trivial, q1, by rw [ht]; exact hP9, hD9⟩, hS.F ht⟩) hS.2.2 dJ0_init_81219_6
def wz_c_toS_b0 : List Cond := .code yJ4_toString_0e30d cJ4_toString_0e30d 1 (some (.object "java/lang/String")) :: ([.classLink RJ4 18 RJ0, .instantiable RJ0 4, .initialized RJ0, .methodLink RJ4 137 yJ0_init_81219, .instanceMethod yJ0_init_81219] ++ (wsJ00 ++ (wz_c_Si2_b0 ++ ([]))))
set_option maxRecDepth 100000 in
theorem gz_c_toS_b0_c_Si2_b0 : GoodIn wz_c_toS_b0 wz_c_Si2_b0 := goodIn_sub (fun w h => List.mem_cons_of_mem _ (List.mem_append_right _ (List.mem_append_right _ (List.mem_append_left _ h)))) (by decide +kernel)
set_option maxHeartbeats 4000000 in
set_option maxRecDepth 100000 in
theorem c_toS_b0 (l : Launch) (D : va_G) (y : Nat → ClassId) (sz : Nat) (h0 : Nat) (bv : Nat) (w1 : Value) : Met l yJ4_toString_0e30d wz_c_toS_b0 ({ frames := 5, cells := 2, slots := 31, locals := 151 }) (va_Pc [.ref h0] (zB D y [(h0, .inr (1, [.ref bv, .int 0, w1, .int 27])), (bv, .inl (y 0, 34, .inl zk3))] sz [] [("java/lang/String", "COMPACT_STRINGS", "Z", .int 1)] [] [])) (va_Qr (fun _ : Unit => True) (fun _ q1 t => ∃ q2 : Nat, va_P D vwCl [(h0, .inr (1, [.ref bv, .int 0, w1, .int 27])), (bv, .inl (y 0, 34, .inl zk3)), (q1, .inr (0, [.ref q2, .int 0, .int 0, .int 0])), (q2, .inl (y 0, 27, .inl zk4))] t.heap ∧ va_D (va_A [(h0, .inr (1, [.ref bv, .int 0, w1, .int 27])), (bv, .inl (y 0, 34, .inl zk3))] sz) [(h0, .inr (1, [.ref bv, .int 0, w1, .int 27])), (bv, .inl (y 0, 34, .inl zk3)), (q1, .inr (0, [.ref q2, .int 0, .int 0, .int 0])), (q2, .inl (y 0, 27, .inl zk4))]) (va_A [(h0, .inr (1, [.ref bv, .int 0, w1, .int 27])), (bv, .inl (y 0, 34, .inl zk3))] sz)) 2 31 (va_A [(h0, .inr (1, [.ref bv, .int 0, w1, .int 27])), (bv, .inl (y 0, 34, .inl zk3))] sz) := by
  refine Met.ofW (cc := cJ4_toString_0e30d) (maxL := 1) (ret := (some (.object "java/lang/String"))) (by decide) rfl ?_
  intro p e s m args below meth c s₁ B hml hv
  obtain ⟨rfl, hsz, hP, hK, hD0, hN, hE, hO, hT, hG⟩ := hv
  have hx := B.exec
  have hb := B.bytes
  have hr := B.returns
  have hts := atoms_spec (ws := wz_c_toS_b0) B.pre
  have hown : s.vm.findClass RJ4 = some m.cls := findClass_of_methodNamed B.named
  have hlocks := B.notSynchronized
  subst hsz
  have hD := hD0.self (sz := s.heap.size)
  generalize hAe : va_A [(h0, .inr (1, [.ref bv, .int 0, w1, .int 27])), (bv, .inl (y 0, 34, .inl zk3))] s.heap.size = A at hD hE hT hG ⊢
  have hA : ∀ q : Nat, s.heap.size ≤ q → A q := fun q h => by rw [← hAe]; exact Or.inr h
  have hS : va_S A s.heap s.heap [] := va_S.rf
  have hl := lv_entry ([.ref h0]) (n := 1) (Nat.le_of_ble_eq_true rfl)
  rw [lg_entry_eq]
  generalize (lg_sl ([.ref h0]) ++ List.replicate (1 - (lg_sl ([.ref h0])).length) Slot.unset).toArray = ls at hl ⊢
  have hl : lv_has ls 1 [(0, .ref h0)] := hl
  refine va_new (ci := 0) (fs := [.null, .int 0, .int 0, .int 0]) (C := RJ0) (T := TJ0) (N := 4) hx hb hts (by decide +kernel) tyJ0 tyJ0_ok hown (hts (.classLink RJ4 18 RJ0) (by decide +kernel)) (hts (.instantiable RJ0 4) (by decide +kernel)) (hts (.initialized RJ0) (by decide +kernel)) hK hP hD hS hA rfl (by decide) (Nat.le_of_ble_eq_true rfl) (Nat.le_of_ble_eq_true rfl) dJ4_toString_0e30d_0 (fun q1 H hP hD hS => ?_)
  have hP : va_P D vwCl [(h0, .inr (1, [.ref bv, .int 0, w1, .int 27])), (bv, .inl (y 0, 34, .inl zk3)), (q1, .inr (0, [.null, .int 0, .int 0, .int 0]))] H := hP
  have hD : va_D A [(h0, .inr (1, [.ref bv, .int 0, w1, .int 27])), (bv, .inl (y 0, 34, .inl zk3)), (q1, .inr (0, [.null, .int 0, .int 0, .int 0]))] := hD
  refine lv_dup hx hb dJ4_toString_0e30d_3 rfl ?_
  refine lv_aload_n hx hb dJ4_toString_0e30d_4 rfl (lv_at hl 0 rfl) ?_
  have hPc := hP.sub (ws' := [(q1, .inr (0, [.null, .int 0, .int 0, .int 0])), (h0, .inr (1, [.ref bv, .int 0, w1, .int 27])), (bv, .inl (y 0, 34, .inl zk3))]) [2, 0, 1] rfl
  have hDc := hD.sub (ws' := [(q1, .inr (0, [.null, .int 0, .int 0, .int 0])), (h0, .inr (1, [.ref bv, .int 0, w1, .int 27])), (bv, .inl (y 0, 34, .inl zk3))]) [2, 0, 1] (by decide) rfl
  have hFc := va_free (wc := [(q1, .inr (0, [.null, .int 0, .int 0, .int 0])), (h0, .inr (1, [.ref bv, .int 0, w1, .int 27])), (bv, .inl (y 0, 34, .inl zk3))]) hD hS hA [2, 0, 1] rfl
  refine va_callv (va_runI (As := [.ref h0]) (rest := [.ref q1]) ⟨hx, hb, hml, hown, hts⟩ (c_Si2_b0 l D y H.size q1 h0 bv w1) (cwI 1 hts gz_c_toS_b0_c_Si2_b0 rfl rfl rfl (hts (.initialized RJ0) (by decide +kernel)) (hts (.methodLink RJ4 137 yJ0_init_81219) (by decide +kernel)) (hts (.instanceMethod yJ0_init_81219) (by decide +kernel)) rfl (by decide +kernel) ⟨(Nat.le_of_ble_eq_true rfl), (Nat.le_of_ble_eq_true rfl)⟩) (zB.preS hPc hDc hK hN hE hO hT hG hS hFc (fun _ h => nomatch h) (List.forall_mem_cons.mpr ⟨List.mem_of_getElem? (i := 0) rfl, (fun _ h => nomatch h)⟩) (fun _ h => nomatch h) (fun _ h => nomatch h)) rfl rfl hl.1 rfl (lv_room (Nat.le_of_ble_eq_true rfl)) dJ4_toString_0e30d_5 ⟨(Nat.le_of_ble_eq_true rfl), (Nat.le_of_ble_eq_true rfl)⟩) hS (fun q _ h => hFc q h) hFc (fun u t H1 locs ht hvm hw hB hz1 hk1 hS => ?_)
  obtain ⟨q2, hP1, hD1⟩ := hB
  rw [ht] at hP1
  obtain ⟨hP, hD⟩ := va_join (wr := []) (w1 := [(q1, .inr (0, [.ref q2, .int 0, .int 0, .int 0])), (h0, .inr (1, [.ref bv, .int 0, w1, .int 27])), (bv, .inl (y 0, 34, .inl zk3)), (q2, .inl (y 0, 27, .inl zk4))]) hP hD [2, 0, 1] [] rfl rfl (by decide) (by decide) hk1 hFc hP1 hD1
  generalize H1 = H at hP hS ⊢
  have hP : va_P D vwCl [(q1, .inr (0, [.ref q2, .int 0, .int 0, .int 0])), (h0, .inr (1, [.ref bv, .int 0, w1, .int 27])), (bv, .inl (y 0, 34, .inl zk3)), (q2, .inl (y 0, 27, .inl zk4))] H := hP
  have hD : va_D A [(q1, .inr (0, [.ref q2, .int 0, .int 0, .int 0])), (h0, .inr (1, [.ref bv, .int 0, w1, .int 27])), (bv, .inl (y 0, 34, .inl zk3)), (q2, .inl (y 0, 27, .inl zk4))] := hD
  have hP9 := hP.sub (ws' := [(h0, .inr (1, [.ref bv, .int 0, w1, .int 27])), (bv, .inl (y 0, 34, .inl zk3)), (q1, .inr (0, [.ref q2, .int 0, .int 0, .int 0])), (q2, .inl (y 0, 27, .inl zk4))]) [1, 2, 0, 3] rfl
  have hD9 := hD.sub (ws' := [(h0, .inr (1, [.ref bv, .int 0, w1, .int 27])), (bv, .inl (y 0, 34, .inl zk3)), (q1, .inr (0, [.ref q2, .int 0, .int 0, .int 0])), (q2, .inl (y 0, 27, .inl zk4))]) [1, 2, 0, 3] (by decide) rfl
  refine W.widen (k := 2) (n := 31) (Nat.le_of_ble_eq_true rfl) (Nat.le_of_ble_eq_true rfl) ?_
  exact W.aret (v := .ref q1) hx hb hr (Or.inl ⟨_, rfl⟩) (Or.inr ⟨_, rfl⟩) (fun t ht hW => ⟨⟨(), q1, rfl, trivial, q2, by rw [ht]; exact hP9, hD9⟩, hS.F ht⟩) hS.2.2 dJ4_toString_0e30d_8
def wz_c_ens_16_9 : List Cond := .code yJ5_ensureCapacityInternal_d00df cJ5_ensureCapacityInternal_d00df 3 none :: ([.fieldLink RJ5 15 "java/lang/AbstractStringBuilder" "value" "[B", .fieldLink RJ5 22 "java/lang/AbstractStringBuilder" "coder" "B"] ++ (wsJ40 ++ ([])))
set_option maxHeartbeats 4000000 in
set_option maxRecDepth 100000 in
theorem c_ens_16_9 (l : Launch) (D : va_G) (y : Nat → ClassId) (sz : Nat) (h0 : Nat) (bv : Nat) (w1 : Value) (w2 : Value) (g : Nat → Int32) : Met l yJ5_ensureCapacityInternal_d00df wz_c_ens_16_9 ({ frames := 0, cells := 0, slots := 0, locals := 0 }) (va_Pc [.ref h0, .int 9] (zB D y [(h0, .inr (1, [.ref bv, .int 0, w1, w2])), (bv, .inl (y 0, 16, .inl g))] sz [] [] [] [])) (va_Qv (fun _ : Unit => True) (fun _ t => va_P D vwCl [(h0, .inr (1, [.ref bv, .int 0, w1, w2])), (bv, .inl (y 0, 16, .inl g))] t.heap ∧ va_D (va_A [(h0, .inr (1, [.ref bv, .int 0, w1, w2])), (bv, .inl (y 0, 16, .inl g))] sz) [(h0, .inr (1, [.ref bv, .int 0, w1, w2])), (bv, .inl (y 0, 16, .inl g))]) (va_A [(h0, .inr (1, [.ref bv, .int 0, w1, w2])), (bv, .inl (y 0, 16, .inl g))] sz)) 0 0 (va_A [(h0, .inr (1, [.ref bv, .int 0, w1, w2])), (bv, .inl (y 0, 16, .inl g))] sz) := by
  refine Met.ofW (cc := cJ5_ensureCapacityInternal_d00df) (maxL := 3) (ret := none) (by decide) rfl ?_
  intro p e s m args below meth c s₁ B hml hv
  obtain ⟨rfl, hsz, hP, hK, hD0, hN, hE, hO, hT, hG⟩ := hv
  have hx := B.exec
  have hb := B.bytes
  have hr := B.returns
  have hts := atoms_spec (ws := wz_c_ens_16_9) B.pre
  have hown : s.vm.findClass RJ5 = some m.cls := findClass_of_methodNamed B.named
  have hlocks := B.notSynchronized
  subst hsz
  have hD := hD0.self (sz := s.heap.size)
  generalize hAe : va_A [(h0, .inr (1, [.ref bv, .int 0, w1, w2])), (bv, .inl (y 0, 16, .inl g))] s.heap.size = A at hD hE hT hG ⊢
  have hA : ∀ q : Nat, s.heap.size ≤ q → A q := fun q h => by rw [← hAe]; exact Or.inr h
  have hS : va_S A s.heap s.heap [] := va_S.rf
  have hl := lv_entry ([.ref h0, .int 9]) (n := 3) (Nat.le_of_ble_eq_true rfl)
  rw [lg_entry_eq]
  generalize (lg_sl ([.ref h0, .int 9]) ++ List.replicate (3 - (lg_sl ([.ref h0, .int 9])).length) Slot.unset).toArray = ls at hl ⊢
  have hl : lv_has ls 3 [(0, .ref h0), (1, .int 9)] := hl
  refine lv_aload_n hx hb dJ5_ensureCapacityInternal_d00df_0 rfl (lv_at hl 0 rfl) ?_
  refine va_get (D := D) (ci := 1) (v := .ref bv) (C := RJ4) (T := TJ4) (N := 4) hx hb hts (by decide +kernel) hown hK hP 0 rfl rfl 0 (by decide) (hts (.fieldLink RJ5 15 "java/lang/AbstractStringBuilder" "value" "[B") (by decide +kernel)) (fun _ h9 => h9) rfl dJ5_ensureCapacityInternal_d00df_1 ?_
  refine va_alen (v := 16) hx hb hK hP 1 0 rfl rfl (show Int32.ofNat 16 = (16 : Int32) from by decide) dJ5_ensureCapacityInternal_d00df_4 ?_
  refine lv_aload_n hx hb dJ5_ensureCapacityInternal_d00df_5 rfl (lv_at hl 0 rfl) ?_
  refine va_get (D := D) (ci := 1) (v := .int 0) (C := RJ4) (T := TJ4) (N := 4) hx hb hts (by decide +kernel) hown hK hP 0 rfl rfl 1 (by decide) (hts (.fieldLink RJ5 22 "java/lang/AbstractStringBuilder" "coder" "B") (by decide +kernel)) (fun _ h9 => h9) rfl dJ5_ensureCapacityInternal_d00df_6 ?_
  refine lv_ishr hx hb dJ5_ensureCapacityInternal_d00df_9 ?_
  refine lv_topi (fun v1 ev1 => ?_)
  have ev1 : v1 = 16 := ev1.trans (by decide +kernel)
  subst ev1
  refine lv_istore_n (lv' := [(2, .int 16), (0, .ref h0), (1, .int 9)]) hx hb dJ5_ensureCapacityInternal_d00df_10 rfl hl (by decide) rfl (fun ls hl => ?_)
  refine lv_iload_n hx hb dJ5_ensureCapacityInternal_d00df_11 rfl (lv_at hl 2 rfl) ?_
  refine lv_iload_n hx hb dJ5_ensureCapacityInternal_d00df_12 rfl (lv_at hl 0 rfl) ?_
  refine lv_isub hx hb dJ5_ensureCapacityInternal_d00df_13 ?_
  refine lv_topi (fun v2 ev2 => ?_)
  have ev2 : v2 = -7 := ev2.trans (by decide +kernel)
  subst ev2
  refine lv_if_le (tgt := 38) hx hb dJ5_ensureCapacityInternal_d00df_14 (by decide) (fun _ => ?_) (fun c9 => absurd (by decide) c9)
  have hP9 := hP.sub (ws' := [(h0, .inr (1, [.ref bv, .int 0, w1, w2])), (bv, .inl (y 0, 16, .inl g))]) [0, 1] rfl
  have hD9 := hD.sub (ws' := [(h0, .inr (1, [.ref bv, .int 0, w1, w2])), (bv, .inl (y 0, 16, .inl g))]) [0, 1] (by decide) rfl
  refine W.widen (k := 0) (n := 0) (Nat.le_of_ble_eq_true rfl) (Nat.le_of_ble_eq_true rfl) ?_
  exact W.vret hx hb hr (fun t ht hW => ⟨⟨(), rfl, trivial, by rw [ht]; exact hP9, hD9⟩, hS.F ht⟩) hS.2.2 dJ5_ensureCapacityInternal_d00df_38
def wz_c_getBytes_11_0_16 : List Cond := .code yJ0_getBytes_840e7 cJ0_getBytes_840e7 4 none :: ([.methodLink RJ0 335 yJ0_coder_7d493, .instanceMethod yJ0_coder_7d493, .selects RJ0 yJ0_coder_7d493 yJ0_coder_7d493, .initialized RJ0, .fieldLink RJ0 9 "java/lang/String" "value" "[B", .methodLink RJ0 212 arraycopyName, .native arraycopyName, .static arraycopyName, .initialized "java/lang/System"] ++ (wz_c_coder_o ++ ([])))
set_option maxRecDepth 100000 in
theorem gz_c_getBytes_11_0_16_c_coder_o : GoodIn wz_c_getBytes_11_0_16 wz_c_coder_o := goodIn_sub (fun w h => List.mem_cons_of_mem _ (List.mem_append_right _ (List.mem_append_left _ h))) (by decide +kernel)
set_option maxRecDepth 100000 in
theorem gv_c_getBytes_11_0_16_c_coder_o_335 : GoodIn wz_c_getBytes_11_0_16 (wsV RJ0 335 RJ0 yJ0_coder_7d493 wz_c_coder_o) := goodIn_app (goodIn_of _ (by decide +kernel)) gz_c_getBytes_11_0_16_c_coder_o
set_option maxHeartbeats 4000000 in
set_option maxRecDepth 100000 in
theorem c_getBytes_11_0_16 (l : Launch) (D : va_G) (y : Nat → ClassId) (sz : Nat) (bv : Nat) (sx : Nat) (tx : Nat) (g : Nat → Int32) : Met l yJ0_getBytes_840e7 wz_c_getBytes_11_0_16 ({ frames := 1, cells := 0, slots := 0, locals := 60 }) (va_Pc [.ref sx, .ref bv, .int 0, .int 0] (zB D y [(bv, .inl (y 0, 16, .inl g))] sz [] [("java/lang/String", "COMPACT_STRINGS", "Z", .int 1)] [] [.inr (.inl (sx, tx, 9, zs11))])) (va_Qv (fun _ : Unit => True) (fun _ t => va_P D vwCl [(bv, .inl (y 0, 16, .inl (va_cpy zs11 g (0 : Int32).toNatClampNeg (0 : Int32).toNatClampNeg (9 : Int32).toNatClampNeg)))] t.heap ∧ va_D (va_A [(bv, .inl (y 0, 16, .inl g))] sz) [(bv, .inl (y 0, 16, .inl (va_cpy zs11 g (0 : Int32).toNatClampNeg (0 : Int32).toNatClampNeg (9 : Int32).toNatClampNeg)))]) (va_A [(bv, .inl (y 0, 16, .inl g))] sz)) 0 0 (va_A [(bv, .inl (y 0, 16, .inl g))] sz) := by
  refine Met.ofW (cc := cJ0_getBytes_840e7) (maxL := 4) (ret := none) (by decide) rfl ?_
  intro p e s m args below meth c s₁ B hml hv
  obtain ⟨rfl, hsz, hP, hK, hD0, hN, hE, hO, hT, hG⟩ := hv
  have hx := B.exec
  have hb := B.bytes
  have hr := B.returns
  have hts := atoms_spec (ws := wz_c_getBytes_11_0_16) B.pre
  have hown : s.vm.findClass RJ0 = some m.cls := findClass_of_methodNamed B.named
  have hlocks := B.notSynchronized
  subst hsz
  have hD := hD0.self (sz := s.heap.size)
  generalize hAe : va_A [(bv, .inl (y 0, 16, .inl g))] s.heap.size = A at hD hE hT hG ⊢
  have hA : ∀ q : Nat, s.heap.size ≤ q → A q := fun q h => by rw [← hAe]; exact Or.inr h
  have hS : va_S A s.heap s.heap [] := va_S.rf
  have hl := lv_entry ([.ref sx, .ref bv, .int 0, .int 0]) (n := 4) (Nat.le_of_ble_eq_true rfl)
  rw [lg_entry_eq]
  generalize (lg_sl ([.ref sx, .ref bv, .int 0, .int 0]) ++ List.replicate (4 - (lg_sl ([.ref sx, .ref bv, .int 0, .int 0])).length) Slot.unset).toArray = ls at hl ⊢
  have hl : lv_has ls 4 [(0, .ref sx), (1, .ref bv), (2, .int 0), (3, .int 0)] := hl
  refine lv_aload_n hx hb dJ0_getBytes_840e7_0 rfl (lv_at hl 0 rfl) ?_
  have hPc := hP.sub (ws' := []) [] rfl
  have hDc := hD.sub (ws' := []) [] (by decide) rfl
  have hFc := va_free (wc := []) hD hS hA [] rfl
  refine va_calli (va_runV (As := []) (rest := []) ⟨hx, hb, hml, hown, hts⟩ (c_coder_o l D y s.heap.size sx tx 9 zs11) (cwV 0 hts gv_c_getBytes_11_0_16_c_coder_o_335 rfl rfl rfl (by decide +kernel) ⟨(Nat.le_of_ble_eq_true rfl), (Nat.le_of_ble_eq_true rfl)⟩) (zB.preV hPc hDc hK hN hE hO hT hG hS hFc (fun _ h => nomatch h) (List.forall_mem_cons.mpr ⟨List.mem_of_getElem? (i := 0) rfl, (fun _ h => nomatch h)⟩) (fun _ h => nomatch h) (List.forall_mem_cons.mpr ⟨List.mem_of_getElem? (i := 0) rfl, (fun _ h => nomatch h)⟩) (zStr.recv (show zStr sx tx 9 zs11 A s s.heap from (hG (.inr (.inl (sx, tx, 9, zs11))) (List.mem_of_getElem? (i := 0) rfl))) hS)) rfl rfl hl.1 rfl (lv_room (Nat.le_of_ble_eq_true rfl)) dJ0_getBytes_840e7_1 ⟨(Nat.le_of_ble_eq_true rfl), (Nat.le_of_ble_eq_true rfl)⟩) hS (fun q _ h => hFc q h) hFc (fun r1 u t H1 locs ht hvm hw hB hz1 hk1 hS => ?_)
  obtain ⟨hP1, hD1⟩ := hB
  rw [ht] at hP1
  obtain ⟨hP, hD⟩ := va_join (wr := [(bv, .inl (y 0, 16, .inl g))]) (w1 := []) hP hD [] [0] rfl rfl (by decide) (by decide) hk1 hFc hP1 hD1
  generalize H1 = H at hP hS ⊢
  have hP : va_P D vwCl [(bv, .inl (y 0, 16, .inl g))] H := hP
  have hD : va_D A [(bv, .inl (y 0, 16, .inl g))] := hD
  have hw : r1 = 0 := hw
  subst hw
  refine lv_iload_n hx hb dJ0_getBytes_840e7_4 rfl (lv_at hl 3 rfl) ?_
  refine lv_icmp_ne (tgt := 28) hx hb dJ0_getBytes_840e7_5 (by decide) (fun c9 => absurd (by decide) c9) (fun _ => ?_)
  refine lv_aload_n hx hb dJ0_getBytes_840e7_8 rfl (lv_at hl 0 rfl) ?_
  refine vk_getf hx hb (show zStr sx tx 9 zs11 A s s.heap from (hG (.inr (.inl (sx, tx, 9, zs11))) (List.mem_of_getElem? (i := 0) rfl))).2.2.1 hS hown (hts (.fieldLink RJ0 9 "java/lang/String" "value" "[B") (by decide +kernel)) (fun _ h9 => h9) dJ0_getBytes_840e7_9 ?_
  refine lv_iconst (v := 0) hx hb dJ0_getBytes_840e7_12 (by decide) ?_
  refine lv_aload_n hx hb dJ0_getBytes_840e7_13 rfl (lv_at hl 1 rfl) ?_
  refine lv_iload_n hx hb dJ0_getBytes_840e7_14 rfl (lv_at hl 2 rfl) ?_
  refine lv_iload_n hx hb dJ0_getBytes_840e7_15 rfl (lv_at hl 3 rfl) ?_
  refine lv_ishl hx hb dJ0_getBytes_840e7_16 ?_
  refine lv_topi (fun v2 ev2 => ?_)
  have ev2 : v2 = 0 := ev2.trans (by decide +kernel)
  subst ev2
  refine lv_aload_n hx hb dJ0_getBytes_840e7_17 rfl (lv_at hl 0 rfl) ?_
  refine vk_getf hx hb (show zStr sx tx 9 zs11 A s s.heap from (hG (.inr (.inl (sx, tx, 9, zs11))) (List.mem_of_getElem? (i := 0) rfl))).2.2.1 hS hown (hts (.fieldLink RJ0 9 "java/lang/String" "value" "[B") (by decide +kernel)) (fun _ h9 => h9) dJ0_getBytes_840e7_18 ?_
  refine va_tlen (v := 9) hx hb (show zStr sx tx 9 zs11 A s s.heap from (hG (.inr (.inl (sx, tx, 9, zs11))) (List.mem_of_getElem? (i := 0) rfl))).2.2.2 hS (by decide) dJ0_getBytes_840e7_21 ?_
  refine vk_copyt (sp := 0) (dp := 0) (n := 9) (f := zs11) hx hb (hml.trans hl.1.symm) hown (hts (.methodLink RJ0 212 arraycopyName) (by decide +kernel)) (hts (.native arraycopyName) (by decide +kernel)) (hts (.static arraycopyName) (by decide +kernel)) (hts (.initialized "java/lang/System") (by decide +kernel)) hK hP hD hS (show zStr sx tx 9 zs11 A s s.heap from (hG (.inr (.inl (sx, tx, 9, zs11))) (List.mem_of_getElem? (i := 0) rfl))).2.2.2 0 0 rfl rfl (by decide +kernel) (by decide +kernel) (by decide +kernel) (by decide +kernel) (by decide +kernel) (by decide +kernel) (Nat.le_of_ble_eq_true rfl) (Nat.le_of_ble_eq_true rfl) dJ0_getBytes_840e7_22 (fun H locs hP hD hS => ?_)
  have hP : va_P D vwCl [(bv, .inl (y 0, 16, .inl (va_cpy zs11 g (0 : Int32).toNatClampNeg (0 : Int32).toNatClampNeg (9 : Int32).toNatClampNeg)))] H := hP
  have hD : va_D A [(bv, .inl (y 0, 16, .inl (va_cpy zs11 g (0 : Int32).toNatClampNeg (0 : Int32).toNatClampNeg (9 : Int32).toNatClampNeg)))] := hD
  refine lv_goto (tgt := 43) hx hb dJ0_getBytes_840e7_25 (by decide) ?_
  have hP9 := hP.sub (ws' := [(bv, .inl (y 0, 16, .inl (va_cpy zs11 g (0 : Int32).toNatClampNeg (0 : Int32).toNatClampNeg (9 : Int32).toNatClampNeg)))]) [0] rfl
  have hD9 := hD.sub (ws' := [(bv, .inl (y 0, 16, .inl (va_cpy zs11 g (0 : Int32).toNatClampNeg (0 : Int32).toNatClampNeg (9 : Int32).toNatClampNeg)))]) [0] (by decide) rfl
  refine W.widen (k := 0) (n := 0) (Nat.le_of_ble_eq_true rfl) (Nat.le_of_ble_eq_true rfl) ?_
  exact W.vret hx hb hr (fun t ht hW => ⟨⟨(), rfl, trivial, by rw [ht]; exact hP9, hD9⟩, hS.F ht⟩) hS.2.2 dJ0_getBytes_840e7_43
def wz_c_putStr_11_0_16 : List Cond := .code yJ5_putStringAt_47b60 cJ5_putStringAt_47b60 3 none :: ([.methodLink RJ5 397 ⟨"java/lang/AbstractStringBuilder", "inflateIfNeededFor", "(Ljava/lang/String;)V"⟩, .sameMethod "java/lang/AbstractStringBuilder" "java/lang/AbstractStringBuilder" "inflateIfNeededFor" "(Ljava/lang/String;)V", .selects RJ4 ⟨"java/lang/AbstractStringBuilder", "inflateIfNeededFor", "(Ljava/lang/String;)V"⟩ yJ5_inflateIfNeededFor_a7421, .instanceMethod yJ5_inflateIfNeededFor_a7421, .initialized RJ5, .fieldLink RJ5 15 "java/lang/AbstractStringBuilder" "value" "[B", .fieldLink RJ5 22 "java/lang/AbstractStringBuilder" "coder" "B", .methodLink RJ5 399 yJ0_getBytes_840e7, .instanceMethod yJ0_getBytes_840e7, .selects RJ0 yJ0_getBytes_840e7 yJ0_getBytes_840e7, .initialized RJ0] ++ (wsJ40 ++ (wz_c_inflIf ++ (wz_c_getBytes_11_0_16 ++ ([])))))
set_option maxRecDepth 100000 in
theorem gz_c_putStr_11_0_16_c_inflIf : GoodIn wz_c_putStr_11_0_16 wz_c_inflIf := goodIn_sub (fun w h => List.mem_cons_of_mem _ (List.mem_append_right _ (List.mem_append_right _ (List.mem_append_left _ h)))) (by decide +kernel)
set_option maxRecDepth 100000 in
theorem gz_c_putStr_11_0_16_c_getBytes_11_0_16 : GoodIn wz_c_putStr_11_0_16 wz_c_getBytes_11_0_16 := goodIn_sub (fun w h => List.mem_cons_of_mem _ (List.mem_append_right _ (List.mem_append_right _ (List.mem_append_right _ (List.mem_append_left _ h))))) (by decide +kernel)
set_option maxRecDepth 100000 in
theorem gv_c_putStr_11_0_16_c_inflIf_397 : GoodIn wz_c_putStr_11_0_16 (va_wsU RJ5 397 RJ4 "java/lang/AbstractStringBuilder" ⟨"java/lang/AbstractStringBuilder", "inflateIfNeededFor", "(Ljava/lang/String;)V"⟩ yJ5_inflateIfNeededFor_a7421 wz_c_inflIf) := goodIn_app (goodIn_of _ (by decide +kernel)) gz_c_putStr_11_0_16_c_inflIf
set_option maxRecDepth 100000 in
theorem gv_c_putStr_11_0_16_c_getBytes_11_0_16_399 : GoodIn wz_c_putStr_11_0_16 (wsV RJ5 399 RJ0 yJ0_getBytes_840e7 wz_c_getBytes_11_0_16) := goodIn_app (goodIn_of _ (by decide +kernel)) gz_c_putStr_11_0_16_c_getBytes_11_0_16
set_option maxHeartbeats 4000000 in
set_option maxRecDepth 100000 in
theorem c_putStr_11_0_16 (l : Launch) (D : va_G) (y : Nat → ClassId) (sz : Nat) (h0 : Nat) (bv : Nat) (w1 : Value) (w2 : Value) (sx : Nat) (tx : Nat) (g : Nat → Int32) : Met l yJ5_putStringAt_47b60 wz_c_putStr_11_0_16 ({ frames := 2, cells := 0, slots := 0, locals := 83 }) (va_Pc [.ref h0, .int 0, .ref sx] (zB D y [(h0, .inr (1, [.ref bv, .int 0, w1, w2])), (bv, .inl (y 0, 16, .inl g))] sz [] [("java/lang/String", "COMPACT_STRINGS", "Z", .int 1)] [] [.inr (.inl (sx, tx, 9, zs11))])) (va_Qv (fun _ : Unit => True) (fun _ t => va_P D vwCl [(h0, .inr (1, [.ref bv, .int 0, w1, w2])), (bv, .inl (y 0, 16, .inl (va_cpy zs11 g (0 : Int32).toNatClampNeg (0 : Int32).toNatClampNeg (9 : Int32).toNatClampNeg)))] t.heap ∧ va_D (va_A [(h0, .inr (1, [.ref bv, .int 0, w1, w2])), (bv, .inl (y 0, 16, .inl g))] sz) [(h0, .inr (1, [.ref bv, .int 0, w1, w2])), (bv, .inl (y 0, 16, .inl (va_cpy zs11 g (0 : Int32).toNatClampNeg (0 : Int32).toNatClampNeg (9 : Int32).toNatClampNeg)))]) (va_A [(h0, .inr (1, [.ref bv, .int 0, w1, w2])), (bv, .inl (y 0, 16, .inl g))] sz)) 0 0 (va_A [(h0, .inr (1, [.ref bv, .int 0, w1, w2])), (bv, .inl (y 0, 16, .inl g))] sz) := by
  refine Met.ofW (cc := cJ5_putStringAt_47b60) (maxL := 3) (ret := none) (by decide) rfl ?_
  intro p e s m args below meth c s₁ B hml hv
  obtain ⟨rfl, hsz, hP, hK, hD0, hN, hE, hO, hT, hG⟩ := hv
  have hx := B.exec
  have hb := B.bytes
  have hr := B.returns
  have hts := atoms_spec (ws := wz_c_putStr_11_0_16) B.pre
  have hown : s.vm.findClass RJ5 = some m.cls := findClass_of_methodNamed B.named
  have hlocks := B.notSynchronized
  subst hsz
  have hD := hD0.self (sz := s.heap.size)
  generalize hAe : va_A [(h0, .inr (1, [.ref bv, .int 0, w1, w2])), (bv, .inl (y 0, 16, .inl g))] s.heap.size = A at hD hE hT hG ⊢
  have hA : ∀ q : Nat, s.heap.size ≤ q → A q := fun q h => by rw [← hAe]; exact Or.inr h
  have hS : va_S A s.heap s.heap [] := va_S.rf
  have hl := lv_entry ([.ref h0, .int 0, .ref sx]) (n := 3) (Nat.le_of_ble_eq_true rfl)
  rw [lg_entry_eq]
  generalize (lg_sl ([.ref h0, .int 0, .ref sx]) ++ List.replicate (3 - (lg_sl ([.ref h0, .int 0, .ref sx])).length) Slot.unset).toArray = ls at hl ⊢
  have hl : lv_has ls 3 [(0, .ref h0), (1, .int 0), (2, .ref sx)] := hl
  refine lv_aload_n hx hb dJ5_putStringAt_47b60_0 rfl (lv_at hl 0 rfl) ?_
  refine lv_aload_n hx hb dJ5_putStringAt_47b60_1 rfl (lv_at hl 2 rfl) ?_
  have hPc := hP.sub (ws' := [(h0, .inr (1, [.ref bv, .int 0, w1, w2]))]) [0] rfl
  have hDc := hD.sub (ws' := [(h0, .inr (1, [.ref bv, .int 0, w1, w2]))]) [0] (by decide) rfl
  have hFc := va_free (wc := [(h0, .inr (1, [.ref bv, .int 0, w1, w2]))]) hD hS hA [0] rfl
  refine va_callv (va_runU (As := [.ref sx]) (rest := []) ⟨hx, hb, hml, hown, hts⟩ (c_inflIf l D y s.heap.size h0 ((.ref bv)) w1 w2 sx tx 9 zs11) (va_cwU 1 hts gv_c_putStr_11_0_16_c_inflIf_397 rfl rfl rfl rfl (by decide +kernel) ⟨(Nat.le_of_ble_eq_true rfl), (Nat.le_of_ble_eq_true rfl)⟩) (zB.preV hPc hDc hK hN hE hO hT hG hS hFc (fun _ h => nomatch h) (List.forall_mem_cons.mpr ⟨List.mem_of_getElem? (i := 0) rfl, (fun _ h => nomatch h)⟩) (fun _ h => nomatch h) (List.forall_mem_cons.mpr ⟨List.mem_of_getElem? (i := 0) rfl, (fun _ h => nomatch h)⟩) (va_recv hK hPc (ci := 1) (q0 := 0) rfl rfl)) rfl rfl hl.1 rfl (lv_room (Nat.le_of_ble_eq_true rfl)) dJ5_putStringAt_47b60_2 ⟨(Nat.le_of_ble_eq_true rfl), (Nat.le_of_ble_eq_true rfl)⟩) hS (fun q _ h => hFc q h) hFc (fun u t H1 locs ht hvm hw hB hz1 hk1 hS => ?_)
  obtain ⟨hP1, hD1⟩ := hB
  rw [ht] at hP1
  obtain ⟨hP, hD⟩ := va_join (wr := [(bv, .inl (y 0, 16, .inl g))]) (w1 := [(h0, .inr (1, [.ref bv, .int 0, w1, w2]))]) hP hD [0] [1] rfl rfl (by decide) (by decide) hk1 hFc hP1 hD1
  generalize H1 = H at hP hS ⊢
  have hP : va_P D vwCl [(bv, .inl (y 0, 16, .inl g)), (h0, .inr (1, [.ref bv, .int 0, w1, w2]))] H := hP
  have hD : va_D A [(bv, .inl (y 0, 16, .inl g)), (h0, .inr (1, [.ref bv, .int 0, w1, w2]))] := hD
  refine lv_aload_n hx hb dJ5_putStringAt_47b60_5 rfl (lv_at hl 2 rfl) ?_
  refine lv_aload_n hx hb dJ5_putStringAt_47b60_6 rfl (lv_at hl 0 rfl) ?_
  refine va_get (D := D) (ci := 1) (v := .ref bv) (C := RJ4) (T := TJ4) (N := 4) hx hb hts (by decide +kernel) hown hK hP 1 rfl rfl 0 (by decide) (hts (.fieldLink RJ5 15 "java/lang/AbstractStringBuilder" "value" "[B") (by decide +kernel)) (fun _ h9 => h9) rfl dJ5_putStringAt_47b60_7 ?_
  refine lv_iload_n hx hb dJ5_putStringAt_47b60_10 rfl (lv_at hl 1 rfl) ?_
  refine lv_aload_n hx hb dJ5_putStringAt_47b60_11 rfl (lv_at hl 0 rfl) ?_
  refine va_get (D := D) (ci := 1) (v := .int 0) (C := RJ4) (T := TJ4) (N := 4) hx hb hts (by decide +kernel) hown hK hP 1 rfl rfl 1 (by decide) (hts (.fieldLink RJ5 22 "java/lang/AbstractStringBuilder" "coder" "B") (by decide +kernel)) (fun _ h9 => h9) rfl dJ5_putStringAt_47b60_12 ?_
  have hPc := hP.sub (ws' := [(bv, .inl (y 0, 16, .inl g))]) [0] rfl
  have hDc := hD.sub (ws' := [(bv, .inl (y 0, 16, .inl g))]) [0] (by decide) rfl
  have hFc := va_free (wc := [(bv, .inl (y 0, 16, .inl g))]) hD hS hA [0] rfl
  refine va_callv (va_runV (As := [.ref bv, .int 0, .int 0]) (rest := []) ⟨hx, hb, hml, hown, hts⟩ (c_getBytes_11_0_16 l D y H.size bv sx tx g) (cwV 3 hts gv_c_putStr_11_0_16_c_getBytes_11_0_16_399 rfl rfl rfl (by decide +kernel) ⟨(Nat.le_of_ble_eq_true rfl), (Nat.le_of_ble_eq_true rfl)⟩) (zB.preV hPc hDc hK hN hE hO hT hG hS hFc (fun _ h => nomatch h) (List.forall_mem_cons.mpr ⟨List.mem_of_getElem? (i := 0) rfl, (fun _ h => nomatch h)⟩) (fun _ h => nomatch h) (List.forall_mem_cons.mpr ⟨List.mem_of_getElem? (i := 0) rfl, (fun _ h => nomatch h)⟩) (zStr.recv (show zStr sx tx 9 zs11 A s s.heap from (hG (.inr (.inl (sx, tx, 9, zs11))) (List.mem_of_getElem? (i := 0) rfl))) hS)) rfl rfl hl.1 rfl (lv_room (Nat.le_of_ble_eq_true rfl)) dJ5_putStringAt_47b60_15 ⟨(Nat.le_of_ble_eq_true rfl), (Nat.le_of_ble_eq_true rfl)⟩) hS (fun q _ h => hFc q h) hFc (fun u t H1 locs ht hvm hw hB hz1 hk1 hS => ?_)
  obtain ⟨hP1, hD1⟩ := hB
  rw [ht] at hP1
  obtain ⟨hP, hD⟩ := va_join (wr := [(h0, .inr (1, [.ref bv, .int 0, w1, w2]))]) (w1 := [(bv, .inl (y 0, 16, .inl (va_cpy zs11 g (0 : Int32).toNatClampNeg (0 : Int32).toNatClampNeg (9 : Int32).toNatClampNeg)))]) hP hD [0] [1] rfl rfl (by decide) (by decide) hk1 hFc hP1 hD1
  generalize H1 = H at hP hS ⊢
  have hP : va_P D vwCl [(h0, .inr (1, [.ref bv, .int 0, w1, w2])), (bv, .inl (y 0, 16, .inl (va_cpy zs11 g (0 : Int32).toNatClampNeg (0 : Int32).toNatClampNeg (9 : Int32).toNatClampNeg)))] H := hP
  have hD : va_D A [(h0, .inr (1, [.ref bv, .int 0, w1, w2])), (bv, .inl (y 0, 16, .inl (va_cpy zs11 g (0 : Int32).toNatClampNeg (0 : Int32).toNatClampNeg (9 : Int32).toNatClampNeg)))] := hD
  have hP9 := hP.sub (ws' := [(h0, .inr (1, [.ref bv, .int 0, w1, w2])), (bv, .inl (y 0, 16, .inl (va_cpy zs11 g (0 : Int32).toNatClampNeg (0 : Int32).toNatClampNeg (9 : Int32).toNatClampNeg)))]) [0, 1] rfl
  have hD9 := hD.sub (ws' := [(h0, .inr (1, [.ref bv, .int 0, w1, w2])), (bv, .inl (y 0, 16, .inl (va_cpy zs11 g (0 : Int32).toNatClampNeg (0 : Int32).toNatClampNeg (9 : Int32).toNatClampNeg)))]) [0, 1] (by decide) rfl
  refine W.widen (k := 0) (n := 0) (Nat.le_of_ble_eq_true rfl) (Nat.le_of_ble_eq_true rfl) ?_
  exact W.vret hx hb hr (fun t ht hW => ⟨⟨(), rfl, trivial, by rw [ht]; exact hP9, hD9⟩, hS.F ht⟩) hS.2.2 dJ5_putStringAt_47b60_18
def wz_c_ASBapp_11_0_16 : List Cond := .code yJ5_append_cf1ce cJ5_append_cf1ce 3 (some (.object "java/lang/AbstractStringBuilder")) :: ([.methodLink RJ5 32 yJ0_length_8abf5, .instanceMethod yJ0_length_8abf5, .selects RJ0 yJ0_length_8abf5 yJ0_length_8abf5, .initialized RJ0, .fieldLink RJ5 79 "java/lang/AbstractStringBuilder" "count" "I", .methodLink RJ5 100 ⟨"java/lang/AbstractStringBuilder", "ensureCapacityInternal", "(I)V"⟩, .sameMethod "java/lang/AbstractStringBuilder" "java/lang/AbstractStringBuilder" "ensureCapacityInternal" "(I)V", .selects RJ4 ⟨"java/lang/AbstractStringBuilder", "ensureCapacityInternal", "(I)V"⟩ yJ5_ensureCapacityInternal_d00df, .instanceMethod yJ5_ensureCapacityInternal_d00df, .initialized RJ5, .methodLink RJ5 208 ⟨"java/lang/AbstractStringBuilder", "putStringAt", "(ILjava/lang/String;)V"⟩, .sameMethod "java/lang/AbstractStringBuilder" "java/lang/AbstractStringBuilder" "putStringAt" "(ILjava/lang/String;)V", .selects RJ4 ⟨"java/lang/AbstractStringBuilder", "putStringAt", "(ILjava/lang/String;)V"⟩ yJ5_putStringAt_47b60, .instanceMethod yJ5_putStringAt_47b60] ++ (wsJ40 ++ (wz_c_len_o_9 ++ (wz_c_ens_16_9 ++ (wz_c_putStr_11_0_16 ++ ([]))))))
set_option maxRecDepth 100000 in
theorem gz_c_ASBapp_11_0_16_c_len_o_9 : GoodIn wz_c_ASBapp_11_0_16 wz_c_len_o_9 := goodIn_sub (fun w h => List.mem_cons_of_mem _ (List.mem_append_right _ (List.mem_append_right _ (List.mem_append_left _ h)))) (by decide +kernel)
set_option maxRecDepth 100000 in
theorem gz_c_ASBapp_11_0_16_c_ens_16_9 : GoodIn wz_c_ASBapp_11_0_16 wz_c_ens_16_9 := goodIn_sub (fun w h => List.mem_cons_of_mem _ (List.mem_append_right _ (List.mem_append_right _ (List.mem_append_right _ (List.mem_append_left _ h))))) (by decide +kernel)
set_option maxRecDepth 100000 in
theorem gz_c_ASBapp_11_0_16_c_putStr_11_0_16 : GoodIn wz_c_ASBapp_11_0_16 wz_c_putStr_11_0_16 := goodIn_sub (fun w h => List.mem_cons_of_mem _ (List.mem_append_right _ (List.mem_append_right _ (List.mem_append_right _ (List.mem_append_right _ (List.mem_append_left _ h)))))) (by decide +kernel)
set_option maxRecDepth 100000 in
theorem gv_c_ASBapp_11_0_16_c_len_o_9_32 : GoodIn wz_c_ASBapp_11_0_16 (wsV RJ5 32 RJ0 yJ0_length_8abf5 wz_c_len_o_9) := goodIn_app (goodIn_of _ (by decide +kernel)) gz_c_ASBapp_11_0_16_c_len_o_9
set_option maxRecDepth 100000 in
theorem gv_c_ASBapp_11_0_16_c_ens_16_9_100 : GoodIn wz_c_ASBapp_11_0_16 (va_wsU RJ5 100 RJ4 "java/lang/AbstractStringBuilder" ⟨"java/lang/AbstractStringBuilder", "ensureCapacityInternal", "(I)V"⟩ yJ5_ensureCapacityInternal_d00df wz_c_ens_16_9) := goodIn_app (goodIn_of _ (by decide +kernel)) gz_c_ASBapp_11_0_16_c_ens_16_9
set_option maxRecDepth 100000 in
theorem gv_c_ASBapp_11_0_16_c_putStr_11_0_16_208 : GoodIn wz_c_ASBapp_11_0_16 (va_wsU RJ5 208 RJ4 "java/lang/AbstractStringBuilder" ⟨"java/lang/AbstractStringBuilder", "putStringAt", "(ILjava/lang/String;)V"⟩ yJ5_putStringAt_47b60 wz_c_putStr_11_0_16) := goodIn_app (goodIn_of _ (by decide +kernel)) gz_c_ASBapp_11_0_16_c_putStr_11_0_16
set_option maxHeartbeats 4000000 in
set_option maxRecDepth 100000 in
theorem c_ASBapp_11_0_16 (l : Launch) (D : va_G) (y : Nat → ClassId) (sz : Nat) (h0 : Nat) (bv : Nat) (w1 : Value) (sx : Nat) (tx : Nat) (g : Nat → Int32) : Met l yJ5_append_cf1ce wz_c_ASBapp_11_0_16 ({ frames := 3, cells := 0, slots := 0, locals := 105 }) (va_Pc [.ref h0, .ref sx] (zB D y [(h0, .inr (1, [.ref bv, .int 0, w1, .int 0])), (bv, .inl (y 0, 16, .inl g))] sz [] [("java/lang/String", "COMPACT_STRINGS", "Z", .int 1)] [] [.inr (.inl (sx, tx, 9, zs11))])) (va_Qq (fun (r : Option Nat) (_ : Unit) => r = some h0) (fun _ t => va_P D vwCl [(h0, .inr (1, [.ref bv, .int 0, w1, .int 9])), (bv, .inl (y 0, 16, .inl (va_cpy zs11 g (0 : Int32).toNatClampNeg (0 : Int32).toNatClampNeg (9 : Int32).toNatClampNeg)))] t.heap ∧ va_D (va_A [(h0, .inr (1, [.ref bv, .int 0, w1, .int 0])), (bv, .inl (y 0, 16, .inl g))] sz) [(h0, .inr (1, [.ref bv, .int 0, w1, .int 9])), (bv, .inl (y 0, 16, .inl (va_cpy zs11 g (0 : Int32).toNatClampNeg (0 : Int32).toNatClampNeg (9 : Int32).toNatClampNeg)))]) (va_A [(h0, .inr (1, [.ref bv, .int 0, w1, .int 0])), (bv, .inl (y 0, 16, .inl g))] sz)) 0 0 (va_A [(h0, .inr (1, [.ref bv, .int 0, w1, .int 0])), (bv, .inl (y 0, 16, .inl g))] sz) := by
  refine Met.ofW (cc := cJ5_append_cf1ce) (maxL := 3) (ret := (some (.object "java/lang/AbstractStringBuilder"))) (by decide) rfl ?_
  intro p e s m args below meth c s₁ B hml hv
  obtain ⟨rfl, hsz, hP, hK, hD0, hN, hE, hO, hT, hG⟩ := hv
  have hx := B.exec
  have hb := B.bytes
  have hr := B.returns
  have hts := atoms_spec (ws := wz_c_ASBapp_11_0_16) B.pre
  have hown : s.vm.findClass RJ5 = some m.cls := findClass_of_methodNamed B.named
  have hlocks := B.notSynchronized
  subst hsz
  have hD := hD0.self (sz := s.heap.size)
  generalize hAe : va_A [(h0, .inr (1, [.ref bv, .int 0, w1, .int 0])), (bv, .inl (y 0, 16, .inl g))] s.heap.size = A at hD hE hT hG ⊢
  have hA : ∀ q : Nat, s.heap.size ≤ q → A q := fun q h => by rw [← hAe]; exact Or.inr h
  have hS : va_S A s.heap s.heap [] := va_S.rf
  have hl := lv_entry ([.ref h0, .ref sx]) (n := 3) (Nat.le_of_ble_eq_true rfl)
  rw [lg_entry_eq]
  generalize (lg_sl ([.ref h0, .ref sx]) ++ List.replicate (3 - (lg_sl ([.ref h0, .ref sx])).length) Slot.unset).toArray = ls at hl ⊢
  have hl : lv_has ls 3 [(0, .ref h0), (1, .ref sx)] := hl
  refine lv_aload_n hx hb dJ5_append_cf1ce_0 rfl (lv_at hl 1 rfl) ?_
  refine lv_ifnonnull (tgt := 9) hx hb dJ5_append_cf1ce_1 (by decide) ?_
  refine lv_aload_n hx hb dJ5_append_cf1ce_9 rfl (lv_at hl 1 rfl) ?_
  have hPc := hP.sub (ws' := []) [] rfl
  have hDc := hD.sub (ws' := []) [] (by decide) rfl
  have hFc := va_free (wc := []) hD hS hA [] rfl
  refine va_calli (va_runV (As := []) (rest := []) ⟨hx, hb, hml, hown, hts⟩ (c_len_o_9 l D y s.heap.size sx tx zs11) (cwV 0 hts gv_c_ASBapp_11_0_16_c_len_o_9_32 rfl rfl rfl (by decide +kernel) ⟨(Nat.le_of_ble_eq_true rfl), (Nat.le_of_ble_eq_true rfl)⟩) (zB.preV hPc hDc hK hN hE hO hT hG hS hFc (fun _ h => nomatch h) (List.forall_mem_cons.mpr ⟨List.mem_of_getElem? (i := 0) rfl, (fun _ h => nomatch h)⟩) (fun _ h => nomatch h) (List.forall_mem_cons.mpr ⟨List.mem_of_getElem? (i := 0) rfl, (fun _ h => nomatch h)⟩) (zStr.recv (show zStr sx tx 9 zs11 A s s.heap from (hG (.inr (.inl (sx, tx, 9, zs11))) (List.mem_of_getElem? (i := 0) rfl))) hS)) rfl rfl hl.1 rfl (lv_room (Nat.le_of_ble_eq_true rfl)) dJ5_append_cf1ce_10 ⟨(Nat.le_of_ble_eq_true rfl), (Nat.le_of_ble_eq_true rfl)⟩) hS (fun q _ h => hFc q h) hFc (fun r1 u t H1 locs ht hvm hw hB hz1 hk1 hS => ?_)
  obtain ⟨hP1, hD1⟩ := hB
  rw [ht] at hP1
  obtain ⟨hP, hD⟩ := va_join (wr := [(h0, .inr (1, [.ref bv, .int 0, w1, .int 0])), (bv, .inl (y 0, 16, .inl g))]) (w1 := []) hP hD [] [0, 1] rfl rfl (by decide) (by decide) hk1 hFc hP1 hD1
  generalize H1 = H at hP hS ⊢
  have hP : va_P D vwCl [(h0, .inr (1, [.ref bv, .int 0, w1, .int 0])), (bv, .inl (y 0, 16, .inl g))] H := hP
  have hD : va_D A [(h0, .inr (1, [.ref bv, .int 0, w1, .int 0])), (bv, .inl (y 0, 16, .inl g))] := hD
  have hw : r1 = 9 := hw
  subst hw
  refine lv_istore_n (lv' := [(2, .int 9), (0, .ref h0), (1, .ref sx)]) hx hb dJ5_append_cf1ce_13 rfl hl (by decide) rfl (fun ls hl => ?_)
  refine lv_aload_n hx hb dJ5_append_cf1ce_14 rfl (lv_at hl 1 rfl) ?_
  refine lv_aload_n hx hb dJ5_append_cf1ce_15 rfl (lv_at hl 1 rfl) ?_
  refine va_get (D := D) (ci := 1) (v := .int 0) (C := RJ4) (T := TJ4) (N := 4) hx hb hts (by decide +kernel) hown hK hP 0 rfl rfl 3 (by decide) (hts (.fieldLink RJ5 79 "java/lang/AbstractStringBuilder" "count" "I") (by decide +kernel)) (fun _ h9 => h9) rfl dJ5_append_cf1ce_16 ?_
  refine lv_iload_n hx hb dJ5_append_cf1ce_19 rfl (lv_at hl 0 rfl) ?_
  refine lv_iadd hx hb dJ5_append_cf1ce_20 ?_
  refine lv_topi (fun v2 ev2 => ?_)
  have ev2 : v2 = 9 := ev2.trans (by decide +kernel)
  subst ev2
  have hPc := hP.sub (ws' := [(h0, .inr (1, [.ref bv, .int 0, w1, .int 0])), (bv, .inl (y 0, 16, .inl g))]) [0, 1] rfl
  have hDc := hD.sub (ws' := [(h0, .inr (1, [.ref bv, .int 0, w1, .int 0])), (bv, .inl (y 0, 16, .inl g))]) [0, 1] (by decide) rfl
  have hFc := va_free (wc := [(h0, .inr (1, [.ref bv, .int 0, w1, .int 0])), (bv, .inl (y 0, 16, .inl g))]) hD hS hA [0, 1] rfl
  refine va_callv (va_runU (As := [.int 9]) (rest := []) ⟨hx, hb, hml, hown, hts⟩ (c_ens_16_9 l D y H.size h0 bv w1 ((.int 0)) g) (va_cwU 1 hts gv_c_ASBapp_11_0_16_c_ens_16_9_100 rfl rfl rfl rfl (by decide +kernel) ⟨(Nat.le_of_ble_eq_true rfl), (Nat.le_of_ble_eq_true rfl)⟩) (zB.preV hPc hDc hK hN hE hO hT hG hS hFc (fun _ h => nomatch h) (fun _ h => nomatch h) (fun _ h => nomatch h) (fun _ h => nomatch h) (va_recv hK hPc (ci := 1) (q0 := 0) rfl rfl)) rfl rfl hl.1 rfl (lv_room (Nat.le_of_ble_eq_true rfl)) dJ5_append_cf1ce_21 ⟨(Nat.le_of_ble_eq_true rfl), (Nat.le_of_ble_eq_true rfl)⟩) hS (fun q _ h => hFc q h) hFc (fun u t H1 locs ht hvm hw hB hz1 hk1 hS => ?_)
  obtain ⟨hP1, hD1⟩ := hB
  rw [ht] at hP1
  obtain ⟨hP, hD⟩ := va_join (wr := []) (w1 := [(h0, .inr (1, [.ref bv, .int 0, w1, .int 0])), (bv, .inl (y 0, 16, .inl g))]) hP hD [0, 1] [] rfl rfl (by decide) (by decide) hk1 hFc hP1 hD1
  generalize H1 = H at hP hS ⊢
  have hP : va_P D vwCl [(h0, .inr (1, [.ref bv, .int 0, w1, .int 0])), (bv, .inl (y 0, 16, .inl g))] H := hP
  have hD : va_D A [(h0, .inr (1, [.ref bv, .int 0, w1, .int 0])), (bv, .inl (y 0, 16, .inl g))] := hD
  refine lv_aload_n hx hb dJ5_append_cf1ce_24 rfl (lv_at hl 1 rfl) ?_
  refine lv_aload_n hx hb dJ5_append_cf1ce_25 rfl (lv_at hl 1 rfl) ?_
  refine va_get (D := D) (ci := 1) (v := .int 0) (C := RJ4) (T := TJ4) (N := 4) hx hb hts (by decide +kernel) hown hK hP 0 rfl rfl 3 (by decide) (hts (.fieldLink RJ5 79 "java/lang/AbstractStringBuilder" "count" "I") (by decide +kernel)) (fun _ h9 => h9) rfl dJ5_append_cf1ce_26 ?_
  refine lv_aload_n hx hb dJ5_append_cf1ce_29 rfl (lv_at hl 2 rfl) ?_
  have hPc := hP.sub (ws' := [(h0, .inr (1, [.ref bv, .int 0, w1, .int 0])), (bv, .inl (y 0, 16, .inl g))]) [0, 1] rfl
  have hDc := hD.sub (ws' := [(h0, .inr (1, [.ref bv, .int 0, w1, .int 0])), (bv, .inl (y 0, 16, .inl g))]) [0, 1] (by decide) rfl
  have hFc := va_free (wc := [(h0, .inr (1, [.ref bv, .int 0, w1, .int 0])), (bv, .inl (y 0, 16, .inl g))]) hD hS hA [0, 1] rfl
  refine va_callv (va_runU (As := [.int 0, .ref sx]) (rest := []) ⟨hx, hb, hml, hown, hts⟩ (c_putStr_11_0_16 l D y H.size h0 bv w1 ((.int 0)) sx tx g) (va_cwU 2 hts gv_c_ASBapp_11_0_16_c_putStr_11_0_16_208 rfl rfl rfl rfl (by decide +kernel) ⟨(Nat.le_of_ble_eq_true rfl), (Nat.le_of_ble_eq_true rfl)⟩) (zB.preV hPc hDc hK hN hE hO hT hG hS hFc (fun _ h => nomatch h) (List.forall_mem_cons.mpr ⟨List.mem_of_getElem? (i := 0) rfl, (fun _ h => nomatch h)⟩) (fun _ h => nomatch h) (List.forall_mem_cons.mpr ⟨List.mem_of_getElem? (i := 0) rfl, (fun _ h => nomatch h)⟩) (va_recv hK hPc (ci := 1) (q0 := 0) rfl rfl)) rfl rfl hl.1 rfl (lv_room (Nat.le_of_ble_eq_true rfl)) dJ5_append_cf1ce_30 ⟨(Nat.le_of_ble_eq_true rfl), (Nat.le_of_ble_eq_true rfl)⟩) hS (fun q _ h => hFc q h) hFc (fun u t H1 locs ht hvm hw hB hz1 hk1 hS => ?_)
  obtain ⟨hP1, hD1⟩ := hB
  rw [ht] at hP1
  obtain ⟨hP, hD⟩ := va_join (wr := []) (w1 := [(h0, .inr (1, [.ref bv, .int 0, w1, .int 0])), (bv, .inl (y 0, 16, .inl (va_cpy zs11 g (0 : Int32).toNatClampNeg (0 : Int32).toNatClampNeg (9 : Int32).toNatClampNeg)))]) hP hD [0, 1] [] rfl rfl (by decide) (by decide) hk1 hFc hP1 hD1
  generalize H1 = H at hP hS ⊢
  have hP : va_P D vwCl [(h0, .inr (1, [.ref bv, .int 0, w1, .int 0])), (bv, .inl (y 0, 16, .inl (va_cpy zs11 g (0 : Int32).toNatClampNeg (0 : Int32).toNatClampNeg (9 : Int32).toNatClampNeg)))] H := hP
  have hD : va_D A [(h0, .inr (1, [.ref bv, .int 0, w1, .int 0])), (bv, .inl (y 0, 16, .inl (va_cpy zs11 g (0 : Int32).toNatClampNeg (0 : Int32).toNatClampNeg (9 : Int32).toNatClampNeg)))] := hD
  refine lv_aload_n hx hb dJ5_append_cf1ce_33 rfl (lv_at hl 1 rfl) ?_
  refine lv_dup hx hb dJ5_append_cf1ce_34 rfl ?_
  refine va_get (D := D) (ci := 1) (v := .int 0) (C := RJ4) (T := TJ4) (N := 4) hx hb hts (by decide +kernel) hown hK hP 0 rfl rfl 3 (by decide) (hts (.fieldLink RJ5 79 "java/lang/AbstractStringBuilder" "count" "I") (by decide +kernel)) (fun _ h9 => h9) rfl dJ5_append_cf1ce_35 ?_
  refine lv_iload_n hx hb dJ5_append_cf1ce_38 rfl (lv_at hl 0 rfl) ?_
  refine lv_iadd hx hb dJ5_append_cf1ce_39 ?_
  refine lv_topi (fun v3 ev3 => ?_)
  have ev3 : v3 = 9 := ev3.trans (by decide +kernel)
  subst ev3
  refine va_put (D := D) (ci := 1) (v := .int 9) (ty := .int) (C := RJ4) (T := TJ4) (N := 4) hx hb hts (by decide +kernel) tyJ4 tyJ4_ok nmJ4 hown hK hP hD hS 0 rfl rfl 3 (by decide) (hts (.fieldLink RJ5 79 "java/lang/AbstractStringBuilder" "count" "I") (by decide +kernel)) (fun _ h9 => h9) rfl (by decide +kernel) rfl rfl (Nat.le_of_ble_eq_true rfl) dJ5_append_cf1ce_40 (fun H locs hP hD hS => ?_)
  have hP : va_P D vwCl [(h0, .inr (1, [.ref bv, .int 0, w1, .int 9])), (bv, .inl (y 0, 16, .inl (va_cpy zs11 g (0 : Int32).toNatClampNeg (0 : Int32).toNatClampNeg (9 : Int32).toNatClampNeg)))] H := hP
  have hD : va_D A [(h0, .inr (1, [.ref bv, .int 0, w1, .int 9])), (bv, .inl (y 0, 16, .inl (va_cpy zs11 g (0 : Int32).toNatClampNeg (0 : Int32).toNatClampNeg (9 : Int32).toNatClampNeg)))] := hD
  refine lv_aload_n hx hb dJ5_append_cf1ce_43 rfl (lv_at hl 1 rfl) ?_
  have hP9 := hP.sub (ws' := [(h0, .inr (1, [.ref bv, .int 0, w1, .int 9])), (bv, .inl (y 0, 16, .inl (va_cpy zs11 g (0 : Int32).toNatClampNeg (0 : Int32).toNatClampNeg (9 : Int32).toNatClampNeg)))]) [0, 1] rfl
  have hD9 := hD.sub (ws' := [(h0, .inr (1, [.ref bv, .int 0, w1, .int 9])), (bv, .inl (y 0, 16, .inl (va_cpy zs11 g (0 : Int32).toNatClampNeg (0 : Int32).toNatClampNeg (9 : Int32).toNatClampNeg)))]) [0, 1] (by decide) rfl
  refine W.widen (k := 0) (n := 0) (Nat.le_of_ble_eq_true rfl) (Nat.le_of_ble_eq_true rfl) ?_
  exact W.aret (v := .ref h0) hx hb hr (Or.inl ⟨_, rfl⟩) (Or.inr ⟨_, rfl⟩) (fun t ht hW => ⟨⟨(some h0), (), rfl, rfl, by rw [ht]; exact hP9, hD9⟩, hS.F ht⟩) hS.2.2 dJ5_append_cf1ce_44
def wz_c_SBapp_11_0_16 : List Cond := .code yJ4_append_15ec4 cJ4_append_15ec4 2 (some (.object "java/lang/StringBuilder")) :: ([.methodLink RJ4 29 yJ5_append_cf1ce, .sameMethod RJ5 RJ5 "append" "(Ljava/lang/String;)Ljava/lang/AbstractStringBuilder;", .superclass RJ4 RJ5, .instanceMethod yJ5_append_cf1ce, .initialized RJ5] ++ (wz_c_ASBapp_11_0_16 ++ ([])))
set_option maxRecDepth 100000 in
theorem gz_c_SBapp_11_0_16_c_ASBapp_11_0_16 : GoodIn wz_c_SBapp_11_0_16 wz_c_ASBapp_11_0_16 := goodIn_sub (fun w h => List.mem_cons_of_mem _ (List.mem_append_right _ (List.mem_append_left _ h))) (by decide +kernel)
set_option maxRecDepth 100000 in
theorem gv_c_SBapp_11_0_16_c_ASBapp_11_0_16_29 : GoodIn wz_c_SBapp_11_0_16 (va_wsSU RJ4 29 yJ5_append_cf1ce wz_c_ASBapp_11_0_16) := goodIn_app (goodIn_of _ (by decide +kernel)) gz_c_SBapp_11_0_16_c_ASBapp_11_0_16
set_option maxHeartbeats 4000000 in
set_option maxRecDepth 100000 in
theorem c_SBapp_11_0_16 (l : Launch) (D : va_G) (y : Nat → ClassId) (sz : Nat) (h0 : Nat) (bv : Nat) (w1 : Value) (sx : Nat) (tx : Nat) (g : Nat → Int32) : Met l yJ4_append_15ec4 wz_c_SBapp_11_0_16 ({ frames := 4, cells := 0, slots := 0, locals := 127 }) (va_Pc [.ref h0, .ref sx] (zB D y [(h0, .inr (1, [.ref bv, .int 0, w1, .int 0])), (bv, .inl (y 0, 16, .inl g))] sz [] [("java/lang/String", "COMPACT_STRINGS", "Z", .int 1)] [] [.inr (.inl (sx, tx, 9, zs11))])) (va_Qq (fun (r : Option Nat) (_ : Unit) => r = some h0) (fun _ t => va_P D vwCl [(h0, .inr (1, [.ref bv, .int 0, w1, .int 9])), (bv, .inl (y 0, 16, .inl (va_cpy zs11 g (0 : Int32).toNatClampNeg (0 : Int32).toNatClampNeg (9 : Int32).toNatClampNeg)))] t.heap ∧ va_D (va_A [(h0, .inr (1, [.ref bv, .int 0, w1, .int 0])), (bv, .inl (y 0, 16, .inl g))] sz) [(h0, .inr (1, [.ref bv, .int 0, w1, .int 9])), (bv, .inl (y 0, 16, .inl (va_cpy zs11 g (0 : Int32).toNatClampNeg (0 : Int32).toNatClampNeg (9 : Int32).toNatClampNeg)))]) (va_A [(h0, .inr (1, [.ref bv, .int 0, w1, .int 0])), (bv, .inl (y 0, 16, .inl g))] sz)) 0 0 (va_A [(h0, .inr (1, [.ref bv, .int 0, w1, .int 0])), (bv, .inl (y 0, 16, .inl g))] sz) := by
  refine Met.ofW (cc := cJ4_append_15ec4) (maxL := 2) (ret := (some (.object "java/lang/StringBuilder"))) (by decide) rfl ?_
  intro p e s m args below meth c s₁ B hml hv
  obtain ⟨rfl, hsz, hP, hK, hD0, hN, hE, hO, hT, hG⟩ := hv
  have hx := B.exec
  have hb := B.bytes
  have hr := B.returns
  have hts := atoms_spec (ws := wz_c_SBapp_11_0_16) B.pre
  have hown : s.vm.findClass RJ4 = some m.cls := findClass_of_methodNamed B.named
  have hlocks := B.notSynchronized
  subst hsz
  have hD := hD0.self (sz := s.heap.size)
  generalize hAe : va_A [(h0, .inr (1, [.ref bv, .int 0, w1, .int 0])), (bv, .inl (y 0, 16, .inl g))] s.heap.size = A at hD hE hT hG ⊢
  have hA : ∀ q : Nat, s.heap.size ≤ q → A q := fun q h => by rw [← hAe]; exact Or.inr h
  have hS : va_S A s.heap s.heap [] := va_S.rf
  have hl := lv_entry ([.ref h0, .ref sx]) (n := 2) (Nat.le_of_ble_eq_true rfl)
  rw [lg_entry_eq]
  generalize (lg_sl ([.ref h0, .ref sx]) ++ List.replicate (2 - (lg_sl ([.ref h0, .ref sx])).length) Slot.unset).toArray = ls at hl ⊢
  have hl : lv_has ls 2 [(0, .ref h0), (1, .ref sx)] := hl
  refine lv_aload_n hx hb dJ4_append_15ec4_0 rfl (lv_at hl 0 rfl) ?_
  refine lv_aload_n hx hb dJ4_append_15ec4_1 rfl (lv_at hl 1 rfl) ?_
  have hPc := hP.sub (ws' := [(h0, .inr (1, [.ref bv, .int 0, w1, .int 0])), (bv, .inl (y 0, 16, .inl g))]) [0, 1] rfl
  have hDc := hD.sub (ws' := [(h0, .inr (1, [.ref bv, .int 0, w1, .int 0])), (bv, .inl (y 0, 16, .inl g))]) [0, 1] (by decide) rfl
  have hFc := va_free (wc := [(h0, .inr (1, [.ref bv, .int 0, w1, .int 0])), (bv, .inl (y 0, 16, .inl g))]) hD hS hA [0, 1] rfl
  refine va_callq (va_runSU (hK.1 1 _ rfl).2 (As := [.ref sx]) (rest := []) ⟨hx, hb, hml, hown, hts⟩ (c_ASBapp_11_0_16 l D y s.heap.size h0 bv w1 sx tx g) (va_cwSU 1 hts gv_c_SBapp_11_0_16_c_ASBapp_11_0_16_29 rfl rfl rfl (by decide +kernel) ⟨(Nat.le_of_ble_eq_true rfl), (Nat.le_of_ble_eq_true rfl)⟩) (zB.preV hPc hDc hK hN hE hO hT hG hS hFc (fun _ h => nomatch h) (List.forall_mem_cons.mpr ⟨List.mem_of_getElem? (i := 0) rfl, (fun _ h => nomatch h)⟩) (fun _ h => nomatch h) (List.forall_mem_cons.mpr ⟨List.mem_of_getElem? (i := 0) rfl, (fun _ h => nomatch h)⟩) (va_recv hK hPc (ci := 1) (q0 := 0) rfl rfl)) rfl rfl hl.1 rfl (lv_room (Nat.le_of_ble_eq_true rfl)) dJ4_append_15ec4_2 ⟨(Nat.le_of_ble_eq_true rfl), (Nat.le_of_ble_eq_true rfl)⟩) hS (fun q _ h => hFc q h) hFc (fun r1 u t H1 locs ht hvm hw hB hz1 hk1 hS => ?_)
  obtain ⟨hP1, hD1⟩ := hB
  rw [ht] at hP1
  obtain ⟨hP, hD⟩ := va_join (wr := []) (w1 := [(h0, .inr (1, [.ref bv, .int 0, w1, .int 9])), (bv, .inl (y 0, 16, .inl (va_cpy zs11 g (0 : Int32).toNatClampNeg (0 : Int32).toNatClampNeg (9 : Int32).toNatClampNeg)))]) hP hD [0, 1] [] rfl rfl (by decide) (by decide) hk1 hFc hP1 hD1
  generalize H1 = H at hP hS ⊢
  have hP : va_P D vwCl [(h0, .inr (1, [.ref bv, .int 0, w1, .int 9])), (bv, .inl (y 0, 16, .inl (va_cpy zs11 g (0 : Int32).toNatClampNeg (0 : Int32).toNatClampNeg (9 : Int32).toNatClampNeg)))] H := hP
  have hD : va_D A [(h0, .inr (1, [.ref bv, .int 0, w1, .int 9])), (bv, .inl (y 0, 16, .inl (va_cpy zs11 g (0 : Int32).toNatClampNeg (0 : Int32).toNatClampNeg (9 : Int32).toNatClampNeg)))] := hD
  have hw : r1 = some h0 := hw
  subst hw
  refine W.eq (g2 := F0 m 5 ls [.ref h0]) rfl ?_
  refine lv_pop hx hb dJ4_append_15ec4_5 rfl ?_
  refine lv_aload_n hx hb dJ4_append_15ec4_6 rfl (lv_at hl 0 rfl) ?_
  have hP9 := hP.sub (ws' := [(h0, .inr (1, [.ref bv, .int 0, w1, .int 9])), (bv, .inl (y 0, 16, .inl (va_cpy zs11 g (0 : Int32).toNatClampNeg (0 : Int32).toNatClampNeg (9 : Int32).toNatClampNeg)))]) [0, 1] rfl
  have hD9 := hD.sub (ws' := [(h0, .inr (1, [.ref bv, .int 0, w1, .int 9])), (bv, .inl (y 0, 16, .inl (va_cpy zs11 g (0 : Int32).toNatClampNeg (0 : Int32).toNatClampNeg (9 : Int32).toNatClampNeg)))]) [0, 1] (by decide) rfl
  refine W.widen (k := 0) (n := 0) (Nat.le_of_ble_eq_true rfl) (Nat.le_of_ble_eq_true rfl) ?_
  exact W.aret (v := .ref h0) hx hb hr (Or.inl ⟨_, rfl⟩) (Or.inr ⟨_, rfl⟩) (fun t ht hW => ⟨⟨(some h0), (), rfl, rfl, by rw [ht]; exact hP9, hD9⟩, hS.F ht⟩) hS.2.2 dJ4_append_15ec4_7
def zk5 : Nat → Int32 := va_cpy zs11 (fun _ => 0) (0 : Int32).toNatClampNeg (0 : Int32).toNatClampNeg (9 : Int32).toNatClampNeg
def wz_c_newLen_20 : List Cond := .code yJ8_newLength_cabcc cJ8_newLength_cabcc 4 (some .int) :: ([.methodLink RJ8 194 Lib.Math.max.name, .static Lib.Math.max.name, .initialized "java/lang/Math", .code Lib.Math.max.name Lib.Math.max.code 2 (some .int), .constant RJ8 200 2147483639] ++ ([]))
set_option maxHeartbeats 4000000 in
set_option maxRecDepth 100000 in
theorem c_newLen_20 (l : Launch) (D : va_G) (y : Nat → ClassId) (sz : Nat)  : Met l yJ8_newLength_cabcc wz_c_newLen_20 ({ frames := 1, cells := 0, slots := 0, locals := 14 }) (va_Pc [.int 16, .int 4, .int 18] (zB D y [] sz [] [] [] [])) (va_Qi (fun (r : Int32) (_ : Unit) => r = 34) (fun _ t => va_P D vwCl [] t.heap ∧ va_D (va_A [] sz) []) (va_A [] sz)) 0 0 (va_A [] sz) := by
  refine Met.ofW (cc := cJ8_newLength_cabcc) (maxL := 4) (ret := (some .int)) (by decide) rfl ?_
  intro p e s m args below meth c s₁ B hml hv
  obtain ⟨rfl, hsz, hP, hK, hD0, hN, hE, hO, hT, hG⟩ := hv
  have hx := B.exec
  have hb := B.bytes
  have hr := B.returns
  have hts := atoms_spec (ws := wz_c_newLen_20) B.pre
  have hown : s.vm.findClass RJ8 = some m.cls := findClass_of_methodNamed B.named
  have hlocks := B.notSynchronized
  subst hsz
  have hD := hD0.self (sz := s.heap.size)
  generalize hAe : va_A [] s.heap.size = A at hD hE hT hG ⊢
  have hA : ∀ q : Nat, s.heap.size ≤ q → A q := fun q h => by rw [← hAe]; exact Or.inr h
  have hS : va_S A s.heap s.heap [] := va_S.rf
  have hl := lv_entry ([.int 16, .int 4, .int 18]) (n := 4) (Nat.le_of_ble_eq_true rfl)
  rw [lg_entry_eq]
  generalize (lg_sl ([.int 16, .int 4, .int 18]) ++ List.replicate (4 - (lg_sl ([.int 16, .int 4, .int 18])).length) Slot.unset).toArray = ls at hl ⊢
  have hl : lv_has ls 4 [(0, .int 16), (1, .int 4), (2, .int 18)] := hl
  refine lv_iload_n hx hb dJ8_newLength_cabcc_0 rfl (lv_at hl 0 rfl) ?_
  refine lv_iload_n hx hb dJ8_newLength_cabcc_1 rfl (lv_at hl 1 rfl) ?_
  refine lv_iload_n hx hb dJ8_newLength_cabcc_2 rfl (lv_at hl 2 rfl) ?_
  refine va_mmax hx hb (hml.trans hl.1.symm) hown (hts (.methodLink RJ8 194 Lib.Math.max.name) (by decide +kernel)) (hts (.static Lib.Math.max.name) (by decide +kernel)) (hts (.initialized "java/lang/Math") (by decide +kernel)) (hts (.code Lib.Math.max.name Lib.Math.max.code 2 (some .int)) (by decide +kernel)) (Nat.le_of_ble_eq_true rfl) (Nat.le_of_ble_eq_true rfl) (Nat.le_of_ble_eq_true rfl) (Nat.le_of_ble_eq_true rfl) dJ8_newLength_cabcc_3 ?_
  refine lv_topi (fun v1 ev1 => ?_)
  have ev1 : v1 = 18 := ev1.trans (by decide +kernel)
  subst ev1
  refine lv_iadd hx hb dJ8_newLength_cabcc_6 ?_
  refine lv_topi (fun v2 ev2 => ?_)
  have ev2 : v2 = 34 := ev2.trans (by decide +kernel)
  subst ev2
  refine lv_istore_n (lv' := [(3, .int 34), (0, .int 16), (1, .int 4), (2, .int 18)]) hx hb dJ8_newLength_cabcc_7 rfl hl (by decide) rfl (fun ls hl => ?_)
  refine lv_iconst (v := 0) hx hb dJ8_newLength_cabcc_8 (by decide) ?_
  refine lv_iload_n hx hb dJ8_newLength_cabcc_9 rfl (lv_at hl 0 rfl) ?_
  refine lv_icmp_ge (tgt := 21) hx hb dJ8_newLength_cabcc_10 (by decide) (fun c9 => absurd c9 (by decide)) (fun _ => ?_)
  refine lv_iload_n hx hb dJ8_newLength_cabcc_13 rfl (lv_at hl 0 rfl) ?_
  refine lv_ldc (v := 2147483639) hx hb hown (hts (.constant RJ8 200 2147483639) (by decide +kernel)) dJ8_newLength_cabcc_14 ?_
  refine lv_icmp_gt (tgt := 21) hx hb dJ8_newLength_cabcc_16 (by decide) (fun c9 => absurd c9 (by decide)) (fun _ => ?_)
  refine lv_iload_n hx hb dJ8_newLength_cabcc_19 rfl (lv_at hl 0 rfl) ?_
  have hP9 := hP.sub (ws' := []) [] rfl
  have hD9 := hD.sub (ws' := []) [] (by decide) rfl
  refine W.widen (k := 0) (n := 0) (Nat.le_of_ble_eq_true rfl) (Nat.le_of_ble_eq_true rfl) ?_
  exact W.iret (v := 34) hx hb hr (fun t ht hW => ⟨⟨34, (), rfl, rfl, by rw [ht]; exact hP9, hD9⟩, hS.F ht⟩) hS.2.2 dJ8_newLength_cabcc_20
def wz_c_newCap_20 : List Cond := .code yJ5_newCapacity_0f7a4 cJ5_newCapacity_0f7a4 6 (some .int) :: ([.fieldLink RJ5 15 "java/lang/AbstractStringBuilder" "value" "[B", .fieldLink RJ5 22 "java/lang/AbstractStringBuilder" "coder" "B", .methodLink RJ5 114 yJ8_newLength_cabcc, .static yJ8_newLength_cabcc, .initialized RJ8, .constant RJ5 39 2147483647] ++ (wsJ40 ++ (wz_c_newLen_20 ++ ([]))))
set_option maxRecDepth 100000 in
theorem gz_c_newCap_20_c_newLen_20 : GoodIn wz_c_newCap_20 wz_c_newLen_20 := goodIn_sub (fun w h => List.mem_cons_of_mem _ (List.mem_append_right _ (List.mem_append_right _ (List.mem_append_left _ h)))) (by decide +kernel)
set_option maxRecDepth 100000 in
theorem gv_c_newCap_20_c_newLen_20_114 : GoodIn wz_c_newCap_20 (va_wsS RJ5 114 yJ8_newLength_cabcc wz_c_newLen_20) := goodIn_app (goodIn_of _ (by decide +kernel)) gz_c_newCap_20_c_newLen_20
set_option maxHeartbeats 4000000 in
set_option maxRecDepth 100000 in
theorem c_newCap_20 (l : Launch) (D : va_G) (y : Nat → ClassId) (sz : Nat) (h0 : Nat) (bv : Nat) (w1 : Value) (w2 : Value) (g : Nat → Int32) : Met l yJ5_newCapacity_0f7a4 wz_c_newCap_20 ({ frames := 2, cells := 0, slots := 0, locals := 37 }) (va_Pc [.ref h0, .int 20] (zB D y [(h0, .inr (1, [.ref bv, .int 0, w1, w2])), (bv, .inl (y 0, 16, .inl g))] sz [] [] [] [])) (va_Qi (fun (r : Int32) (_ : Unit) => r = 34) (fun _ t => va_P D vwCl [(h0, .inr (1, [.ref bv, .int 0, w1, w2])), (bv, .inl (y 0, 16, .inl g))] t.heap ∧ va_D (va_A [(h0, .inr (1, [.ref bv, .int 0, w1, w2])), (bv, .inl (y 0, 16, .inl g))] sz) [(h0, .inr (1, [.ref bv, .int 0, w1, w2])), (bv, .inl (y 0, 16, .inl g))]) (va_A [(h0, .inr (1, [.ref bv, .int 0, w1, w2])), (bv, .inl (y 0, 16, .inl g))] sz)) 0 0 (va_A [(h0, .inr (1, [.ref bv, .int 0, w1, w2])), (bv, .inl (y 0, 16, .inl g))] sz) := by
  refine Met.ofW (cc := cJ5_newCapacity_0f7a4) (maxL := 6) (ret := (some .int)) (by decide) rfl ?_
  intro p e s m args below meth c s₁ B hml hv
  obtain ⟨rfl, hsz, hP, hK, hD0, hN, hE, hO, hT, hG⟩ := hv
  have hx := B.exec
  have hb := B.bytes
  have hr := B.returns
  have hts := atoms_spec (ws := wz_c_newCap_20) B.pre
  have hown : s.vm.findClass RJ5 = some m.cls := findClass_of_methodNamed B.named
  have hlocks := B.notSynchronized
  subst hsz
  have hD := hD0.self (sz := s.heap.size)
  generalize hAe : va_A [(h0, .inr (1, [.ref bv, .int 0, w1, w2])), (bv, .inl (y 0, 16, .inl g))] s.heap.size = A at hD hE hT hG ⊢
  have hA : ∀ q : Nat, s.heap.size ≤ q → A q := fun q h => by rw [← hAe]; exact Or.inr h
  have hS : va_S A s.heap s.heap [] := va_S.rf
  have hl := lv_entry ([.ref h0, .int 20]) (n := 6) (Nat.le_of_ble_eq_true rfl)
  rw [lg_entry_eq]
  generalize (lg_sl ([.ref h0, .int 20]) ++ List.replicate (6 - (lg_sl ([.ref h0, .int 20])).length) Slot.unset).toArray = ls at hl ⊢
  have hl : lv_has ls 6 [(0, .ref h0), (1, .int 20)] := hl
  refine lv_aload_n hx hb dJ5_newCapacity_0f7a4_0 rfl (lv_at hl 0 rfl) ?_
  refine va_get (D := D) (ci := 1) (v := .ref bv) (C := RJ4) (T := TJ4) (N := 4) hx hb hts (by decide +kernel) hown hK hP 0 rfl rfl 0 (by decide) (hts (.fieldLink RJ5 15 "java/lang/AbstractStringBuilder" "value" "[B") (by decide +kernel)) (fun _ h9 => h9) rfl dJ5_newCapacity_0f7a4_1 ?_
  refine va_alen (v := 16) hx hb hK hP 1 0 rfl rfl (show Int32.ofNat 16 = (16 : Int32) from by decide) dJ5_newCapacity_0f7a4_4 ?_
  refine lv_istore_n (lv' := [(2, .int 16), (0, .ref h0), (1, .int 20)]) hx hb dJ5_newCapacity_0f7a4_5 rfl hl (by decide) rfl (fun ls hl => ?_)
  refine lv_iload_n hx hb dJ5_newCapacity_0f7a4_6 rfl (lv_at hl 2 rfl) ?_
  refine lv_aload_n hx hb dJ5_newCapacity_0f7a4_7 rfl (lv_at hl 1 rfl) ?_
  refine va_get (D := D) (ci := 1) (v := .int 0) (C := RJ4) (T := TJ4) (N := 4) hx hb hts (by decide +kernel) hown hK hP 0 rfl rfl 1 (by decide) (hts (.fieldLink RJ5 22 "java/lang/AbstractStringBuilder" "coder" "B") (by decide +kernel)) (fun _ h9 => h9) rfl dJ5_newCapacity_0f7a4_8 ?_
  refine lv_ishl hx hb dJ5_newCapacity_0f7a4_11 ?_
  refine lv_topi (fun v1 ev1 => ?_)
  have ev1 : v1 = 20 := ev1.trans (by decide +kernel)
  subst ev1
  refine lv_istore_n (lv' := [(3, .int 20), (2, .int 16), (0, .ref h0), (1, .int 20)]) hx hb dJ5_newCapacity_0f7a4_12 rfl hl (by decide) rfl (fun ls hl => ?_)
  refine lv_iload_n hx hb dJ5_newCapacity_0f7a4_13 rfl (lv_at hl 0 rfl) ?_
  refine lv_iload_n hx hb dJ5_newCapacity_0f7a4_14 rfl (lv_at hl 1 rfl) ?_
  refine lv_isub hx hb dJ5_newCapacity_0f7a4_15 ?_
  refine lv_topi (fun v2 ev2 => ?_)
  have ev2 : v2 = 4 := ev2.trans (by decide +kernel)
  subst ev2
  refine lv_istore (lv' := [(4, .int 4), (3, .int 20), (2, .int 16), (0, .ref h0), (1, .int 20)]) hx hb dJ5_newCapacity_0f7a4_16 hl (by decide) rfl (fun ls hl => ?_)
  refine lv_iload_n hx hb dJ5_newCapacity_0f7a4_18 rfl (lv_at hl 2 rfl) ?_
  refine lv_iload hx hb dJ5_newCapacity_0f7a4_19 (lv_at hl 0 rfl) ?_
  refine lv_iload_n hx hb dJ5_newCapacity_0f7a4_21 rfl (lv_at hl 2 rfl) ?_
  refine lv_iconst (v := 2) hx hb dJ5_newCapacity_0f7a4_22 (by decide) ?_
  refine lv_aload_n hx hb dJ5_newCapacity_0f7a4_23 rfl (lv_at hl 3 rfl) ?_
  refine va_get (D := D) (ci := 1) (v := .int 0) (C := RJ4) (T := TJ4) (N := 4) hx hb hts (by decide +kernel) hown hK hP 0 rfl rfl 1 (by decide) (hts (.fieldLink RJ5 22 "java/lang/AbstractStringBuilder" "coder" "B") (by decide +kernel)) (fun _ h9 => h9) rfl dJ5_newCapacity_0f7a4_24 ?_
  refine lv_ishl hx hb dJ5_newCapacity_0f7a4_27 ?_
  refine lv_topi (fun v3 ev3 => ?_)
  have ev3 : v3 = 2 := ev3.trans (by decide +kernel)
  subst ev3
  refine lv_iadd hx hb dJ5_newCapacity_0f7a4_28 ?_
  refine lv_topi (fun v4 ev4 => ?_)
  have ev4 : v4 = 18 := ev4.trans (by decide +kernel)
  subst ev4
  have hPc := hP.sub (ws' := []) [] rfl
  have hDc := hD.sub (ws' := []) [] (by decide) rfl
  have hFc := va_free (wc := []) hD hS hA [] rfl
  refine va_calli (va_runS (As := [.int 16, .int 4, .int 18]) (rest := []) ⟨hx, hb, hml, hown, hts⟩ (c_newLen_20 l D y s.heap.size ) (va_cwS 3 hts gv_c_newCap_20_c_newLen_20_114 rfl rfl rfl (by decide +kernel) ⟨(Nat.le_of_ble_eq_true rfl), (Nat.le_of_ble_eq_true rfl)⟩) (zB.preS hPc hDc hK hN hE hO hT hG hS hFc (fun _ h => nomatch h) (fun _ h => nomatch h) (fun _ h => nomatch h) (fun _ h => nomatch h)) rfl rfl hl.1 rfl (lv_room (Nat.le_of_ble_eq_true rfl)) dJ5_newCapacity_0f7a4_29 ⟨(Nat.le_of_ble_eq_true rfl), (Nat.le_of_ble_eq_true rfl)⟩) hS (fun q _ h => hFc q h) hFc (fun r5 u t H1 locs ht hvm hw hB hz1 hk1 hS => ?_)
  obtain ⟨hP1, hD1⟩ := hB
  rw [ht] at hP1
  obtain ⟨hP, hD⟩ := va_join (wr := [(h0, .inr (1, [.ref bv, .int 0, w1, w2])), (bv, .inl (y 0, 16, .inl g))]) (w1 := []) hP hD [] [0, 1] rfl rfl (by decide) (by decide) hk1 hFc hP1 hD1
  generalize H1 = H at hP hS ⊢
  have hP : va_P D vwCl [(h0, .inr (1, [.ref bv, .int 0, w1, w2])), (bv, .inl (y 0, 16, .inl g))] H := hP
  have hD : va_D A [(h0, .inr (1, [.ref bv, .int 0, w1, w2])), (bv, .inl (y 0, 16, .inl g))] := hD
  have hw : r5 = 34 := hw
  subst hw
  refine lv_istore (lv' := [(5, .int 34), (4, .int 4), (3, .int 20), (2, .int 16), (0, .ref h0), (1, .int 20)]) hx hb dJ5_newCapacity_0f7a4_32 hl (by decide) rfl (fun ls hl => ?_)
  refine lv_iload hx hb dJ5_newCapacity_0f7a4_34 (lv_at hl 0 rfl) ?_
  refine lv_ldc (v := 2147483647) hx hb hown (hts (.constant RJ5 39 2147483647) (by decide +kernel)) dJ5_newCapacity_0f7a4_36 ?_
  refine lv_icmp_ne (tgt := 51) hx hb dJ5_newCapacity_0f7a4_38 (by decide) (fun _ => ?_) (fun c9 => absurd c9 (by decide))
  refine lv_iload hx hb dJ5_newCapacity_0f7a4_51 (lv_at hl 0 rfl) ?_
  refine lv_aload_n hx hb dJ5_newCapacity_0f7a4_53 rfl (lv_at hl 4 rfl) ?_
  refine va_get (D := D) (ci := 1) (v := .int 0) (C := RJ4) (T := TJ4) (N := 4) hx hb hts (by decide +kernel) hown hK hP 0 rfl rfl 1 (by decide) (hts (.fieldLink RJ5 22 "java/lang/AbstractStringBuilder" "coder" "B") (by decide +kernel)) (fun _ h9 => h9) rfl dJ5_newCapacity_0f7a4_54 ?_
  refine lv_ishr hx hb dJ5_newCapacity_0f7a4_57 ?_
  refine lv_topi (fun v6 ev6 => ?_)
  have ev6 : v6 = 34 := ev6.trans (by decide +kernel)
  subst ev6
  have hP9 := hP.sub (ws' := [(h0, .inr (1, [.ref bv, .int 0, w1, w2])), (bv, .inl (y 0, 16, .inl g))]) [0, 1] rfl
  have hD9 := hD.sub (ws' := [(h0, .inr (1, [.ref bv, .int 0, w1, w2])), (bv, .inl (y 0, 16, .inl g))]) [0, 1] (by decide) rfl
  refine W.widen (k := 0) (n := 0) (Nat.le_of_ble_eq_true rfl) (Nat.le_of_ble_eq_true rfl) ?_
  exact W.iret (v := 34) hx hb hr (fun t ht hW => ⟨⟨34, (), rfl, rfl, by rw [ht]; exact hP9, hD9⟩, hS.F ht⟩) hS.2.2 dJ5_newCapacity_0f7a4_58
def zk6 : Nat → Int32 := va_cpy zk5 (fun _ => 0) (0 : Int32).toNatClampNeg (0 : Int32).toNatClampNeg (16 : Int32).toNatClampNeg
def wz_c_copyOf_e0 : List Cond := .code yJ7_copyOf_9075b cJ7_copyOf_9075b 3 (some (.array .byte)) :: ([.arrayClass .byte, .methodLink RJ7 304 Lib.Math.min.name, .static Lib.Math.min.name, .initialized "java/lang/Math", .code Lib.Math.min.name Lib.Math.min.code 2 (some .int), .methodLink RJ7 150 arraycopyName, .native arraycopyName, .static arraycopyName, .initialized "java/lang/System"] ++ ([]))
set_option maxHeartbeats 4000000 in
set_option maxRecDepth 100000 in
theorem c_copyOf_e0 (l : Launch) (D : va_G) (y : Nat → ClassId) (sz : Nat) (bv : Nat) : Met l yJ7_copyOf_9075b wz_c_copyOf_e0 ({ frames := 1, cells := 1, slots := 34, locals := 60 }) (va_Pc [.ref bv, .int 34] (zB D y [(bv, .inl (y 0, 16, .inl zk5))] sz [] [] [] [])) (va_Qr (fun _ : Unit => True) (fun _ q1 t => va_P D vwCl [(bv, .inl (y 0, 16, .inl zk5)), (q1, .inl (y 0, 34, .inl zk6))] t.heap ∧ va_D (va_A [(bv, .inl (y 0, 16, .inl zk5))] sz) [(bv, .inl (y 0, 16, .inl zk5)), (q1, .inl (y 0, 34, .inl zk6))]) (va_A [(bv, .inl (y 0, 16, .inl zk5))] sz)) 1 34 (va_A [(bv, .inl (y 0, 16, .inl zk5))] sz) := by
  refine Met.ofW (cc := cJ7_copyOf_9075b) (maxL := 3) (ret := (some (.array .byte))) (by decide) rfl ?_
  intro p e s m args below meth c s₁ B hml hv
  obtain ⟨rfl, hsz, hP, hK, hD0, hN, hE, hO, hT, hG⟩ := hv
  have hx := B.exec
  have hb := B.bytes
  have hr := B.returns
  have hts := atoms_spec (ws := wz_c_copyOf_e0) B.pre
  have hown : s.vm.findClass RJ7 = some m.cls := findClass_of_methodNamed B.named
  have hlocks := B.notSynchronized
  subst hsz
  have hD := hD0.self (sz := s.heap.size)
  generalize hAe : va_A [(bv, .inl (y 0, 16, .inl zk5))] s.heap.size = A at hD hE hT hG ⊢
  have hA : ∀ q : Nat, s.heap.size ≤ q → A q := fun q h => by rw [← hAe]; exact Or.inr h
  have hS : va_S A s.heap s.heap [] := va_S.rf
  have hl := lv_entry ([.ref bv, .int 34]) (n := 3) (Nat.le_of_ble_eq_true rfl)
  rw [lg_entry_eq]
  generalize (lg_sl ([.ref bv, .int 34]) ++ List.replicate (3 - (lg_sl ([.ref bv, .int 34])).length) Slot.unset).toArray = ls at hl ⊢
  have hl : lv_has ls 3 [(0, .ref bv), (1, .int 34)] := hl
  refine lv_iload_n hx hb dJ7_copyOf_9075b_0 rfl (lv_at hl 1 rfl) ?_
  refine lv_aload_n hx hb dJ7_copyOf_9075b_1 rfl (lv_at hl 0 rfl) ?_
  refine va_alen (v := 16) hx hb hK hP 0 0 rfl rfl (show Int32.ofNat 16 = (16 : Int32) from by decide) dJ7_copyOf_9075b_2 ?_
  refine lv_icmp_ne (tgt := 14) hx hb dJ7_copyOf_9075b_3 (by decide) (fun _ => ?_) (fun c9 => absurd c9 (by decide))
  refine lv_iload_n hx hb dJ7_copyOf_9075b_14 rfl (lv_at hl 1 rfl) ?_
  refine zz_newa (atype := .byte) (n := 34) (N' := 34) (a0 := (34, .inl (fun _ => 0))) (ty := .byte) hx hb (hts (.arrayClass .byte) (by decide +kernel)) rfl hK 0 rfl hP hD hS hA (zz_aB 34) (by decide +kernel) (by decide +kernel) (by decide +kernel) (Nat.le_of_ble_eq_true rfl) (Nat.le_of_ble_eq_true rfl) dJ7_copyOf_9075b_15 (fun q1 H hP hD hS => ?_)
  have hP : va_P D vwCl [(bv, .inl (y 0, 16, .inl zk5)), (q1, .inl (y 0, 34, .inl (fun _ => 0)))] H := hP
  have hD : va_D A [(bv, .inl (y 0, 16, .inl zk5)), (q1, .inl (y 0, 34, .inl (fun _ => 0)))] := hD
  refine lv_astore_n (lv' := [(2, .ref q1), (0, .ref bv), (1, .int 34)]) hx hb dJ7_copyOf_9075b_17 rfl hl (by decide) rfl (fun ls hl => ?_)
  refine lv_aload_n hx hb dJ7_copyOf_9075b_18 rfl (lv_at hl 1 rfl) ?_
  refine lv_iconst (v := 0) hx hb dJ7_copyOf_9075b_19 (by decide) ?_
  refine lv_aload_n hx hb dJ7_copyOf_9075b_20 rfl (lv_at hl 0 rfl) ?_
  refine lv_iconst (v := 0) hx hb dJ7_copyOf_9075b_21 (by decide) ?_
  refine lv_aload_n hx hb dJ7_copyOf_9075b_22 rfl (lv_at hl 1 rfl) ?_
  refine va_alen (v := 16) hx hb hK hP 0 0 rfl rfl (show Int32.ofNat 16 = (16 : Int32) from by decide) dJ7_copyOf_9075b_23 ?_
  refine lv_iload_n hx hb dJ7_copyOf_9075b_24 rfl (lv_at hl 2 rfl) ?_
  refine va_mmin hx hb (hml.trans hl.1.symm) hown (hts (.methodLink RJ7 304 Lib.Math.min.name) (by decide +kernel)) (hts (.static Lib.Math.min.name) (by decide +kernel)) (hts (.initialized "java/lang/Math") (by decide +kernel)) (hts (.code Lib.Math.min.name Lib.Math.min.code 2 (some .int)) (by decide +kernel)) (Nat.le_of_ble_eq_true rfl) (Nat.le_of_ble_eq_true rfl) (Nat.le_of_ble_eq_true rfl) (Nat.le_of_ble_eq_true rfl) dJ7_copyOf_9075b_25 ?_
  refine lv_topi (fun v2 ev2 => ?_)
  have ev2 : v2 = 16 := ev2.trans (by decide +kernel)
  subst ev2
  refine va_copyi (ty := .byte) (sp := 0) (dp := 0) (n := 16) hx hb (hml.trans hl.1.symm) hown (hts (.methodLink RJ7 150 arraycopyName) (by decide +kernel)) (hts (.native arraycopyName) (by decide +kernel)) (hts (.static arraycopyName) (by decide +kernel)) (hts (.initialized "java/lang/System") (by decide +kernel)) hK hP hD hS 0 1 0 0 rfl rfl rfl rfl rfl (by decide +kernel) (by decide +kernel) (by decide +kernel) (by decide +kernel) (by decide +kernel) (by decide +kernel) (Nat.le_of_ble_eq_true rfl) (Nat.le_of_ble_eq_true rfl) dJ7_copyOf_9075b_28 (fun H locs hP hD hS => ?_)
  have hP : va_P D vwCl [(bv, .inl (y 0, 16, .inl zk5)), (q1, .inl (y 0, 34, .inl zk6))] H := hP
  have hD : va_D A [(bv, .inl (y 0, 16, .inl zk5)), (q1, .inl (y 0, 34, .inl zk6))] := hD
  refine lv_aload_n hx hb dJ7_copyOf_9075b_31 rfl (lv_at hl 0 rfl) ?_
  have hP9 := hP.sub (ws' := [(bv, .inl (y 0, 16, .inl zk5)), (q1, .inl (y 0, 34, .inl zk6))]) [0, 1] rfl
  have hD9 := hD.sub (ws' := [(bv, .inl (y 0, 16, .inl zk5)), (q1, .inl (y 0, 34, .inl zk6))]) [0, 1] (by decide) rfl
  refine W.widen (k := 1) (n := 34) (Nat.le_of_ble_eq_true rfl) (Nat.le_of_ble_eq_true rfl) ?_
  exact W.aret (v := .ref q1) hx hb hr (Or.inr ⟨_, rfl⟩) (Or.inr ⟨_, rfl⟩) (fun t ht hW => ⟨⟨(), q1, rfl, trivial, by rw [ht]; exact hP9, hD9⟩, hS.F ht⟩) hS.2.2 dJ7_copyOf_9075b_32
def wz_c_ens_e0 : List Cond := .code yJ5_ensureCapacityInternal_d00df cJ5_ensureCapacityInternal_d00df 3 none :: ([.fieldLink RJ5 15 "java/lang/AbstractStringBuilder" "value" "[B", .fieldLink RJ5 22 "java/lang/AbstractStringBuilder" "coder" "B", .methodLink RJ5 104 ⟨"java/lang/AbstractStringBuilder", "newCapacity", "(I)I"⟩, .sameMethod "java/lang/AbstractStringBuilder" "java/lang/AbstractStringBuilder" "newCapacity" "(I)I", .selects RJ4 ⟨"java/lang/AbstractStringBuilder", "newCapacity", "(I)I"⟩ yJ5_newCapacity_0f7a4, .instanceMethod yJ5_newCapacity_0f7a4, .initialized RJ5, .methodLink RJ5 108 yJ7_copyOf_9075b, .static yJ7_copyOf_9075b, .initialized RJ7] ++ (wsJ40 ++ (wz_c_newCap_20 ++ (wz_c_copyOf_e0 ++ ([])))))
set_option maxRecDepth 100000 in
theorem gz_c_ens_e0_c_newCap_20 : GoodIn wz_c_ens_e0 wz_c_newCap_20 := goodIn_sub (fun w h => List.mem_cons_of_mem _ (List.mem_append_right _ (List.mem_append_right _ (List.mem_append_left _ h)))) (by decide +kernel)
set_option maxRecDepth 100000 in
theorem gz_c_ens_e0_c_copyOf_e0 : GoodIn wz_c_ens_e0 wz_c_copyOf_e0 := goodIn_sub (fun w h => List.mem_cons_of_mem _ (List.mem_append_right _ (List.mem_append_right _ (List.mem_append_right _ (List.mem_append_left _ h))))) (by decide +kernel)
set_option maxRecDepth 100000 in
theorem gv_c_ens_e0_c_newCap_20_104 : GoodIn wz_c_ens_e0 (va_wsU RJ5 104 RJ4 "java/lang/AbstractStringBuilder" ⟨"java/lang/AbstractStringBuilder", "newCapacity", "(I)I"⟩ yJ5_newCapacity_0f7a4 wz_c_newCap_20) := goodIn_app (goodIn_of _ (by decide +kernel)) gz_c_ens_e0_c_newCap_20
set_option maxRecDepth 100000 in
theorem gv_c_ens_e0_c_copyOf_e0_108 : GoodIn wz_c_ens_e0 (va_wsS RJ5 108 yJ7_copyOf_9075b wz_c_copyOf_e0) := goodIn_app (goodIn_of _ (by decide +kernel)) gz_c_ens_e0_c_copyOf_e0
set_option maxHeartbeats 4000000 in
set_option maxRecDepth 100000 in
theorem c_ens_e0 (l : Launch) (D : va_G) (y : Nat → ClassId) (sz : Nat) (h0 : Nat) (bv : Nat) (w1 : Value) (w2 : Value) : Met l yJ5_ensureCapacityInternal_d00df wz_c_ens_e0 ({ frames := 3, cells := 1, slots := 34, locals := 82 }) (va_Pc [.ref h0, .int 20] (zB D y [(h0, .inr (1, [.ref bv, .int 0, w1, w2])), (bv, .inl (y 0, 16, .inl zk5))] sz [] [] [] [])) (va_Qv (fun _ : Unit => True) (fun _ t => ∃ r5 : Nat, va_P D vwCl [(h0, .inr (1, [.ref r5, .int 0, w1, w2])), (bv, .inl (y 0, 16, .inl zk5)), (r5, .inl (y 0, 34, .inl zk6))] t.heap ∧ va_D (va_A [(h0, .inr (1, [.ref bv, .int 0, w1, w2])), (bv, .inl (y 0, 16, .inl zk5))] sz) [(h0, .inr (1, [.ref r5, .int 0, w1, w2])), (bv, .inl (y 0, 16, .inl zk5)), (r5, .inl (y 0, 34, .inl zk6))]) (va_A [(h0, .inr (1, [.ref bv, .int 0, w1, w2])), (bv, .inl (y 0, 16, .inl zk5))] sz)) 1 34 (va_A [(h0, .inr (1, [.ref bv, .int 0, w1, w2])), (bv, .inl (y 0, 16, .inl zk5))] sz) := by
  refine Met.ofW (cc := cJ5_ensureCapacityInternal_d00df) (maxL := 3) (ret := none) (by decide) rfl ?_
  intro p e s m args below meth c s₁ B hml hv
  obtain ⟨rfl, hsz, hP, hK, hD0, hN, hE, hO, hT, hG⟩ := hv
  have hx := B.exec
  have hb := B.bytes
  have hr := B.returns
  have hts := atoms_spec (ws := wz_c_ens_e0) B.pre
  have hown : s.vm.findClass RJ5 = some m.cls := findClass_of_methodNamed B.named
  have hlocks := B.notSynchronized
  subst hsz
  have hD := hD0.self (sz := s.heap.size)
  generalize hAe : va_A [(h0, .inr (1, [.ref bv, .int 0, w1, w2])), (bv, .inl (y 0, 16, .inl zk5))] s.heap.size = A at hD hE hT hG ⊢
  have hA : ∀ q : Nat, s.heap.size ≤ q → A q := fun q h => by rw [← hAe]; exact Or.inr h
  have hS : va_S A s.heap s.heap [] := va_S.rf
  have hl := lv_entry ([.ref h0, .int 20]) (n := 3) (Nat.le_of_ble_eq_true rfl)
  rw [lg_entry_eq]
  generalize (lg_sl ([.ref h0, .int 20]) ++ List.replicate (3 - (lg_sl ([.ref h0, .int 20])).length) Slot.unset).toArray = ls at hl ⊢
  have hl : lv_has ls 3 [(0, .ref h0), (1, .int 20)] := hl
  refine lv_aload_n hx hb dJ5_ensureCapacityInternal_d00df_0 rfl (lv_at hl 0 rfl) ?_
  refine va_get (D := D) (ci := 1) (v := .ref bv) (C := RJ4) (T := TJ4) (N := 4) hx hb hts (by decide +kernel) hown hK hP 0 rfl rfl 0 (by decide) (hts (.fieldLink RJ5 15 "java/lang/AbstractStringBuilder" "value" "[B") (by decide +kernel)) (fun _ h9 => h9) rfl dJ5_ensureCapacityInternal_d00df_1 ?_
  refine va_alen (v := 16) hx hb hK hP 1 0 rfl rfl (show Int32.ofNat 16 = (16 : Int32) from by decide) dJ5_ensureCapacityInternal_d00df_4 ?_
  refine lv_aload_n hx hb dJ5_ensureCapacityInternal_d00df_5 rfl (lv_at hl 0 rfl) ?_
  refine va_get (D := D) (ci := 1) (v := .int 0) (C := RJ4) (T := TJ4) (N := 4) hx hb hts (by decide +kernel) hown hK hP 0 rfl rfl 1 (by decide) (hts (.fieldLink RJ5 22 "java/lang/AbstractStringBuilder" "coder" "B") (by decide +kernel)) (fun _ h9 => h9) rfl dJ5_ensureCapacityInternal_d00df_6 ?_
  refine lv_ishr hx hb dJ5_ensureCapacityInternal_d00df_9 ?_
  refine lv_topi (fun v1 ev1 => ?_)
  have ev1 : v1 = 16 := ev1.trans (by decide +kernel)
  subst ev1
  refine lv_istore_n (lv' := [(2, .int 16), (0, .ref h0), (1, .int 20)]) hx hb dJ5_ensureCapacityInternal_d00df_10 rfl hl (by decide) rfl (fun ls hl => ?_)
  refine lv_iload_n hx hb dJ5_ensureCapacityInternal_d00df_11 rfl (lv_at hl 2 rfl) ?_
  refine lv_iload_n hx hb dJ5_ensureCapacityInternal_d00df_12 rfl (lv_at hl 0 rfl) ?_
  refine lv_isub hx hb dJ5_ensureCapacityInternal_d00df_13 ?_
  refine lv_topi (fun v2 ev2 => ?_)
  have ev2 : v2 = 4 := ev2.trans (by decide +kernel)
  subst ev2
  refine lv_if_le (tgt := 38) hx hb dJ5_ensureCapacityInternal_d00df_14 (by decide) (fun c9 => absurd c9 (by decide)) (fun _ => ?_)
  refine lv_aload_n hx hb dJ5_ensureCapacityInternal_d00df_17 rfl (lv_at hl 1 rfl) ?_
  refine lv_aload_n hx hb dJ5_ensureCapacityInternal_d00df_18 rfl (lv_at hl 1 rfl) ?_
  refine va_get (D := D) (ci := 1) (v := .ref bv) (C := RJ4) (T := TJ4) (N := 4) hx hb hts (by decide +kernel) hown hK hP 0 rfl rfl 0 (by decide) (hts (.fieldLink RJ5 15 "java/lang/AbstractStringBuilder" "value" "[B") (by decide +kernel)) (fun _ h9 => h9) rfl dJ5_ensureCapacityInternal_d00df_19 ?_
  refine lv_aload_n hx hb dJ5_ensureCapacityInternal_d00df_22 rfl (lv_at hl 1 rfl) ?_
  refine lv_iload_n hx hb dJ5_ensureCapacityInternal_d00df_23 rfl (lv_at hl 2 rfl) ?_
  have hPc := hP.sub (ws' := [(h0, .inr (1, [.ref bv, .int 0, w1, w2])), (bv, .inl (y 0, 16, .inl zk5))]) [0, 1] rfl
  have hDc := hD.sub (ws' := [(h0, .inr (1, [.ref bv, .int 0, w1, w2])), (bv, .inl (y 0, 16, .inl zk5))]) [0, 1] (by decide) rfl
  have hFc := va_free (wc := [(h0, .inr (1, [.ref bv, .int 0, w1, w2])), (bv, .inl (y 0, 16, .inl zk5))]) hD hS hA [0, 1] rfl
  refine va_calli (va_runU (As := [.int 20]) (rest := [.ref bv, .ref h0]) ⟨hx, hb, hml, hown, hts⟩ (c_newCap_20 l D y s.heap.size h0 bv w1 w2 zk5) (va_cwU 1 hts gv_c_ens_e0_c_newCap_20_104 rfl rfl rfl rfl (by decide +kernel) ⟨(Nat.le_of_ble_eq_true rfl), (Nat.le_of_ble_eq_true rfl)⟩) (zB.preV hPc hDc hK hN hE hO hT hG hS hFc (fun _ h => nomatch h) (fun _ h => nomatch h) (fun _ h => nomatch h) (fun _ h => nomatch h) (va_recv hK hPc (ci := 1) (q0 := 0) rfl rfl)) rfl rfl hl.1 rfl (lv_room (Nat.le_of_ble_eq_true rfl)) dJ5_ensureCapacityInternal_d00df_24 ⟨(Nat.le_of_ble_eq_true rfl), (Nat.le_of_ble_eq_true rfl)⟩) hS (fun q _ h => hFc q h) hFc (fun r3 u t H1 locs ht hvm hw hB hz1 hk1 hS => ?_)
  obtain ⟨hP1, hD1⟩ := hB
  rw [ht] at hP1
  obtain ⟨hP, hD⟩ := va_join (wr := []) (w1 := [(h0, .inr (1, [.ref bv, .int 0, w1, w2])), (bv, .inl (y 0, 16, .inl zk5))]) hP hD [0, 1] [] rfl rfl (by decide) (by decide) hk1 hFc hP1 hD1
  generalize H1 = H at hP hS ⊢
  have hP : va_P D vwCl [(h0, .inr (1, [.ref bv, .int 0, w1, w2])), (bv, .inl (y 0, 16, .inl zk5))] H := hP
  have hD : va_D A [(h0, .inr (1, [.ref bv, .int 0, w1, w2])), (bv, .inl (y 0, 16, .inl zk5))] := hD
  have hw : r3 = 34 := hw
  subst hw
  refine lv_aload_n hx hb dJ5_ensureCapacityInternal_d00df_27 rfl (lv_at hl 1 rfl) ?_
  refine va_get (D := D) (ci := 1) (v := .int 0) (C := RJ4) (T := TJ4) (N := 4) hx hb hts (by decide +kernel) hown hK hP 0 rfl rfl 1 (by decide) (hts (.fieldLink RJ5 22 "java/lang/AbstractStringBuilder" "coder" "B") (by decide +kernel)) (fun _ h9 => h9) rfl dJ5_ensureCapacityInternal_d00df_28 ?_
  refine lv_ishl hx hb dJ5_ensureCapacityInternal_d00df_31 ?_
  refine lv_topi (fun v4 ev4 => ?_)
  have ev4 : v4 = 34 := ev4.trans (by decide +kernel)
  subst ev4
  have hPc := hP.sub (ws' := [(bv, .inl (y 0, 16, .inl zk5))]) [1] rfl
  have hDc := hD.sub (ws' := [(bv, .inl (y 0, 16, .inl zk5))]) [1] (by decide) rfl
  have hFc := va_free (wc := [(bv, .inl (y 0, 16, .inl zk5))]) hD hS hA [1] rfl
  refine va_callr (va_runS (As := [.ref bv, .int 34]) (rest := [.ref h0]) ⟨hx, hb, hml, hown, hts⟩ (c_copyOf_e0 l D y H.size bv) (va_cwS 2 hts gv_c_ens_e0_c_copyOf_e0_108 rfl rfl rfl (by decide +kernel) ⟨(Nat.le_of_ble_eq_true rfl), (Nat.le_of_ble_eq_true rfl)⟩) (zB.preS hPc hDc hK hN hE hO hT hG hS hFc (fun _ h => nomatch h) (fun _ h => nomatch h) (fun _ h => nomatch h) (fun _ h => nomatch h)) rfl rfl hl.1 rfl (lv_room (Nat.le_of_ble_eq_true rfl)) dJ5_ensureCapacityInternal_d00df_32 ⟨(Nat.le_of_ble_eq_true rfl), (Nat.le_of_ble_eq_true rfl)⟩) hS (fun q _ h => hFc q h) hFc (fun u r5 t H1 locs ht hvm hw hB hz1 hk1 hS => ?_)
  obtain ⟨hP1, hD1⟩ := hB
  rw [ht] at hP1
  obtain ⟨hP, hD⟩ := va_join (wr := [(h0, .inr (1, [.ref bv, .int 0, w1, w2]))]) (w1 := [(bv, .inl (y 0, 16, .inl zk5)), (r5, .inl (y 0, 34, .inl zk6))]) hP hD [1] [0] rfl rfl (by decide) (by decide) hk1 hFc hP1 hD1
  generalize H1 = H at hP hS ⊢
  have hP : va_P D vwCl [(h0, .inr (1, [.ref bv, .int 0, w1, w2])), (bv, .inl (y 0, 16, .inl zk5)), (r5, .inl (y 0, 34, .inl zk6))] H := hP
  have hD : va_D A [(h0, .inr (1, [.ref bv, .int 0, w1, w2])), (bv, .inl (y 0, 16, .inl zk5)), (r5, .inl (y 0, 34, .inl zk6))] := hD
  refine va_put (D := D) (ci := 1) (v := .ref r5) (ty := (.array .byte)) (C := RJ4) (T := TJ4) (N := 4) hx hb hts (by decide +kernel) tyJ4 tyJ4_ok nmJ4 hown hK hP hD hS 0 rfl rfl 0 (by decide) (hts (.fieldLink RJ5 15 "java/lang/AbstractStringBuilder" "value" "[B") (by decide +kernel)) (fun _ h9 => h9) rfl (by decide +kernel) rfl rfl (Nat.le_of_ble_eq_true rfl) dJ5_ensureCapacityInternal_d00df_35 (fun H locs hP hD hS => ?_)
  have hP : va_P D vwCl [(h0, .inr (1, [.ref r5, .int 0, w1, w2])), (bv, .inl (y 0, 16, .inl zk5)), (r5, .inl (y 0, 34, .inl zk6))] H := hP
  have hD : va_D A [(h0, .inr (1, [.ref r5, .int 0, w1, w2])), (bv, .inl (y 0, 16, .inl zk5)), (r5, .inl (y 0, 34, .inl zk6))] := hD
  have hP9 := hP.sub (ws' := [(h0, .inr (1, [.ref r5, .int 0, w1, w2])), (bv, .inl (y 0, 16, .inl zk5)), (r5, .inl (y 0, 34, .inl zk6))]) [0, 1, 2] rfl
  have hD9 := hD.sub (ws' := [(h0, .inr (1, [.ref r5, .int 0, w1, w2])), (bv, .inl (y 0, 16, .inl zk5)), (r5, .inl (y 0, 34, .inl zk6))]) [0, 1, 2] (by decide) rfl
  refine W.widen (k := 1) (n := 34) (Nat.le_of_ble_eq_true rfl) (Nat.le_of_ble_eq_true rfl) ?_
  exact W.vret hx hb hr (fun t ht hW => ⟨⟨(), rfl, trivial, r5, by rw [ht]; exact hP9, hD9⟩, hS.F ht⟩) hS.2.2 dJ5_ensureCapacityInternal_d00df_38
def wz_c_getBytes_7_9_34 : List Cond := .code yJ0_getBytes_840e7 cJ0_getBytes_840e7 4 none :: ([.methodLink RJ0 335 yJ0_coder_7d493, .instanceMethod yJ0_coder_7d493, .selects RJ0 yJ0_coder_7d493 yJ0_coder_7d493, .initialized RJ0, .fieldLink RJ0 9 "java/lang/String" "value" "[B", .methodLink RJ0 212 arraycopyName, .native arraycopyName, .static arraycopyName, .initialized "java/lang/System"] ++ (wz_c_coder_o ++ ([])))
set_option maxRecDepth 100000 in
theorem gz_c_getBytes_7_9_34_c_coder_o : GoodIn wz_c_getBytes_7_9_34 wz_c_coder_o := goodIn_sub (fun w h => List.mem_cons_of_mem _ (List.mem_append_right _ (List.mem_append_left _ h))) (by decide +kernel)
set_option maxRecDepth 100000 in
theorem gv_c_getBytes_7_9_34_c_coder_o_335 : GoodIn wz_c_getBytes_7_9_34 (wsV RJ0 335 RJ0 yJ0_coder_7d493 wz_c_coder_o) := goodIn_app (goodIn_of _ (by decide +kernel)) gz_c_getBytes_7_9_34_c_coder_o
set_option maxHeartbeats 4000000 in
set_option maxRecDepth 100000 in
theorem c_getBytes_7_9_34 (l : Launch) (D : va_G) (y : Nat → ClassId) (sz : Nat) (bv : Nat) (sx : Nat) (tx : Nat) (g : Nat → Int32) : Met l yJ0_getBytes_840e7 wz_c_getBytes_7_9_34 ({ frames := 1, cells := 0, slots := 0, locals := 60 }) (va_Pc [.ref sx, .ref bv, .int 9, .int 0] (zB D y [(bv, .inl (y 0, 34, .inl g))] sz [] [("java/lang/String", "COMPACT_STRINGS", "Z", .int 1)] [] [.inr (.inl (sx, tx, 11, zs7))])) (va_Qv (fun _ : Unit => True) (fun _ t => va_P D vwCl [(bv, .inl (y 0, 34, .inl (va_cpy zs7 g (0 : Int32).toNatClampNeg (9 : Int32).toNatClampNeg (11 : Int32).toNatClampNeg)))] t.heap ∧ va_D (va_A [(bv, .inl (y 0, 34, .inl g))] sz) [(bv, .inl (y 0, 34, .inl (va_cpy zs7 g (0 : Int32).toNatClampNeg (9 : Int32).toNatClampNeg (11 : Int32).toNatClampNeg)))]) (va_A [(bv, .inl (y 0, 34, .inl g))] sz)) 0 0 (va_A [(bv, .inl (y 0, 34, .inl g))] sz) := by
  refine Met.ofW (cc := cJ0_getBytes_840e7) (maxL := 4) (ret := none) (by decide) rfl ?_
  intro p e s m args below meth c s₁ B hml hv
  obtain ⟨rfl, hsz, hP, hK, hD0, hN, hE, hO, hT, hG⟩ := hv
  have hx := B.exec
  have hb := B.bytes
  have hr := B.returns
  have hts := atoms_spec (ws := wz_c_getBytes_7_9_34) B.pre
  have hown : s.vm.findClass RJ0 = some m.cls := findClass_of_methodNamed B.named
  have hlocks := B.notSynchronized
  subst hsz
  have hD := hD0.self (sz := s.heap.size)
  generalize hAe : va_A [(bv, .inl (y 0, 34, .inl g))] s.heap.size = A at hD hE hT hG ⊢
  have hA : ∀ q : Nat, s.heap.size ≤ q → A q := fun q h => by rw [← hAe]; exact Or.inr h
  have hS : va_S A s.heap s.heap [] := va_S.rf
  have hl := lv_entry ([.ref sx, .ref bv, .int 9, .int 0]) (n := 4) (Nat.le_of_ble_eq_true rfl)
  rw [lg_entry_eq]
  generalize (lg_sl ([.ref sx, .ref bv, .int 9, .int 0]) ++ List.replicate (4 - (lg_sl ([.ref sx, .ref bv, .int 9, .int 0])).length) Slot.unset).toArray = ls at hl ⊢
  have hl : lv_has ls 4 [(0, .ref sx), (1, .ref bv), (2, .int 9), (3, .int 0)] := hl
  refine lv_aload_n hx hb dJ0_getBytes_840e7_0 rfl (lv_at hl 0 rfl) ?_
  have hPc := hP.sub (ws' := []) [] rfl
  have hDc := hD.sub (ws' := []) [] (by decide) rfl
  have hFc := va_free (wc := []) hD hS hA [] rfl
  refine va_calli (va_runV (As := []) (rest := []) ⟨hx, hb, hml, hown, hts⟩ (c_coder_o l D y s.heap.size sx tx 11 zs7) (cwV 0 hts gv_c_getBytes_7_9_34_c_coder_o_335 rfl rfl rfl (by decide +kernel) ⟨(Nat.le_of_ble_eq_true rfl), (Nat.le_of_ble_eq_true rfl)⟩) (zB.preV hPc hDc hK hN hE hO hT hG hS hFc (fun _ h => nomatch h) (List.forall_mem_cons.mpr ⟨List.mem_of_getElem? (i := 0) rfl, (fun _ h => nomatch h)⟩) (fun _ h => nomatch h) (List.forall_mem_cons.mpr ⟨List.mem_of_getElem? (i := 0) rfl, (fun _ h => nomatch h)⟩) (zStr.recv (show zStr sx tx 11 zs7 A s s.heap from (hG (.inr (.inl (sx, tx, 11, zs7))) (List.mem_of_getElem? (i := 0) rfl))) hS)) rfl rfl hl.1 rfl (lv_room (Nat.le_of_ble_eq_true rfl)) dJ0_getBytes_840e7_1 ⟨(Nat.le_of_ble_eq_true rfl), (Nat.le_of_ble_eq_true rfl)⟩) hS (fun q _ h => hFc q h) hFc (fun r1 u t H1 locs ht hvm hw hB hz1 hk1 hS => ?_)
  obtain ⟨hP1, hD1⟩ := hB
  rw [ht] at hP1
  obtain ⟨hP, hD⟩ := va_join (wr := [(bv, .inl (y 0, 34, .inl g))]) (w1 := []) hP hD [] [0] rfl rfl (by decide) (by decide) hk1 hFc hP1 hD1
  generalize H1 = H at hP hS ⊢
  have hP : va_P D vwCl [(bv, .inl (y 0, 34, .inl g))] H := hP
  have hD : va_D A [(bv, .inl (y 0, 34, .inl g))] := hD
  have hw : r1 = 0 := hw
  subst hw
  refine lv_iload_n hx hb dJ0_getBytes_840e7_4 rfl (lv_at hl 3 rfl) ?_
  refine lv_icmp_ne (tgt := 28) hx hb dJ0_getBytes_840e7_5 (by decide) (fun c9 => absurd (by decide) c9) (fun _ => ?_)
  refine lv_aload_n hx hb dJ0_getBytes_840e7_8 rfl (lv_at hl 0 rfl) ?_
  refine vk_getf hx hb (show zStr sx tx 11 zs7 A s s.heap from (hG (.inr (.inl (sx, tx, 11, zs7))) (List.mem_of_getElem? (i := 0) rfl))).2.2.1 hS hown (hts (.fieldLink RJ0 9 "java/lang/String" "value" "[B") (by decide +kernel)) (fun _ h9 => h9) dJ0_getBytes_840e7_9 ?_
  refine lv_iconst (v := 0) hx hb dJ0_getBytes_840e7_12 (by decide) ?_
  refine lv_aload_n hx hb dJ0_getBytes_840e7_13 rfl (lv_at hl 1 rfl) ?_
  refine lv_iload_n hx hb dJ0_getBytes_840e7_14 rfl (lv_at hl 2 rfl) ?_
  refine lv_iload_n hx hb dJ0_getBytes_840e7_15 rfl (lv_at hl 3 rfl) ?_
  refine lv_ishl hx hb dJ0_getBytes_840e7_16 ?_
  refine lv_topi (fun v2 ev2 => ?_)
  have ev2 : v2 = 9 := ev2.trans (by decide +kernel)
  subst ev2
  refine lv_aload_n hx hb dJ0_getBytes_840e7_17 rfl (lv_at hl 0 rfl) ?_
  refine vk_getf hx hb (show zStr sx tx 11 zs7 A s s.heap from (hG (.inr (.inl (sx, tx, 11, zs7))) (List.mem_of_getElem? (i := 0) rfl))).2.2.1 hS hown (hts (.fieldLink RJ0 9 "java/lang/String" "value" "[B") (by decide +kernel)) (fun _ h9 => h9) dJ0_getBytes_840e7_18 ?_
  refine va_tlen (v := 11) hx hb (show zStr sx tx 11 zs7 A s s.heap from (hG (.inr (.inl (sx, tx, 11, zs7))) (List.mem_of_getElem? (i := 0) rfl))).2.2.2 hS (by decide) dJ0_getBytes_840e7_21 ?_
  refine vk_copyt (sp := 0) (dp := 9) (n := 11) (f := zs7) hx hb (hml.trans hl.1.symm) hown (hts (.methodLink RJ0 212 arraycopyName) (by decide +kernel)) (hts (.native arraycopyName) (by decide +kernel)) (hts (.static arraycopyName) (by decide +kernel)) (hts (.initialized "java/lang/System") (by decide +kernel)) hK hP hD hS (show zStr sx tx 11 zs7 A s s.heap from (hG (.inr (.inl (sx, tx, 11, zs7))) (List.mem_of_getElem? (i := 0) rfl))).2.2.2 0 0 rfl rfl (by decide +kernel) (by decide +kernel) (by decide +kernel) (by decide +kernel) (by decide +kernel) (by decide +kernel) (Nat.le_of_ble_eq_true rfl) (Nat.le_of_ble_eq_true rfl) dJ0_getBytes_840e7_22 (fun H locs hP hD hS => ?_)
  have hP : va_P D vwCl [(bv, .inl (y 0, 34, .inl (va_cpy zs7 g (0 : Int32).toNatClampNeg (9 : Int32).toNatClampNeg (11 : Int32).toNatClampNeg)))] H := hP
  have hD : va_D A [(bv, .inl (y 0, 34, .inl (va_cpy zs7 g (0 : Int32).toNatClampNeg (9 : Int32).toNatClampNeg (11 : Int32).toNatClampNeg)))] := hD
  refine lv_goto (tgt := 43) hx hb dJ0_getBytes_840e7_25 (by decide) ?_
  have hP9 := hP.sub (ws' := [(bv, .inl (y 0, 34, .inl (va_cpy zs7 g (0 : Int32).toNatClampNeg (9 : Int32).toNatClampNeg (11 : Int32).toNatClampNeg)))]) [0] rfl
  have hD9 := hD.sub (ws' := [(bv, .inl (y 0, 34, .inl (va_cpy zs7 g (0 : Int32).toNatClampNeg (9 : Int32).toNatClampNeg (11 : Int32).toNatClampNeg)))]) [0] (by decide) rfl
  refine W.widen (k := 0) (n := 0) (Nat.le_of_ble_eq_true rfl) (Nat.le_of_ble_eq_true rfl) ?_
  exact W.vret hx hb hr (fun t ht hW => ⟨⟨(), rfl, trivial, by rw [ht]; exact hP9, hD9⟩, hS.F ht⟩) hS.2.2 dJ0_getBytes_840e7_43
def wz_c_putStr_7_9_34 : List Cond := .code yJ5_putStringAt_47b60 cJ5_putStringAt_47b60 3 none :: ([.methodLink RJ5 397 ⟨"java/lang/AbstractStringBuilder", "inflateIfNeededFor", "(Ljava/lang/String;)V"⟩, .sameMethod "java/lang/AbstractStringBuilder" "java/lang/AbstractStringBuilder" "inflateIfNeededFor" "(Ljava/lang/String;)V", .selects RJ4 ⟨"java/lang/AbstractStringBuilder", "inflateIfNeededFor", "(Ljava/lang/String;)V"⟩ yJ5_inflateIfNeededFor_a7421, .instanceMethod yJ5_inflateIfNeededFor_a7421, .initialized RJ5, .fieldLink RJ5 15 "java/lang/AbstractStringBuilder" "value" "[B", .fieldLink RJ5 22 "java/lang/AbstractStringBuilder" "coder" "B", .methodLink RJ5 399 yJ0_getBytes_840e7, .instanceMethod yJ0_getBytes_840e7, .selects RJ0 yJ0_getBytes_840e7 yJ0_getBytes_840e7, .initialized RJ0] ++ (wsJ40 ++ (wz_c_inflIf ++ (wz_c_getBytes_7_9_34 ++ ([])))))
set_option maxRecDepth 100000 in
theorem gz_c_putStr_7_9_34_c_inflIf : GoodIn wz_c_putStr_7_9_34 wz_c_inflIf := goodIn_sub (fun w h => List.mem_cons_of_mem _ (List.mem_append_right _ (List.mem_append_right _ (List.mem_append_left _ h)))) (by decide +kernel)
set_option maxRecDepth 100000 in
theorem gz_c_putStr_7_9_34_c_getBytes_7_9_34 : GoodIn wz_c_putStr_7_9_34 wz_c_getBytes_7_9_34 := goodIn_sub (fun w h => List.mem_cons_of_mem _ (List.mem_append_right _ (List.mem_append_right _ (List.mem_append_right _ (List.mem_append_left _ h))))) (by decide +kernel)
set_option maxRecDepth 100000 in
theorem gv_c_putStr_7_9_34_c_inflIf_397 : GoodIn wz_c_putStr_7_9_34 (va_wsU RJ5 397 RJ4 "java/lang/AbstractStringBuilder" ⟨"java/lang/AbstractStringBuilder", "inflateIfNeededFor", "(Ljava/lang/String;)V"⟩ yJ5_inflateIfNeededFor_a7421 wz_c_inflIf) := goodIn_app (goodIn_of _ (by decide +kernel)) gz_c_putStr_7_9_34_c_inflIf
set_option maxRecDepth 100000 in
theorem gv_c_putStr_7_9_34_c_getBytes_7_9_34_399 : GoodIn wz_c_putStr_7_9_34 (wsV RJ5 399 RJ0 yJ0_getBytes_840e7 wz_c_getBytes_7_9_34) := goodIn_app (goodIn_of _ (by decide +kernel)) gz_c_putStr_7_9_34_c_getBytes_7_9_34
set_option maxHeartbeats 4000000 in
set_option maxRecDepth 100000 in
theorem c_putStr_7_9_34 (l : Launch) (D : va_G) (y : Nat → ClassId) (sz : Nat) (h0 : Nat) (bv : Nat) (w1 : Value) (w2 : Value) (sx : Nat) (tx : Nat) (g : Nat → Int32) : Met l yJ5_putStringAt_47b60 wz_c_putStr_7_9_34 ({ frames := 2, cells := 0, slots := 0, locals := 83 }) (va_Pc [.ref h0, .int 9, .ref sx] (zB D y [(h0, .inr (1, [.ref bv, .int 0, w1, w2])), (bv, .inl (y 0, 34, .inl g))] sz [] [("java/lang/String", "COMPACT_STRINGS", "Z", .int 1)] [] [.inr (.inl (sx, tx, 11, zs7))])) (va_Qv (fun _ : Unit => True) (fun _ t => va_P D vwCl [(h0, .inr (1, [.ref bv, .int 0, w1, w2])), (bv, .inl (y 0, 34, .inl (va_cpy zs7 g (0 : Int32).toNatClampNeg (9 : Int32).toNatClampNeg (11 : Int32).toNatClampNeg)))] t.heap ∧ va_D (va_A [(h0, .inr (1, [.ref bv, .int 0, w1, w2])), (bv, .inl (y 0, 34, .inl g))] sz) [(h0, .inr (1, [.ref bv, .int 0, w1, w2])), (bv, .inl (y 0, 34, .inl (va_cpy zs7 g (0 : Int32).toNatClampNeg (9 : Int32).toNatClampNeg (11 : Int32).toNatClampNeg)))]) (va_A [(h0, .inr (1, [.ref bv, .int 0, w1, w2])), (bv, .inl (y 0, 34, .inl g))] sz)) 0 0 (va_A [(h0, .inr (1, [.ref bv, .int 0, w1, w2])), (bv, .inl (y 0, 34, .inl g))] sz) := by
  refine Met.ofW (cc := cJ5_putStringAt_47b60) (maxL := 3) (ret := none) (by decide) rfl ?_
  intro p e s m args below meth c s₁ B hml hv
  obtain ⟨rfl, hsz, hP, hK, hD0, hN, hE, hO, hT, hG⟩ := hv
  have hx := B.exec
  have hb := B.bytes
  have hr := B.returns
  have hts := atoms_spec (ws := wz_c_putStr_7_9_34) B.pre
  have hown : s.vm.findClass RJ5 = some m.cls := findClass_of_methodNamed B.named
  have hlocks := B.notSynchronized
  subst hsz
  have hD := hD0.self (sz := s.heap.size)
  generalize hAe : va_A [(h0, .inr (1, [.ref bv, .int 0, w1, w2])), (bv, .inl (y 0, 34, .inl g))] s.heap.size = A at hD hE hT hG ⊢
  have hA : ∀ q : Nat, s.heap.size ≤ q → A q := fun q h => by rw [← hAe]; exact Or.inr h
  have hS : va_S A s.heap s.heap [] := va_S.rf
  have hl := lv_entry ([.ref h0, .int 9, .ref sx]) (n := 3) (Nat.le_of_ble_eq_true rfl)
  rw [lg_entry_eq]
  generalize (lg_sl ([.ref h0, .int 9, .ref sx]) ++ List.replicate (3 - (lg_sl ([.ref h0, .int 9, .ref sx])).length) Slot.unset).toArray = ls at hl ⊢
  have hl : lv_has ls 3 [(0, .ref h0), (1, .int 9), (2, .ref sx)] := hl
  refine lv_aload_n hx hb dJ5_putStringAt_47b60_0 rfl (lv_at hl 0 rfl) ?_
  refine lv_aload_n hx hb dJ5_putStringAt_47b60_1 rfl (lv_at hl 2 rfl) ?_
  have hPc := hP.sub (ws' := [(h0, .inr (1, [.ref bv, .int 0, w1, w2]))]) [0] rfl
  have hDc := hD.sub (ws' := [(h0, .inr (1, [.ref bv, .int 0, w1, w2]))]) [0] (by decide) rfl
  have hFc := va_free (wc := [(h0, .inr (1, [.ref bv, .int 0, w1, w2]))]) hD hS hA [0] rfl
  refine va_callv (va_runU (As := [.ref sx]) (rest := []) ⟨hx, hb, hml, hown, hts⟩ (c_inflIf l D y s.heap.size h0 ((.ref bv)) w1 w2 sx tx 11 zs7) (va_cwU 1 hts gv_c_putStr_7_9_34_c_inflIf_397 rfl rfl rfl rfl (by decide +kernel) ⟨(Nat.le_of_ble_eq_true rfl), (Nat.le_of_ble_eq_true rfl)⟩) (zB.preV hPc hDc hK hN hE hO hT hG hS hFc (fun _ h => nomatch h) (List.forall_mem_cons.mpr ⟨List.mem_of_getElem? (i := 0) rfl, (fun _ h => nomatch h)⟩) (fun _ h => nomatch h) (List.forall_mem_cons.mpr ⟨List.mem_of_getElem? (i := 0) rfl, (fun _ h => nomatch h)⟩) (va_recv hK hPc (ci := 1) (q0 := 0) rfl rfl)) rfl rfl hl.1 rfl (lv_room (Nat.le_of_ble_eq_true rfl)) dJ5_putStringAt_47b60_2 ⟨(Nat.le_of_ble_eq_true rfl), (Nat.le_of_ble_eq_true rfl)⟩) hS (fun q _ h => hFc q h) hFc (fun u t H1 locs ht hvm hw hB hz1 hk1 hS => ?_)
  obtain ⟨hP1, hD1⟩ := hB
  rw [ht] at hP1
  obtain ⟨hP, hD⟩ := va_join (wr := [(bv, .inl (y 0, 34, .inl g))]) (w1 := [(h0, .inr (1, [.ref bv, .int 0, w1, w2]))]) hP hD [0] [1] rfl rfl (by decide) (by decide) hk1 hFc hP1 hD1
  generalize H1 = H at hP hS ⊢
  have hP : va_P D vwCl [(bv, .inl (y 0, 34, .inl g)), (h0, .inr (1, [.ref bv, .int 0, w1, w2]))] H := hP
  have hD : va_D A [(bv, .inl (y 0, 34, .inl g)), (h0, .inr (1, [.ref bv, .int 0, w1, w2]))] := hD
  refine lv_aload_n hx hb dJ5_putStringAt_47b60_5 rfl (lv_at hl 2 rfl) ?_
  refine lv_aload_n hx hb dJ5_putStringAt_47b60_6 rfl (lv_at hl 0 rfl) ?_
  refine va_get (D := D) (ci := 1) (v := .ref bv) (C := RJ4) (T := TJ4) (N := 4) hx hb hts (by decide +kernel) hown hK hP 1 rfl rfl 0 (by decide) (hts (.fieldLink RJ5 15 "java/lang/AbstractStringBuilder" "value" "[B") (by decide +kernel)) (fun _ h9 => h9) rfl dJ5_putStringAt_47b60_7 ?_
  refine lv_iload_n hx hb dJ5_putStringAt_47b60_10 rfl (lv_at hl 1 rfl) ?_
  refine lv_aload_n hx hb dJ5_putStringAt_47b60_11 rfl (lv_at hl 0 rfl) ?_
  refine va_get (D := D) (ci := 1) (v := .int 0) (C := RJ4) (T := TJ4) (N := 4) hx hb hts (by decide +kernel) hown hK hP 1 rfl rfl 1 (by decide) (hts (.fieldLink RJ5 22 "java/lang/AbstractStringBuilder" "coder" "B") (by decide +kernel)) (fun _ h9 => h9) rfl dJ5_putStringAt_47b60_12 ?_
  have hPc := hP.sub (ws' := [(bv, .inl (y 0, 34, .inl g))]) [0] rfl
  have hDc := hD.sub (ws' := [(bv, .inl (y 0, 34, .inl g))]) [0] (by decide) rfl
  have hFc := va_free (wc := [(bv, .inl (y 0, 34, .inl g))]) hD hS hA [0] rfl
  refine va_callv (va_runV (As := [.ref bv, .int 9, .int 0]) (rest := []) ⟨hx, hb, hml, hown, hts⟩ (c_getBytes_7_9_34 l D y H.size bv sx tx g) (cwV 3 hts gv_c_putStr_7_9_34_c_getBytes_7_9_34_399 rfl rfl rfl (by decide +kernel) ⟨(Nat.le_of_ble_eq_true rfl), (Nat.le_of_ble_eq_true rfl)⟩) (zB.preV hPc hDc hK hN hE hO hT hG hS hFc (fun _ h => nomatch h) (List.forall_mem_cons.mpr ⟨List.mem_of_getElem? (i := 0) rfl, (fun _ h => nomatch h)⟩) (fun _ h => nomatch h) (List.forall_mem_cons.mpr ⟨List.mem_of_getElem? (i := 0) rfl, (fun _ h => nomatch h)⟩) (zStr.recv (show zStr sx tx 11 zs7 A s s.heap from (hG (.inr (.inl (sx, tx, 11, zs7))) (List.mem_of_getElem? (i := 0) rfl))) hS)) rfl rfl hl.1 rfl (lv_room (Nat.le_of_ble_eq_true rfl)) dJ5_putStringAt_47b60_15 ⟨(Nat.le_of_ble_eq_true rfl), (Nat.le_of_ble_eq_true rfl)⟩) hS (fun q _ h => hFc q h) hFc (fun u t H1 locs ht hvm hw hB hz1 hk1 hS => ?_)
  obtain ⟨hP1, hD1⟩ := hB
  rw [ht] at hP1
  obtain ⟨hP, hD⟩ := va_join (wr := [(h0, .inr (1, [.ref bv, .int 0, w1, w2]))]) (w1 := [(bv, .inl (y 0, 34, .inl (va_cpy zs7 g (0 : Int32).toNatClampNeg (9 : Int32).toNatClampNeg (11 : Int32).toNatClampNeg)))]) hP hD [0] [1] rfl rfl (by decide) (by decide) hk1 hFc hP1 hD1
  generalize H1 = H at hP hS ⊢
  have hP : va_P D vwCl [(h0, .inr (1, [.ref bv, .int 0, w1, w2])), (bv, .inl (y 0, 34, .inl (va_cpy zs7 g (0 : Int32).toNatClampNeg (9 : Int32).toNatClampNeg (11 : Int32).toNatClampNeg)))] H := hP
  have hD : va_D A [(h0, .inr (1, [.ref bv, .int 0, w1, w2])), (bv, .inl (y 0, 34, .inl (va_cpy zs7 g (0 : Int32).toNatClampNeg (9 : Int32).toNatClampNeg (11 : Int32).toNatClampNeg)))] := hD
  have hP9 := hP.sub (ws' := [(h0, .inr (1, [.ref bv, .int 0, w1, w2])), (bv, .inl (y 0, 34, .inl (va_cpy zs7 g (0 : Int32).toNatClampNeg (9 : Int32).toNatClampNeg (11 : Int32).toNatClampNeg)))]) [0, 1] rfl
  have hD9 := hD.sub (ws' := [(h0, .inr (1, [.ref bv, .int 0, w1, w2])), (bv, .inl (y 0, 34, .inl (va_cpy zs7 g (0 : Int32).toNatClampNeg (9 : Int32).toNatClampNeg (11 : Int32).toNatClampNeg)))]) [0, 1] (by decide) rfl
  refine W.widen (k := 0) (n := 0) (Nat.le_of_ble_eq_true rfl) (Nat.le_of_ble_eq_true rfl) ?_
  exact W.vret hx hb hr (fun t ht hW => ⟨⟨(), rfl, trivial, by rw [ht]; exact hP9, hD9⟩, hS.F ht⟩) hS.2.2 dJ5_putStringAt_47b60_18
def zk7 : Nat → Int32 := va_cpy zs7 zk6 (0 : Int32).toNatClampNeg (9 : Int32).toNatClampNeg (11 : Int32).toNatClampNeg
def wz_c_ASBapp_e0 : List Cond := .code yJ5_append_cf1ce cJ5_append_cf1ce 3 (some (.object "java/lang/AbstractStringBuilder")) :: ([.methodLink RJ5 32 yJ0_length_8abf5, .instanceMethod yJ0_length_8abf5, .selects RJ0 yJ0_length_8abf5 yJ0_length_8abf5, .initialized RJ0, .fieldLink RJ5 79 "java/lang/AbstractStringBuilder" "count" "I", .methodLink RJ5 100 ⟨"java/lang/AbstractStringBuilder", "ensureCapacityInternal", "(I)V"⟩, .sameMethod "java/lang/AbstractStringBuilder" "java/lang/AbstractStringBuilder" "ensureCapacityInternal" "(I)V", .selects RJ4 ⟨"java/lang/AbstractStringBuilder", "ensureCapacityInternal", "(I)V"⟩ yJ5_ensureCapacityInternal_d00df, .instanceMethod yJ5_ensureCapacityInternal_d00df, .initialized RJ5, .methodLink RJ5 208 ⟨"java/lang/AbstractStringBuilder", "putStringAt", "(ILjava/lang/String;)V"⟩, .sameMethod "java/lang/AbstractStringBuilder" "java/lang/AbstractStringBuilder" "putStringAt" "(ILjava/lang/String;)V", .selects RJ4 ⟨"java/lang/AbstractStringBuilder", "putStringAt", "(ILjava/lang/String;)V"⟩ yJ5_putStringAt_47b60, .instanceMethod yJ5_putStringAt_47b60] ++ (wsJ40 ++ (wz_c_len_o_11 ++ (wz_c_ens_e0 ++ (wz_c_putStr_7_9_34 ++ ([]))))))
set_option maxRecDepth 100000 in
theorem gz_c_ASBapp_e0_c_len_o_11 : GoodIn wz_c_ASBapp_e0 wz_c_len_o_11 := goodIn_sub (fun w h => List.mem_cons_of_mem _ (List.mem_append_right _ (List.mem_append_right _ (List.mem_append_left _ h)))) (by decide +kernel)
set_option maxRecDepth 100000 in
theorem gz_c_ASBapp_e0_c_ens_e0 : GoodIn wz_c_ASBapp_e0 wz_c_ens_e0 := goodIn_sub (fun w h => List.mem_cons_of_mem _ (List.mem_append_right _ (List.mem_append_right _ (List.mem_append_right _ (List.mem_append_left _ h))))) (by decide +kernel)
set_option maxRecDepth 100000 in
theorem gz_c_ASBapp_e0_c_putStr_7_9_34 : GoodIn wz_c_ASBapp_e0 wz_c_putStr_7_9_34 := goodIn_sub (fun w h => List.mem_cons_of_mem _ (List.mem_append_right _ (List.mem_append_right _ (List.mem_append_right _ (List.mem_append_right _ (List.mem_append_left _ h)))))) (by decide +kernel)
set_option maxRecDepth 100000 in
theorem gv_c_ASBapp_e0_c_len_o_11_32 : GoodIn wz_c_ASBapp_e0 (wsV RJ5 32 RJ0 yJ0_length_8abf5 wz_c_len_o_11) := goodIn_app (goodIn_of _ (by decide +kernel)) gz_c_ASBapp_e0_c_len_o_11
set_option maxRecDepth 100000 in
theorem gv_c_ASBapp_e0_c_ens_e0_100 : GoodIn wz_c_ASBapp_e0 (va_wsU RJ5 100 RJ4 "java/lang/AbstractStringBuilder" ⟨"java/lang/AbstractStringBuilder", "ensureCapacityInternal", "(I)V"⟩ yJ5_ensureCapacityInternal_d00df wz_c_ens_e0) := goodIn_app (goodIn_of _ (by decide +kernel)) gz_c_ASBapp_e0_c_ens_e0
set_option maxRecDepth 100000 in
theorem gv_c_ASBapp_e0_c_putStr_7_9_34_208 : GoodIn wz_c_ASBapp_e0 (va_wsU RJ5 208 RJ4 "java/lang/AbstractStringBuilder" ⟨"java/lang/AbstractStringBuilder", "putStringAt", "(ILjava/lang/String;)V"⟩ yJ5_putStringAt_47b60 wz_c_putStr_7_9_34) := goodIn_app (goodIn_of _ (by decide +kernel)) gz_c_ASBapp_e0_c_putStr_7_9_34
set_option maxHeartbeats 4000000 in
set_option maxRecDepth 100000 in
theorem c_ASBapp_e0 (l : Launch) (D : va_G) (y : Nat → ClassId) (sz : Nat) (h0 : Nat) (bv : Nat) (w1 : Value) (sx : Nat) (tx : Nat) : Met l yJ5_append_cf1ce wz_c_ASBapp_e0 ({ frames := 4, cells := 1, slots := 34, locals := 105 }) (va_Pc [.ref h0, .ref sx] (zB D y [(h0, .inr (1, [.ref bv, .int 0, w1, .int 9])), (bv, .inl (y 0, 16, .inl zk5))] sz [] [("java/lang/String", "COMPACT_STRINGS", "Z", .int 1)] [] [.inr (.inl (sx, tx, 11, zs7))])) (va_Qq (fun (r : Option Nat) (_ : Unit) => r = some h0) (fun _ t => ∃ q3 : Nat, va_P D vwCl [(h0, .inr (1, [.ref q3, .int 0, w1, .int 20])), (bv, .inl (y 0, 16, .inl zk5)), (q3, .inl (y 0, 34, .inl zk7))] t.heap ∧ va_D (va_A [(h0, .inr (1, [.ref bv, .int 0, w1, .int 9])), (bv, .inl (y 0, 16, .inl zk5))] sz) [(h0, .inr (1, [.ref q3, .int 0, w1, .int 20])), (bv, .inl (y 0, 16, .inl zk5)), (q3, .inl (y 0, 34, .inl zk7))]) (va_A [(h0, .inr (1, [.ref bv, .int 0, w1, .int 9])), (bv, .inl (y 0, 16, .inl zk5))] sz)) 1 34 (va_A [(h0, .inr (1, [.ref bv, .int 0, w1, .int 9])), (bv, .inl (y 0, 16, .inl zk5))] sz) := by
  refine Met.ofW (cc := cJ5_append_cf1ce) (maxL := 3) (ret := (some (.object "java/lang/AbstractStringBuilder"))) (by decide) rfl ?_
  intro p e s m args below meth c s₁ B hml hv
  obtain ⟨rfl, hsz, hP, hK, hD0, hN, hE, hO, hT, hG⟩ := hv
  have hx := B.exec
  have hb := B.bytes
  have hr := B.returns
  have hts := atoms_spec (ws := wz_c_ASBapp_e0) B.pre
  have hown : s.vm.findClass RJ5 = some m.cls := findClass_of_methodNamed B.named
  have hlocks := B.notSynchronized
  subst hsz
  have hD := hD0.self (sz := s.heap.size)
  generalize hAe : va_A [(h0, .inr (1, [.ref bv, .int 0, w1, .int 9])), (bv, .inl (y 0, 16, .inl zk5))] s.heap.size = A at hD hE hT hG ⊢
  have hA : ∀ q : Nat, s.heap.size ≤ q → A q := fun q h => by rw [← hAe]; exact Or.inr h
  have hS : va_S A s.heap s.heap [] := va_S.rf
  have hl := lv_entry ([.ref h0, .ref sx]) (n := 3) (Nat.le_of_ble_eq_true rfl)
  rw [lg_entry_eq]
  generalize (lg_sl ([.ref h0, .ref sx]) ++ List.replicate (3 - (lg_sl ([.ref h0, .ref sx])).length) Slot.unset).toArray = ls at hl ⊢
  have hl : lv_has ls 3 [(0, .ref h0), (1, .ref sx)] := hl
  refine lv_aload_n hx hb dJ5_append_cf1ce_0 rfl (lv_at hl 1 rfl) ?_
  refine lv_ifnonnull (tgt := 9) hx hb dJ5_append_cf1ce_1 (by decide) ?_
  refine lv_aload_n hx hb dJ5_append_cf1ce_9 rfl (lv_at hl 1 rfl) ?_
  have hPc := hP.sub (ws' := []) [] rfl
  have hDc := hD.sub (ws' := []) [] (by decide) rfl
  have hFc := va_free (wc := []) hD hS hA [] rfl
  refine va_calli (va_runV (As := []) (rest := []) ⟨hx, hb, hml, hown, hts⟩ (c_len_o_11 l D y s.heap.size sx tx zs7) (cwV 0 hts gv_c_ASBapp_e0_c_len_o_11_32 rfl rfl rfl (by decide +kernel) ⟨(Nat.le_of_ble_eq_true rfl), (Nat.le_of_ble_eq_true rfl)⟩) (zB.preV hPc hDc hK hN hE hO hT hG hS hFc (fun _ h => nomatch h) (List.forall_mem_cons.mpr ⟨List.mem_of_getElem? (i := 0) rfl, (fun _ h => nomatch h)⟩) (fun _ h => nomatch h) (List.forall_mem_cons.mpr ⟨List.mem_of_getElem? (i := 0) rfl, (fun _ h => nomatch h)⟩) (zStr.recv (show zStr sx tx 11 zs7 A s s.heap from (hG (.inr (.inl (sx, tx, 11, zs7))) (List.mem_of_getElem? (i := 0) rfl))) hS)) rfl rfl hl.1 rfl (lv_room (Nat.le_of_ble_eq_true rfl)) dJ5_append_cf1ce_10 ⟨(Nat.le_of_ble_eq_true rfl), (Nat.le_of_ble_eq_true rfl)⟩) hS (fun q _ h => hFc q h) hFc (fun r1 u t H1 locs ht hvm hw hB hz1 hk1 hS => ?_)
  obtain ⟨hP1, hD1⟩ := hB
  rw [ht] at hP1
  obtain ⟨hP, hD⟩ := va_join (wr := [(h0, .inr (1, [.ref bv, .int 0, w1, .int 9])), (bv, .inl (y 0, 16, .inl zk5))]) (w1 := []) hP hD [] [0, 1] rfl rfl (by decide) (by decide) hk1 hFc hP1 hD1
  generalize H1 = H at hP hS ⊢
  have hP : va_P D vwCl [(h0, .inr (1, [.ref bv, .int 0, w1, .int 9])), (bv, .inl (y 0, 16, .inl zk5))] H := hP
  have hD : va_D A [(h0, .inr (1, [.ref bv, .int 0, w1, .int 9])), (bv, .inl (y 0, 16, .inl zk5))] := hD
  have hw : r1 = 11 := hw
  subst hw
  refine lv_istore_n (lv' := [(2, .int 11), (0, .ref h0), (1, .ref sx)]) hx hb dJ5_append_cf1ce_13 rfl hl (by decide) rfl (fun ls hl => ?_)
  refine lv_aload_n hx hb dJ5_append_cf1ce_14 rfl (lv_at hl 1 rfl) ?_
  refine lv_aload_n hx hb dJ5_append_cf1ce_15 rfl (lv_at hl 1 rfl) ?_
  refine va_get (D := D) (ci := 1) (v := .int 9) (C := RJ4) (T := TJ4) (N := 4) hx hb hts (by decide +kernel) hown hK hP 0 rfl rfl 3 (by decide) (hts (.fieldLink RJ5 79 "java/lang/AbstractStringBuilder" "count" "I") (by decide +kernel)) (fun _ h9 => h9) rfl dJ5_append_cf1ce_16 ?_
  refine lv_iload_n hx hb dJ5_append_cf1ce_19 rfl (lv_at hl 0 rfl) ?_
  refine lv_iadd hx hb dJ5_append_cf1ce_20 ?_
  refine lv_topi (fun v2 ev2 => ?_)
  have ev2 : v2 = 20 := ev2.trans (by decide +kernel)
  subst ev2
  have hPc := hP.sub (ws' := [(h0, .inr (1, [.ref bv, .int 0, w1, .int 9])), (bv, .inl (y 0, 16, .inl zk5))]) [0, 1] rfl
  have hDc := hD.sub (ws' := [(h0, .inr (1, [.ref bv, .int 0, w1, .int 9])), (bv, .inl (y 0, 16, .inl zk5))]) [0, 1] (by decide) rfl
  have hFc := va_free (wc := [(h0, .inr (1, [.ref bv, .int 0, w1, .int 9])), (bv, .inl (y 0, 16, .inl zk5))]) hD hS hA [0, 1] rfl
  refine va_callv (va_runU (As := [.int 20]) (rest := []) ⟨hx, hb, hml, hown, hts⟩ (c_ens_e0 l D y H.size h0 bv w1 ((.int 9))) (va_cwU 1 hts gv_c_ASBapp_e0_c_ens_e0_100 rfl rfl rfl rfl (by decide +kernel) ⟨(Nat.le_of_ble_eq_true rfl), (Nat.le_of_ble_eq_true rfl)⟩) (zB.preV hPc hDc hK hN hE hO hT hG hS hFc (fun _ h => nomatch h) (fun _ h => nomatch h) (fun _ h => nomatch h) (fun _ h => nomatch h) (va_recv hK hPc (ci := 1) (q0 := 0) rfl rfl)) rfl rfl hl.1 rfl (lv_room (Nat.le_of_ble_eq_true rfl)) dJ5_append_cf1ce_21 ⟨(Nat.le_of_ble_eq_true rfl), (Nat.le_of_ble_eq_true rfl)⟩) hS (fun q _ h => hFc q h) hFc (fun u t H1 locs ht hvm hw hB hz1 hk1 hS => ?_)
  obtain ⟨q3, hP1, hD1⟩ := hB
  rw [ht] at hP1
  obtain ⟨hP, hD⟩ := va_join (wr := []) (w1 := [(h0, .inr (1, [.ref q3, .int 0, w1, .int 9])), (bv, .inl (y 0, 16, .inl zk5)), (q3, .inl (y 0, 34, .inl zk6))]) hP hD [0, 1] [] rfl rfl (by decide) (by decide) hk1 hFc hP1 hD1
  generalize H1 = H at hP hS ⊢
  have hP : va_P D vwCl [(h0, .inr (1, [.ref q3, .int 0, w1, .int 9])), (bv, .inl (y 0, 16, .inl zk5)), (q3, .inl (y 0, 34, .inl zk6))] H := hP
  have hD : va_D A [(h0, .inr (1, [.ref q3, .int 0, w1, .int 9])), (bv, .inl (y 0, 16, .inl zk5)), (q3, .inl (y 0, 34, .inl zk6))] := hD
  refine lv_aload_n hx hb dJ5_append_cf1ce_24 rfl (lv_at hl 1 rfl) ?_
  refine lv_aload_n hx hb dJ5_append_cf1ce_25 rfl (lv_at hl 1 rfl) ?_
  refine va_get (D := D) (ci := 1) (v := .int 9) (C := RJ4) (T := TJ4) (N := 4) hx hb hts (by decide +kernel) hown hK hP 0 rfl rfl 3 (by decide) (hts (.fieldLink RJ5 79 "java/lang/AbstractStringBuilder" "count" "I") (by decide +kernel)) (fun _ h9 => h9) rfl dJ5_append_cf1ce_26 ?_
  refine lv_aload_n hx hb dJ5_append_cf1ce_29 rfl (lv_at hl 2 rfl) ?_
  have hPc := hP.sub (ws' := [(h0, .inr (1, [.ref q3, .int 0, w1, .int 9])), (q3, .inl (y 0, 34, .inl zk6))]) [0, 2] rfl
  have hDc := hD.sub (ws' := [(h0, .inr (1, [.ref q3, .int 0, w1, .int 9])), (q3, .inl (y 0, 34, .inl zk6))]) [0, 2] (by decide) rfl
  have hFc := va_free (wc := [(h0, .inr (1, [.ref q3, .int 0, w1, .int 9])), (q3, .inl (y 0, 34, .inl zk6))]) hD hS hA [0, 2] rfl
  refine va_callv (va_runU (As := [.int 9, .ref sx]) (rest := []) ⟨hx, hb, hml, hown, hts⟩ (c_putStr_7_9_34 l D y H.size h0 q3 w1 ((.int 9)) sx tx zk6) (va_cwU 2 hts gv_c_ASBapp_e0_c_putStr_7_9_34_208 rfl rfl rfl rfl (by decide +kernel) ⟨(Nat.le_of_ble_eq_true rfl), (Nat.le_of_ble_eq_true rfl)⟩) (zB.preV hPc hDc hK hN hE hO hT hG hS hFc (fun _ h => nomatch h) (List.forall_mem_cons.mpr ⟨List.mem_of_getElem? (i := 0) rfl, (fun _ h => nomatch h)⟩) (fun _ h => nomatch h) (List.forall_mem_cons.mpr ⟨List.mem_of_getElem? (i := 0) rfl, (fun _ h => nomatch h)⟩) (va_recv hK hPc (ci := 1) (q0 := 0) rfl rfl)) rfl rfl hl.1 rfl (lv_room (Nat.le_of_ble_eq_true rfl)) dJ5_append_cf1ce_30 ⟨(Nat.le_of_ble_eq_true rfl), (Nat.le_of_ble_eq_true rfl)⟩) hS (fun q _ h => hFc q h) hFc (fun u t H1 locs ht hvm hw hB hz1 hk1 hS => ?_)
  obtain ⟨hP1, hD1⟩ := hB
  rw [ht] at hP1
  obtain ⟨hP, hD⟩ := va_join (wr := [(bv, .inl (y 0, 16, .inl zk5))]) (w1 := [(h0, .inr (1, [.ref q3, .int 0, w1, .int 9])), (q3, .inl (y 0, 34, .inl zk7))]) hP hD [0, 2] [1] rfl rfl (by decide) (by decide) hk1 hFc hP1 hD1
  generalize H1 = H at hP hS ⊢
  have hP : va_P D vwCl [(bv, .inl (y 0, 16, .inl zk5)), (h0, .inr (1, [.ref q3, .int 0, w1, .int 9])), (q3, .inl (y 0, 34, .inl zk7))] H := hP
  have hD : va_D A [(bv, .inl (y 0, 16, .inl zk5)), (h0, .inr (1, [.ref q3, .int 0, w1, .int 9])), (q3, .inl (y 0, 34, .inl zk7))] := hD
  refine lv_aload_n hx hb dJ5_append_cf1ce_33 rfl (lv_at hl 1 rfl) ?_
  refine lv_dup hx hb dJ5_append_cf1ce_34 rfl ?_
  refine va_get (D := D) (ci := 1) (v := .int 9) (C := RJ4) (T := TJ4) (N := 4) hx hb hts (by decide +kernel) hown hK hP 1 rfl rfl 3 (by decide) (hts (.fieldLink RJ5 79 "java/lang/AbstractStringBuilder" "count" "I") (by decide +kernel)) (fun _ h9 => h9) rfl dJ5_append_cf1ce_35 ?_
  refine lv_iload_n hx hb dJ5_append_cf1ce_38 rfl (lv_at hl 0 rfl) ?_
  refine lv_iadd hx hb dJ5_append_cf1ce_39 ?_
  refine lv_topi (fun v4 ev4 => ?_)
  have ev4 : v4 = 20 := ev4.trans (by decide +kernel)
  subst ev4
  refine va_put (D := D) (ci := 1) (v := .int 20) (ty := .int) (C := RJ4) (T := TJ4) (N := 4) hx hb hts (by decide +kernel) tyJ4 tyJ4_ok nmJ4 hown hK hP hD hS 1 rfl rfl 3 (by decide) (hts (.fieldLink RJ5 79 "java/lang/AbstractStringBuilder" "count" "I") (by decide +kernel)) (fun _ h9 => h9) rfl (by decide +kernel) rfl rfl (Nat.le_of_ble_eq_true rfl) dJ5_append_cf1ce_40 (fun H locs hP hD hS => ?_)
  have hP : va_P D vwCl [(bv, .inl (y 0, 16, .inl zk5)), (h0, .inr (1, [.ref q3, .int 0, w1, .int 20])), (q3, .inl (y 0, 34, .inl zk7))] H := hP
  have hD : va_D A [(bv, .inl (y 0, 16, .inl zk5)), (h0, .inr (1, [.ref q3, .int 0, w1, .int 20])), (q3, .inl (y 0, 34, .inl zk7))] := hD
  refine lv_aload_n hx hb dJ5_append_cf1ce_43 rfl (lv_at hl 1 rfl) ?_
  have hP9 := hP.sub (ws' := [(h0, .inr (1, [.ref q3, .int 0, w1, .int 20])), (bv, .inl (y 0, 16, .inl zk5)), (q3, .inl (y 0, 34, .inl zk7))]) [1, 0, 2] rfl
  have hD9 := hD.sub (ws' := [(h0, .inr (1, [.ref q3, .int 0, w1, .int 20])), (bv, .inl (y 0, 16, .inl zk5)), (q3, .inl (y 0, 34, .inl zk7))]) [1, 0, 2] (by decide) rfl
  refine W.widen (k := 1) (n := 34) (Nat.le_of_ble_eq_true rfl) (Nat.le_of_ble_eq_true rfl) ?_
  exact W.aret (v := .ref h0) hx hb hr (Or.inl ⟨_, rfl⟩) (Or.inr ⟨_, rfl⟩) (fun t ht hW => ⟨⟨(some h0), (), rfl, rfl, q3, by rw [ht]; exact hP9, hD9⟩, hS.F ht⟩) hS.2.2 dJ5_append_cf1ce_44
def wz_c_SBapp_e0 : List Cond := .code yJ4_append_15ec4 cJ4_append_15ec4 2 (some (.object "java/lang/StringBuilder")) :: ([.methodLink RJ4 29 yJ5_append_cf1ce, .sameMethod RJ5 RJ5 "append" "(Ljava/lang/String;)Ljava/lang/AbstractStringBuilder;", .superclass RJ4 RJ5, .instanceMethod yJ5_append_cf1ce, .initialized RJ5] ++ (wz_c_ASBapp_e0 ++ ([])))
set_option maxRecDepth 100000 in
theorem gz_c_SBapp_e0_c_ASBapp_e0 : GoodIn wz_c_SBapp_e0 wz_c_ASBapp_e0 := goodIn_sub (fun w h => List.mem_cons_of_mem _ (List.mem_append_right _ (List.mem_append_left _ h))) (by decide +kernel)
set_option maxRecDepth 100000 in
theorem gv_c_SBapp_e0_c_ASBapp_e0_29 : GoodIn wz_c_SBapp_e0 (va_wsSU RJ4 29 yJ5_append_cf1ce wz_c_ASBapp_e0) := goodIn_app (goodIn_of _ (by decide +kernel)) gz_c_SBapp_e0_c_ASBapp_e0
set_option maxHeartbeats 4000000 in
set_option maxRecDepth 100000 in
theorem c_SBapp_e0 (l : Launch) (D : va_G) (y : Nat → ClassId) (sz : Nat) (h0 : Nat) (bv : Nat) (w1 : Value) (sx : Nat) (tx : Nat) : Met l yJ4_append_15ec4 wz_c_SBapp_e0 ({ frames := 5, cells := 1, slots := 34, locals := 127 }) (va_Pc [.ref h0, .ref sx] (zB D y [(h0, .inr (1, [.ref bv, .int 0, w1, .int 9])), (bv, .inl (y 0, 16, .inl zk5))] sz [] [("java/lang/String", "COMPACT_STRINGS", "Z", .int 1)] [] [.inr (.inl (sx, tx, 11, zs7))])) (va_Qq (fun (r : Option Nat) (_ : Unit) => r = some h0) (fun _ t => ∃ q2 : Nat, va_P D vwCl [(h0, .inr (1, [.ref q2, .int 0, w1, .int 20])), (bv, .inl (y 0, 16, .inl zk5)), (q2, .inl (y 0, 34, .inl zk7))] t.heap ∧ va_D (va_A [(h0, .inr (1, [.ref bv, .int 0, w1, .int 9])), (bv, .inl (y 0, 16, .inl zk5))] sz) [(h0, .inr (1, [.ref q2, .int 0, w1, .int 20])), (bv, .inl (y 0, 16, .inl zk5)), (q2, .inl (y 0, 34, .inl zk7))]) (va_A [(h0, .inr (1, [.ref bv, .int 0, w1, .int 9])), (bv, .inl (y 0, 16, .inl zk5))] sz)) 1 34 (va_A [(h0, .inr (1, [.ref bv, .int 0, w1, .int 9])), (bv, .inl (y 0, 16, .inl zk5))] sz) := by
  refine Met.ofW (cc := cJ4_append_15ec4) (maxL := 2) (ret := (some (.object "java/lang/StringBuilder"))) (by decide) rfl ?_
  intro p e s m args below meth c s₁ B hml hv
  obtain ⟨rfl, hsz, hP, hK, hD0, hN, hE, hO, hT, hG⟩ := hv
  have hx := B.exec
  have hb := B.bytes
  have hr := B.returns
  have hts := atoms_spec (ws := wz_c_SBapp_e0) B.pre
  have hown : s.vm.findClass RJ4 = some m.cls := findClass_of_methodNamed B.named
  have hlocks := B.notSynchronized
  subst hsz
  have hD := hD0.self (sz := s.heap.size)
  generalize hAe : va_A [(h0, .inr (1, [.ref bv, .int 0, w1, .int 9])), (bv, .inl (y 0, 16, .inl zk5))] s.heap.size = A at hD hE hT hG ⊢
  have hA : ∀ q : Nat, s.heap.size ≤ q → A q := fun q h => by rw [← hAe]; exact Or.inr h
  have hS : va_S A s.heap s.heap [] := va_S.rf
  have hl := lv_entry ([.ref h0, .ref sx]) (n := 2) (Nat.le_of_ble_eq_true rfl)
  rw [lg_entry_eq]
  generalize (lg_sl ([.ref h0, .ref sx]) ++ List.replicate (2 - (lg_sl ([.ref h0, .ref sx])).length) Slot.unset).toArray = ls at hl ⊢
  have hl : lv_has ls 2 [(0, .ref h0), (1, .ref sx)] := hl
  refine lv_aload_n hx hb dJ4_append_15ec4_0 rfl (lv_at hl 0 rfl) ?_
  refine lv_aload_n hx hb dJ4_append_15ec4_1 rfl (lv_at hl 1 rfl) ?_
  have hPc := hP.sub (ws' := [(h0, .inr (1, [.ref bv, .int 0, w1, .int 9])), (bv, .inl (y 0, 16, .inl zk5))]) [0, 1] rfl
  have hDc := hD.sub (ws' := [(h0, .inr (1, [.ref bv, .int 0, w1, .int 9])), (bv, .inl (y 0, 16, .inl zk5))]) [0, 1] (by decide) rfl
  have hFc := va_free (wc := [(h0, .inr (1, [.ref bv, .int 0, w1, .int 9])), (bv, .inl (y 0, 16, .inl zk5))]) hD hS hA [0, 1] rfl
  refine va_callq (va_runSU (hK.1 1 _ rfl).2 (As := [.ref sx]) (rest := []) ⟨hx, hb, hml, hown, hts⟩ (c_ASBapp_e0 l D y s.heap.size h0 bv w1 sx tx) (va_cwSU 1 hts gv_c_SBapp_e0_c_ASBapp_e0_29 rfl rfl rfl (by decide +kernel) ⟨(Nat.le_of_ble_eq_true rfl), (Nat.le_of_ble_eq_true rfl)⟩) (zB.preV hPc hDc hK hN hE hO hT hG hS hFc (fun _ h => nomatch h) (List.forall_mem_cons.mpr ⟨List.mem_of_getElem? (i := 0) rfl, (fun _ h => nomatch h)⟩) (fun _ h => nomatch h) (List.forall_mem_cons.mpr ⟨List.mem_of_getElem? (i := 0) rfl, (fun _ h => nomatch h)⟩) (va_recv hK hPc (ci := 1) (q0 := 0) rfl rfl)) rfl rfl hl.1 rfl (lv_room (Nat.le_of_ble_eq_true rfl)) dJ4_append_15ec4_2 ⟨(Nat.le_of_ble_eq_true rfl), (Nat.le_of_ble_eq_true rfl)⟩) hS (fun q _ h => hFc q h) hFc (fun r1 u t H1 locs ht hvm hw hB hz1 hk1 hS => ?_)
  obtain ⟨q2, hP1, hD1⟩ := hB
  rw [ht] at hP1
  obtain ⟨hP, hD⟩ := va_join (wr := []) (w1 := [(h0, .inr (1, [.ref q2, .int 0, w1, .int 20])), (bv, .inl (y 0, 16, .inl zk5)), (q2, .inl (y 0, 34, .inl zk7))]) hP hD [0, 1] [] rfl rfl (by decide) (by decide) hk1 hFc hP1 hD1
  generalize H1 = H at hP hS ⊢
  have hP : va_P D vwCl [(h0, .inr (1, [.ref q2, .int 0, w1, .int 20])), (bv, .inl (y 0, 16, .inl zk5)), (q2, .inl (y 0, 34, .inl zk7))] H := hP
  have hD : va_D A [(h0, .inr (1, [.ref q2, .int 0, w1, .int 20])), (bv, .inl (y 0, 16, .inl zk5)), (q2, .inl (y 0, 34, .inl zk7))] := hD
  have hw : r1 = some h0 := hw
  subst hw
  refine W.eq (g2 := F0 m 5 ls [.ref h0]) rfl ?_
  refine lv_pop hx hb dJ4_append_15ec4_5 rfl ?_
  refine lv_aload_n hx hb dJ4_append_15ec4_6 rfl (lv_at hl 0 rfl) ?_
  have hP9 := hP.sub (ws' := [(h0, .inr (1, [.ref q2, .int 0, w1, .int 20])), (bv, .inl (y 0, 16, .inl zk5)), (q2, .inl (y 0, 34, .inl zk7))]) [0, 1, 2] rfl
  have hD9 := hD.sub (ws' := [(h0, .inr (1, [.ref q2, .int 0, w1, .int 20])), (bv, .inl (y 0, 16, .inl zk5)), (q2, .inl (y 0, 34, .inl zk7))]) [0, 1, 2] (by decide) rfl
  refine W.widen (k := 1) (n := 34) (Nat.le_of_ble_eq_true rfl) (Nat.le_of_ble_eq_true rfl) ?_
  exact W.aret (v := .ref h0) hx hb hr (Or.inl ⟨_, rfl⟩) (Or.inr ⟨_, rfl⟩) (fun t ht hW => ⟨⟨(some h0), (), rfl, rfl, q2, by rw [ht]; exact hP9, hD9⟩, hS.F ht⟩) hS.2.2 dJ4_append_15ec4_7
def wz_c_ens_34_25 : List Cond := .code yJ5_ensureCapacityInternal_d00df cJ5_ensureCapacityInternal_d00df 3 none :: ([.fieldLink RJ5 15 "java/lang/AbstractStringBuilder" "value" "[B", .fieldLink RJ5 22 "java/lang/AbstractStringBuilder" "coder" "B"] ++ (wsJ40 ++ ([])))
set_option maxHeartbeats 4000000 in
set_option maxRecDepth 100000 in
theorem c_ens_34_25 (l : Launch) (D : va_G) (y : Nat → ClassId) (sz : Nat) (h0 : Nat) (bv : Nat) (w1 : Value) (w2 : Value) (g : Nat → Int32) : Met l yJ5_ensureCapacityInternal_d00df wz_c_ens_34_25 ({ frames := 0, cells := 0, slots := 0, locals := 0 }) (va_Pc [.ref h0, .int 25] (zB D y [(h0, .inr (1, [.ref bv, .int 0, w1, w2])), (bv, .inl (y 0, 34, .inl g))] sz [] [] [] [])) (va_Qv (fun _ : Unit => True) (fun _ t => va_P D vwCl [(h0, .inr (1, [.ref bv, .int 0, w1, w2])), (bv, .inl (y 0, 34, .inl g))] t.heap ∧ va_D (va_A [(h0, .inr (1, [.ref bv, .int 0, w1, w2])), (bv, .inl (y 0, 34, .inl g))] sz) [(h0, .inr (1, [.ref bv, .int 0, w1, w2])), (bv, .inl (y 0, 34, .inl g))]) (va_A [(h0, .inr (1, [.ref bv, .int 0, w1, w2])), (bv, .inl (y 0, 34, .inl g))] sz)) 0 0 (va_A [(h0, .inr (1, [.ref bv, .int 0, w1, w2])), (bv, .inl (y 0, 34, .inl g))] sz) := by
  refine Met.ofW (cc := cJ5_ensureCapacityInternal_d00df) (maxL := 3) (ret := none) (by decide) rfl ?_
  intro p e s m args below meth c s₁ B hml hv
  obtain ⟨rfl, hsz, hP, hK, hD0, hN, hE, hO, hT, hG⟩ := hv
  have hx := B.exec
  have hb := B.bytes
  have hr := B.returns
  have hts := atoms_spec (ws := wz_c_ens_34_25) B.pre
  have hown : s.vm.findClass RJ5 = some m.cls := findClass_of_methodNamed B.named
  have hlocks := B.notSynchronized
  subst hsz
  have hD := hD0.self (sz := s.heap.size)
  generalize hAe : va_A [(h0, .inr (1, [.ref bv, .int 0, w1, w2])), (bv, .inl (y 0, 34, .inl g))] s.heap.size = A at hD hE hT hG ⊢
  have hA : ∀ q : Nat, s.heap.size ≤ q → A q := fun q h => by rw [← hAe]; exact Or.inr h
  have hS : va_S A s.heap s.heap [] := va_S.rf
  have hl := lv_entry ([.ref h0, .int 25]) (n := 3) (Nat.le_of_ble_eq_true rfl)
  rw [lg_entry_eq]
  generalize (lg_sl ([.ref h0, .int 25]) ++ List.replicate (3 - (lg_sl ([.ref h0, .int 25])).length) Slot.unset).toArray = ls at hl ⊢
  have hl : lv_has ls 3 [(0, .ref h0), (1, .int 25)] := hl
  refine lv_aload_n hx hb dJ5_ensureCapacityInternal_d00df_0 rfl (lv_at hl 0 rfl) ?_
  refine va_get (D := D) (ci := 1) (v := .ref bv) (C := RJ4) (T := TJ4) (N := 4) hx hb hts (by decide +kernel) hown hK hP 0 rfl rfl 0 (by decide) (hts (.fieldLink RJ5 15 "java/lang/AbstractStringBuilder" "value" "[B") (by decide +kernel)) (fun _ h9 => h9) rfl dJ5_ensureCapacityInternal_d00df_1 ?_
  refine va_alen (v := 34) hx hb hK hP 1 0 rfl rfl (show Int32.ofNat 34 = (34 : Int32) from by decide) dJ5_ensureCapacityInternal_d00df_4 ?_
  refine lv_aload_n hx hb dJ5_ensureCapacityInternal_d00df_5 rfl (lv_at hl 0 rfl) ?_
  refine va_get (D := D) (ci := 1) (v := .int 0) (C := RJ4) (T := TJ4) (N := 4) hx hb hts (by decide +kernel) hown hK hP 0 rfl rfl 1 (by decide) (hts (.fieldLink RJ5 22 "java/lang/AbstractStringBuilder" "coder" "B") (by decide +kernel)) (fun _ h9 => h9) rfl dJ5_ensureCapacityInternal_d00df_6 ?_
  refine lv_ishr hx hb dJ5_ensureCapacityInternal_d00df_9 ?_
  refine lv_topi (fun v1 ev1 => ?_)
  have ev1 : v1 = 34 := ev1.trans (by decide +kernel)
  subst ev1
  refine lv_istore_n (lv' := [(2, .int 34), (0, .ref h0), (1, .int 25)]) hx hb dJ5_ensureCapacityInternal_d00df_10 rfl hl (by decide) rfl (fun ls hl => ?_)
  refine lv_iload_n hx hb dJ5_ensureCapacityInternal_d00df_11 rfl (lv_at hl 2 rfl) ?_
  refine lv_iload_n hx hb dJ5_ensureCapacityInternal_d00df_12 rfl (lv_at hl 0 rfl) ?_
  refine lv_isub hx hb dJ5_ensureCapacityInternal_d00df_13 ?_
  refine lv_topi (fun v2 ev2 => ?_)
  have ev2 : v2 = -9 := ev2.trans (by decide +kernel)
  subst ev2
  refine lv_if_le (tgt := 38) hx hb dJ5_ensureCapacityInternal_d00df_14 (by decide) (fun _ => ?_) (fun c9 => absurd (by decide) c9)
  have hP9 := hP.sub (ws' := [(h0, .inr (1, [.ref bv, .int 0, w1, w2])), (bv, .inl (y 0, 34, .inl g))]) [0, 1] rfl
  have hD9 := hD.sub (ws' := [(h0, .inr (1, [.ref bv, .int 0, w1, w2])), (bv, .inl (y 0, 34, .inl g))]) [0, 1] (by decide) rfl
  refine W.widen (k := 0) (n := 0) (Nat.le_of_ble_eq_true rfl) (Nat.le_of_ble_eq_true rfl) ?_
  exact W.vret hx hb hr (fun t ht hW => ⟨⟨(), rfl, trivial, by rw [ht]; exact hP9, hD9⟩, hS.F ht⟩) hS.2.2 dJ5_ensureCapacityInternal_d00df_38
def wz_c_getBytes_10_20_34 : List Cond := .code yJ0_getBytes_840e7 cJ0_getBytes_840e7 4 none :: ([.methodLink RJ0 335 yJ0_coder_7d493, .instanceMethod yJ0_coder_7d493, .selects RJ0 yJ0_coder_7d493 yJ0_coder_7d493, .initialized RJ0, .fieldLink RJ0 9 "java/lang/String" "value" "[B", .methodLink RJ0 212 arraycopyName, .native arraycopyName, .static arraycopyName, .initialized "java/lang/System"] ++ (wz_c_coder_o ++ ([])))
set_option maxRecDepth 100000 in
theorem gz_c_getBytes_10_20_34_c_coder_o : GoodIn wz_c_getBytes_10_20_34 wz_c_coder_o := goodIn_sub (fun w h => List.mem_cons_of_mem _ (List.mem_append_right _ (List.mem_append_left _ h))) (by decide +kernel)
set_option maxRecDepth 100000 in
theorem gv_c_getBytes_10_20_34_c_coder_o_335 : GoodIn wz_c_getBytes_10_20_34 (wsV RJ0 335 RJ0 yJ0_coder_7d493 wz_c_coder_o) := goodIn_app (goodIn_of _ (by decide +kernel)) gz_c_getBytes_10_20_34_c_coder_o
set_option maxHeartbeats 4000000 in
set_option maxRecDepth 100000 in
theorem c_getBytes_10_20_34 (l : Launch) (D : va_G) (y : Nat → ClassId) (sz : Nat) (bv : Nat) (sx : Nat) (tx : Nat) (g : Nat → Int32) : Met l yJ0_getBytes_840e7 wz_c_getBytes_10_20_34 ({ frames := 1, cells := 0, slots := 0, locals := 60 }) (va_Pc [.ref sx, .ref bv, .int 20, .int 0] (zB D y [(bv, .inl (y 0, 34, .inl g))] sz [] [("java/lang/String", "COMPACT_STRINGS", "Z", .int 1)] [] [.inr (.inl (sx, tx, 5, zs10))])) (va_Qv (fun _ : Unit => True) (fun _ t => va_P D vwCl [(bv, .inl (y 0, 34, .inl (va_cpy zs10 g (0 : Int32).toNatClampNeg (20 : Int32).toNatClampNeg (5 : Int32).toNatClampNeg)))] t.heap ∧ va_D (va_A [(bv, .inl (y 0, 34, .inl g))] sz) [(bv, .inl (y 0, 34, .inl (va_cpy zs10 g (0 : Int32).toNatClampNeg (20 : Int32).toNatClampNeg (5 : Int32).toNatClampNeg)))]) (va_A [(bv, .inl (y 0, 34, .inl g))] sz)) 0 0 (va_A [(bv, .inl (y 0, 34, .inl g))] sz) := by
  refine Met.ofW (cc := cJ0_getBytes_840e7) (maxL := 4) (ret := none) (by decide) rfl ?_
  intro p e s m args below meth c s₁ B hml hv
  obtain ⟨rfl, hsz, hP, hK, hD0, hN, hE, hO, hT, hG⟩ := hv
  have hx := B.exec
  have hb := B.bytes
  have hr := B.returns
  have hts := atoms_spec (ws := wz_c_getBytes_10_20_34) B.pre
  have hown : s.vm.findClass RJ0 = some m.cls := findClass_of_methodNamed B.named
  have hlocks := B.notSynchronized
  subst hsz
  have hD := hD0.self (sz := s.heap.size)
  generalize hAe : va_A [(bv, .inl (y 0, 34, .inl g))] s.heap.size = A at hD hE hT hG ⊢
  have hA : ∀ q : Nat, s.heap.size ≤ q → A q := fun q h => by rw [← hAe]; exact Or.inr h
  have hS : va_S A s.heap s.heap [] := va_S.rf
  have hl := lv_entry ([.ref sx, .ref bv, .int 20, .int 0]) (n := 4) (Nat.le_of_ble_eq_true rfl)
  rw [lg_entry_eq]
  generalize (lg_sl ([.ref sx, .ref bv, .int 20, .int 0]) ++ List.replicate (4 - (lg_sl ([.ref sx, .ref bv, .int 20, .int 0])).length) Slot.unset).toArray = ls at hl ⊢
  have hl : lv_has ls 4 [(0, .ref sx), (1, .ref bv), (2, .int 20), (3, .int 0)] := hl
  refine lv_aload_n hx hb dJ0_getBytes_840e7_0 rfl (lv_at hl 0 rfl) ?_
  have hPc := hP.sub (ws' := []) [] rfl
  have hDc := hD.sub (ws' := []) [] (by decide) rfl
  have hFc := va_free (wc := []) hD hS hA [] rfl
  refine va_calli (va_runV (As := []) (rest := []) ⟨hx, hb, hml, hown, hts⟩ (c_coder_o l D y s.heap.size sx tx 5 zs10) (cwV 0 hts gv_c_getBytes_10_20_34_c_coder_o_335 rfl rfl rfl (by decide +kernel) ⟨(Nat.le_of_ble_eq_true rfl), (Nat.le_of_ble_eq_true rfl)⟩) (zB.preV hPc hDc hK hN hE hO hT hG hS hFc (fun _ h => nomatch h) (List.forall_mem_cons.mpr ⟨List.mem_of_getElem? (i := 0) rfl, (fun _ h => nomatch h)⟩) (fun _ h => nomatch h) (List.forall_mem_cons.mpr ⟨List.mem_of_getElem? (i := 0) rfl, (fun _ h => nomatch h)⟩) (zStr.recv (show zStr sx tx 5 zs10 A s s.heap from (hG (.inr (.inl (sx, tx, 5, zs10))) (List.mem_of_getElem? (i := 0) rfl))) hS)) rfl rfl hl.1 rfl (lv_room (Nat.le_of_ble_eq_true rfl)) dJ0_getBytes_840e7_1 ⟨(Nat.le_of_ble_eq_true rfl), (Nat.le_of_ble_eq_true rfl)⟩) hS (fun q _ h => hFc q h) hFc (fun r1 u t H1 locs ht hvm hw hB hz1 hk1 hS => ?_)
  obtain ⟨hP1, hD1⟩ := hB
  rw [ht] at hP1
  obtain ⟨hP, hD⟩ := va_join (wr := [(bv, .inl (y 0, 34, .inl g))]) (w1 := []) hP hD [] [0] rfl rfl (by decide) (by decide) hk1 hFc hP1 hD1
  generalize H1 = H at hP hS ⊢
  have hP : va_P D vwCl [(bv, .inl (y 0, 34, .inl g))] H := hP
  have hD : va_D A [(bv, .inl (y 0, 34, .inl g))] := hD
  have hw : r1 = 0 := hw
  subst hw
  refine lv_iload_n hx hb dJ0_getBytes_840e7_4 rfl (lv_at hl 3 rfl) ?_
  refine lv_icmp_ne (tgt := 28) hx hb dJ0_getBytes_840e7_5 (by decide) (fun c9 => absurd (by decide) c9) (fun _ => ?_)
  refine lv_aload_n hx hb dJ0_getBytes_840e7_8 rfl (lv_at hl 0 rfl) ?_
  refine vk_getf hx hb (show zStr sx tx 5 zs10 A s s.heap from (hG (.inr (.inl (sx, tx, 5, zs10))) (List.mem_of_getElem? (i := 0) rfl))).2.2.1 hS hown (hts (.fieldLink RJ0 9 "java/lang/String" "value" "[B") (by decide +kernel)) (fun _ h9 => h9) dJ0_getBytes_840e7_9 ?_
  refine lv_iconst (v := 0) hx hb dJ0_getBytes_840e7_12 (by decide) ?_
  refine lv_aload_n hx hb dJ0_getBytes_840e7_13 rfl (lv_at hl 1 rfl) ?_
  refine lv_iload_n hx hb dJ0_getBytes_840e7_14 rfl (lv_at hl 2 rfl) ?_
  refine lv_iload_n hx hb dJ0_getBytes_840e7_15 rfl (lv_at hl 3 rfl) ?_
  refine lv_ishl hx hb dJ0_getBytes_840e7_16 ?_
  refine lv_topi (fun v2 ev2 => ?_)
  have ev2 : v2 = 20 := ev2.trans (by decide +kernel)
  subst ev2
  refine lv_aload_n hx hb dJ0_getBytes_840e7_17 rfl (lv_at hl 0 rfl) ?_
  refine vk_getf hx hb (show zStr sx tx 5 zs10 A s s.heap from (hG (.inr (.inl (sx, tx, 5, zs10))) (List.mem_of_getElem? (i := 0) rfl))).2.2.1 hS hown (hts (.fieldLink RJ0 9 "java/lang/String" "value" "[B") (by decide +kernel)) (fun _ h9 => h9) dJ0_getBytes_840e7_18 ?_
  refine va_tlen (v := 5) hx hb (show zStr sx tx 5 zs10 A s s.heap from (hG (.inr (.inl (sx, tx, 5, zs10))) (List.mem_of_getElem? (i := 0) rfl))).2.2.2 hS (by decide) dJ0_getBytes_840e7_21 ?_
  refine vk_copyt (sp := 0) (dp := 20) (n := 5) (f := zs10) hx hb (hml.trans hl.1.symm) hown (hts (.methodLink RJ0 212 arraycopyName) (by decide +kernel)) (hts (.native arraycopyName) (by decide +kernel)) (hts (.static arraycopyName) (by decide +kernel)) (hts (.initialized "java/lang/System") (by decide +kernel)) hK hP hD hS (show zStr sx tx 5 zs10 A s s.heap from (hG (.inr (.inl (sx, tx, 5, zs10))) (List.mem_of_getElem? (i := 0) rfl))).2.2.2 0 0 rfl rfl (by decide +kernel) (by decide +kernel) (by decide +kernel) (by decide +kernel) (by decide +kernel) (by decide +kernel) (Nat.le_of_ble_eq_true rfl) (Nat.le_of_ble_eq_true rfl) dJ0_getBytes_840e7_22 (fun H locs hP hD hS => ?_)
  have hP : va_P D vwCl [(bv, .inl (y 0, 34, .inl (va_cpy zs10 g (0 : Int32).toNatClampNeg (20 : Int32).toNatClampNeg (5 : Int32).toNatClampNeg)))] H := hP
  have hD : va_D A [(bv, .inl (y 0, 34, .inl (va_cpy zs10 g (0 : Int32).toNatClampNeg (20 : Int32).toNatClampNeg (5 : Int32).toNatClampNeg)))] := hD
  refine lv_goto (tgt := 43) hx hb dJ0_getBytes_840e7_25 (by decide) ?_
  have hP9 := hP.sub (ws' := [(bv, .inl (y 0, 34, .inl (va_cpy zs10 g (0 : Int32).toNatClampNeg (20 : Int32).toNatClampNeg (5 : Int32).toNatClampNeg)))]) [0] rfl
  have hD9 := hD.sub (ws' := [(bv, .inl (y 0, 34, .inl (va_cpy zs10 g (0 : Int32).toNatClampNeg (20 : Int32).toNatClampNeg (5 : Int32).toNatClampNeg)))]) [0] (by decide) rfl
  refine W.widen (k := 0) (n := 0) (Nat.le_of_ble_eq_true rfl) (Nat.le_of_ble_eq_true rfl) ?_
  exact W.vret hx hb hr (fun t ht hW => ⟨⟨(), rfl, trivial, by rw [ht]; exact hP9, hD9⟩, hS.F ht⟩) hS.2.2 dJ0_getBytes_840e7_43
def wz_c_putStr_10_20_34 : List Cond := .code yJ5_putStringAt_47b60 cJ5_putStringAt_47b60 3 none :: ([.methodLink RJ5 397 ⟨"java/lang/AbstractStringBuilder", "inflateIfNeededFor", "(Ljava/lang/String;)V"⟩, .sameMethod "java/lang/AbstractStringBuilder" "java/lang/AbstractStringBuilder" "inflateIfNeededFor" "(Ljava/lang/String;)V", .selects RJ4 ⟨"java/lang/AbstractStringBuilder", "inflateIfNeededFor", "(Ljava/lang/String;)V"⟩ yJ5_inflateIfNeededFor_a7421, .instanceMethod yJ5_inflateIfNeededFor_a7421, .initialized RJ5, .fieldLink RJ5 15 "java/lang/AbstractStringBuilder" "value" "[B", .fieldLink RJ5 22 "java/lang/AbstractStringBuilder" "coder" "B", .methodLink RJ5 399 yJ0_getBytes_840e7, .instanceMethod yJ0_getBytes_840e7, .selects RJ0 yJ0_getBytes_840e7 yJ0_getBytes_840e7, .initialized RJ0] ++ (wsJ40 ++ (wz_c_inflIf ++ (wz_c_getBytes_10_20_34 ++ ([])))))
set_option maxRecDepth 100000 in
theorem gz_c_putStr_10_20_34_c_inflIf : GoodIn wz_c_putStr_10_20_34 wz_c_inflIf := goodIn_sub (fun w h => List.mem_cons_of_mem _ (List.mem_append_right _ (List.mem_append_right _ (List.mem_append_left _ h)))) (by decide +kernel)
set_option maxRecDepth 100000 in
theorem gz_c_putStr_10_20_34_c_getBytes_10_20_34 : GoodIn wz_c_putStr_10_20_34 wz_c_getBytes_10_20_34 := goodIn_sub (fun w h => List.mem_cons_of_mem _ (List.mem_append_right _ (List.mem_append_right _ (List.mem_append_right _ (List.mem_append_left _ h))))) (by decide +kernel)
set_option maxRecDepth 100000 in
theorem gv_c_putStr_10_20_34_c_inflIf_397 : GoodIn wz_c_putStr_10_20_34 (va_wsU RJ5 397 RJ4 "java/lang/AbstractStringBuilder" ⟨"java/lang/AbstractStringBuilder", "inflateIfNeededFor", "(Ljava/lang/String;)V"⟩ yJ5_inflateIfNeededFor_a7421 wz_c_inflIf) := goodIn_app (goodIn_of _ (by decide +kernel)) gz_c_putStr_10_20_34_c_inflIf
set_option maxRecDepth 100000 in
theorem gv_c_putStr_10_20_34_c_getBytes_10_20_34_399 : GoodIn wz_c_putStr_10_20_34 (wsV RJ5 399 RJ0 yJ0_getBytes_840e7 wz_c_getBytes_10_20_34) := goodIn_app (goodIn_of _ (by decide +kernel)) gz_c_putStr_10_20_34_c_getBytes_10_20_34
set_option maxHeartbeats 4000000 in
set_option maxRecDepth 100000 in
theorem c_putStr_10_20_34 (l : Launch) (D : va_G) (y : Nat → ClassId) (sz : Nat) (h0 : Nat) (bv : Nat) (w1 : Value) (w2 : Value) (sx : Nat) (tx : Nat) (g : Nat → Int32) : Met l yJ5_putStringAt_47b60 wz_c_putStr_10_20_34 ({ frames := 2, cells := 0, slots := 0, locals := 83 }) (va_Pc [.ref h0, .int 20, .ref sx] (zB D y [(h0, .inr (1, [.ref bv, .int 0, w1, w2])), (bv, .inl (y 0, 34, .inl g))] sz [] [("java/lang/String", "COMPACT_STRINGS", "Z", .int 1)] [] [.inr (.inl (sx, tx, 5, zs10))])) (va_Qv (fun _ : Unit => True) (fun _ t => va_P D vwCl [(h0, .inr (1, [.ref bv, .int 0, w1, w2])), (bv, .inl (y 0, 34, .inl (va_cpy zs10 g (0 : Int32).toNatClampNeg (20 : Int32).toNatClampNeg (5 : Int32).toNatClampNeg)))] t.heap ∧ va_D (va_A [(h0, .inr (1, [.ref bv, .int 0, w1, w2])), (bv, .inl (y 0, 34, .inl g))] sz) [(h0, .inr (1, [.ref bv, .int 0, w1, w2])), (bv, .inl (y 0, 34, .inl (va_cpy zs10 g (0 : Int32).toNatClampNeg (20 : Int32).toNatClampNeg (5 : Int32).toNatClampNeg)))]) (va_A [(h0, .inr (1, [.ref bv, .int 0, w1, w2])), (bv, .inl (y 0, 34, .inl g))] sz)) 0 0 (va_A [(h0, .inr (1, [.ref bv, .int 0, w1, w2])), (bv, .inl (y 0, 34, .inl g))] sz) := by
  refine Met.ofW (cc := cJ5_putStringAt_47b60) (maxL := 3) (ret := none) (by decide) rfl ?_
  intro p e s m args below meth c s₁ B hml hv
  obtain ⟨rfl, hsz, hP, hK, hD0, hN, hE, hO, hT, hG⟩ := hv
  have hx := B.exec
  have hb := B.bytes
  have hr := B.returns
  have hts := atoms_spec (ws := wz_c_putStr_10_20_34) B.pre
  have hown : s.vm.findClass RJ5 = some m.cls := findClass_of_methodNamed B.named
  have hlocks := B.notSynchronized
  subst hsz
  have hD := hD0.self (sz := s.heap.size)
  generalize hAe : va_A [(h0, .inr (1, [.ref bv, .int 0, w1, w2])), (bv, .inl (y 0, 34, .inl g))] s.heap.size = A at hD hE hT hG ⊢
  have hA : ∀ q : Nat, s.heap.size ≤ q → A q := fun q h => by rw [← hAe]; exact Or.inr h
  have hS : va_S A s.heap s.heap [] := va_S.rf
  have hl := lv_entry ([.ref h0, .int 20, .ref sx]) (n := 3) (Nat.le_of_ble_eq_true rfl)
  rw [lg_entry_eq]
  generalize (lg_sl ([.ref h0, .int 20, .ref sx]) ++ List.replicate (3 - (lg_sl ([.ref h0, .int 20, .ref sx])).length) Slot.unset).toArray = ls at hl ⊢
  have hl : lv_has ls 3 [(0, .ref h0), (1, .int 20), (2, .ref sx)] := hl
  refine lv_aload_n hx hb dJ5_putStringAt_47b60_0 rfl (lv_at hl 0 rfl) ?_
  refine lv_aload_n hx hb dJ5_putStringAt_47b60_1 rfl (lv_at hl 2 rfl) ?_
  have hPc := hP.sub (ws' := [(h0, .inr (1, [.ref bv, .int 0, w1, w2]))]) [0] rfl
  have hDc := hD.sub (ws' := [(h0, .inr (1, [.ref bv, .int 0, w1, w2]))]) [0] (by decide) rfl
  have hFc := va_free (wc := [(h0, .inr (1, [.ref bv, .int 0, w1, w2]))]) hD hS hA [0] rfl
  refine va_callv (va_runU (As := [.ref sx]) (rest := []) ⟨hx, hb, hml, hown, hts⟩ (c_inflIf l D y s.heap.size h0 ((.ref bv)) w1 w2 sx tx 5 zs10) (va_cwU 1 hts gv_c_putStr_10_20_34_c_inflIf_397 rfl rfl rfl rfl (by decide +kernel) ⟨(Nat.le_of_ble_eq_true rfl), (Nat.le_of_ble_eq_true rfl)⟩) (zB.preV hPc hDc hK hN hE hO hT hG hS hFc (fun _ h => nomatch h) (List.forall_mem_cons.mpr ⟨List.mem_of_getElem? (i := 0) rfl, (fun _ h => nomatch h)⟩) (fun _ h => nomatch h) (List.forall_mem_cons.mpr ⟨List.mem_of_getElem? (i := 0) rfl, (fun _ h => nomatch h)⟩) (va_recv hK hPc (ci := 1) (q0 := 0) rfl rfl)) rfl rfl hl.1 rfl (lv_room (Nat.le_of_ble_eq_true rfl)) dJ5_putStringAt_47b60_2 ⟨(Nat.le_of_ble_eq_true rfl), (Nat.le_of_ble_eq_true rfl)⟩) hS (fun q _ h => hFc q h) hFc (fun u t H1 locs ht hvm hw hB hz1 hk1 hS => ?_)
  obtain ⟨hP1, hD1⟩ := hB
  rw [ht] at hP1
  obtain ⟨hP, hD⟩ := va_join (wr := [(bv, .inl (y 0, 34, .inl g))]) (w1 := [(h0, .inr (1, [.ref bv, .int 0, w1, w2]))]) hP hD [0] [1] rfl rfl (by decide) (by decide) hk1 hFc hP1 hD1
  generalize H1 = H at hP hS ⊢
  have hP : va_P D vwCl [(bv, .inl (y 0, 34, .inl g)), (h0, .inr (1, [.ref bv, .int 0, w1, w2]))] H := hP
  have hD : va_D A [(bv, .inl (y 0, 34, .inl g)), (h0, .inr (1, [.ref bv, .int 0, w1, w2]))] := hD
  refine lv_aload_n hx hb dJ5_putStringAt_47b60_5 rfl (lv_at hl 2 rfl) ?_
  refine lv_aload_n hx hb dJ5_putStringAt_47b60_6 rfl (lv_at hl 0 rfl) ?_
  refine va_get (D := D) (ci := 1) (v := .ref bv) (C := RJ4) (T := TJ4) (N := 4) hx hb hts (by decide +kernel) hown hK hP 1 rfl rfl 0 (by decide) (hts (.fieldLink RJ5 15 "java/lang/AbstractStringBuilder" "value" "[B") (by decide +kernel)) (fun _ h9 => h9) rfl dJ5_putStringAt_47b60_7 ?_
  refine lv_iload_n hx hb dJ5_putStringAt_47b60_10 rfl (lv_at hl 1 rfl) ?_
  refine lv_aload_n hx hb dJ5_putStringAt_47b60_11 rfl (lv_at hl 0 rfl) ?_
  refine va_get (D := D) (ci := 1) (v := .int 0) (C := RJ4) (T := TJ4) (N := 4) hx hb hts (by decide +kernel) hown hK hP 1 rfl rfl 1 (by decide) (hts (.fieldLink RJ5 22 "java/lang/AbstractStringBuilder" "coder" "B") (by decide +kernel)) (fun _ h9 => h9) rfl dJ5_putStringAt_47b60_12 ?_
  have hPc := hP.sub (ws' := [(bv, .inl (y 0, 34, .inl g))]) [0] rfl
  have hDc := hD.sub (ws' := [(bv, .inl (y 0, 34, .inl g))]) [0] (by decide) rfl
  have hFc := va_free (wc := [(bv, .inl (y 0, 34, .inl g))]) hD hS hA [0] rfl
  refine va_callv (va_runV (As := [.ref bv, .int 20, .int 0]) (rest := []) ⟨hx, hb, hml, hown, hts⟩ (c_getBytes_10_20_34 l D y H.size bv sx tx g) (cwV 3 hts gv_c_putStr_10_20_34_c_getBytes_10_20_34_399 rfl rfl rfl (by decide +kernel) ⟨(Nat.le_of_ble_eq_true rfl), (Nat.le_of_ble_eq_true rfl)⟩) (zB.preV hPc hDc hK hN hE hO hT hG hS hFc (fun _ h => nomatch h) (List.forall_mem_cons.mpr ⟨List.mem_of_getElem? (i := 0) rfl, (fun _ h => nomatch h)⟩) (fun _ h => nomatch h) (List.forall_mem_cons.mpr ⟨List.mem_of_getElem? (i := 0) rfl, (fun _ h => nomatch h)⟩) (zStr.recv (show zStr sx tx 5 zs10 A s s.heap from (hG (.inr (.inl (sx, tx, 5, zs10))) (List.mem_of_getElem? (i := 0) rfl))) hS)) rfl rfl hl.1 rfl (lv_room (Nat.le_of_ble_eq_true rfl)) dJ5_putStringAt_47b60_15 ⟨(Nat.le_of_ble_eq_true rfl), (Nat.le_of_ble_eq_true rfl)⟩) hS (fun q _ h => hFc q h) hFc (fun u t H1 locs ht hvm hw hB hz1 hk1 hS => ?_)
  obtain ⟨hP1, hD1⟩ := hB
  rw [ht] at hP1
  obtain ⟨hP, hD⟩ := va_join (wr := [(h0, .inr (1, [.ref bv, .int 0, w1, w2]))]) (w1 := [(bv, .inl (y 0, 34, .inl (va_cpy zs10 g (0 : Int32).toNatClampNeg (20 : Int32).toNatClampNeg (5 : Int32).toNatClampNeg)))]) hP hD [0] [1] rfl rfl (by decide) (by decide) hk1 hFc hP1 hD1
  generalize H1 = H at hP hS ⊢
  have hP : va_P D vwCl [(h0, .inr (1, [.ref bv, .int 0, w1, w2])), (bv, .inl (y 0, 34, .inl (va_cpy zs10 g (0 : Int32).toNatClampNeg (20 : Int32).toNatClampNeg (5 : Int32).toNatClampNeg)))] H := hP
  have hD : va_D A [(h0, .inr (1, [.ref bv, .int 0, w1, w2])), (bv, .inl (y 0, 34, .inl (va_cpy zs10 g (0 : Int32).toNatClampNeg (20 : Int32).toNatClampNeg (5 : Int32).toNatClampNeg)))] := hD
  have hP9 := hP.sub (ws' := [(h0, .inr (1, [.ref bv, .int 0, w1, w2])), (bv, .inl (y 0, 34, .inl (va_cpy zs10 g (0 : Int32).toNatClampNeg (20 : Int32).toNatClampNeg (5 : Int32).toNatClampNeg)))]) [0, 1] rfl
  have hD9 := hD.sub (ws' := [(h0, .inr (1, [.ref bv, .int 0, w1, w2])), (bv, .inl (y 0, 34, .inl (va_cpy zs10 g (0 : Int32).toNatClampNeg (20 : Int32).toNatClampNeg (5 : Int32).toNatClampNeg)))]) [0, 1] (by decide) rfl
  refine W.widen (k := 0) (n := 0) (Nat.le_of_ble_eq_true rfl) (Nat.le_of_ble_eq_true rfl) ?_
  exact W.vret hx hb hr (fun t ht hW => ⟨⟨(), rfl, trivial, by rw [ht]; exact hP9, hD9⟩, hS.F ht⟩) hS.2.2 dJ5_putStringAt_47b60_18
def wz_c_ASBapp_10_20_34 : List Cond := .code yJ5_append_cf1ce cJ5_append_cf1ce 3 (some (.object "java/lang/AbstractStringBuilder")) :: ([.methodLink RJ5 32 yJ0_length_8abf5, .instanceMethod yJ0_length_8abf5, .selects RJ0 yJ0_length_8abf5 yJ0_length_8abf5, .initialized RJ0, .fieldLink RJ5 79 "java/lang/AbstractStringBuilder" "count" "I", .methodLink RJ5 100 ⟨"java/lang/AbstractStringBuilder", "ensureCapacityInternal", "(I)V"⟩, .sameMethod "java/lang/AbstractStringBuilder" "java/lang/AbstractStringBuilder" "ensureCapacityInternal" "(I)V", .selects RJ4 ⟨"java/lang/AbstractStringBuilder", "ensureCapacityInternal", "(I)V"⟩ yJ5_ensureCapacityInternal_d00df, .instanceMethod yJ5_ensureCapacityInternal_d00df, .initialized RJ5, .methodLink RJ5 208 ⟨"java/lang/AbstractStringBuilder", "putStringAt", "(ILjava/lang/String;)V"⟩, .sameMethod "java/lang/AbstractStringBuilder" "java/lang/AbstractStringBuilder" "putStringAt" "(ILjava/lang/String;)V", .selects RJ4 ⟨"java/lang/AbstractStringBuilder", "putStringAt", "(ILjava/lang/String;)V"⟩ yJ5_putStringAt_47b60, .instanceMethod yJ5_putStringAt_47b60] ++ (wsJ40 ++ (wz_c_len_o_5 ++ (wz_c_ens_34_25 ++ (wz_c_putStr_10_20_34 ++ ([]))))))
set_option maxRecDepth 100000 in
theorem gz_c_ASBapp_10_20_34_c_len_o_5 : GoodIn wz_c_ASBapp_10_20_34 wz_c_len_o_5 := goodIn_sub (fun w h => List.mem_cons_of_mem _ (List.mem_append_right _ (List.mem_append_right _ (List.mem_append_left _ h)))) (by decide +kernel)
set_option maxRecDepth 100000 in
theorem gz_c_ASBapp_10_20_34_c_ens_34_25 : GoodIn wz_c_ASBapp_10_20_34 wz_c_ens_34_25 := goodIn_sub (fun w h => List.mem_cons_of_mem _ (List.mem_append_right _ (List.mem_append_right _ (List.mem_append_right _ (List.mem_append_left _ h))))) (by decide +kernel)
set_option maxRecDepth 100000 in
theorem gz_c_ASBapp_10_20_34_c_putStr_10_20_34 : GoodIn wz_c_ASBapp_10_20_34 wz_c_putStr_10_20_34 := goodIn_sub (fun w h => List.mem_cons_of_mem _ (List.mem_append_right _ (List.mem_append_right _ (List.mem_append_right _ (List.mem_append_right _ (List.mem_append_left _ h)))))) (by decide +kernel)
set_option maxRecDepth 100000 in
theorem gv_c_ASBapp_10_20_34_c_len_o_5_32 : GoodIn wz_c_ASBapp_10_20_34 (wsV RJ5 32 RJ0 yJ0_length_8abf5 wz_c_len_o_5) := goodIn_app (goodIn_of _ (by decide +kernel)) gz_c_ASBapp_10_20_34_c_len_o_5
set_option maxRecDepth 100000 in
theorem gv_c_ASBapp_10_20_34_c_ens_34_25_100 : GoodIn wz_c_ASBapp_10_20_34 (va_wsU RJ5 100 RJ4 "java/lang/AbstractStringBuilder" ⟨"java/lang/AbstractStringBuilder", "ensureCapacityInternal", "(I)V"⟩ yJ5_ensureCapacityInternal_d00df wz_c_ens_34_25) := goodIn_app (goodIn_of _ (by decide +kernel)) gz_c_ASBapp_10_20_34_c_ens_34_25
set_option maxRecDepth 100000 in
theorem gv_c_ASBapp_10_20_34_c_putStr_10_20_34_208 : GoodIn wz_c_ASBapp_10_20_34 (va_wsU RJ5 208 RJ4 "java/lang/AbstractStringBuilder" ⟨"java/lang/AbstractStringBuilder", "putStringAt", "(ILjava/lang/String;)V"⟩ yJ5_putStringAt_47b60 wz_c_putStr_10_20_34) := goodIn_app (goodIn_of _ (by decide +kernel)) gz_c_ASBapp_10_20_34_c_putStr_10_20_34
set_option maxHeartbeats 4000000 in
set_option maxRecDepth 100000 in
theorem c_ASBapp_10_20_34 (l : Launch) (D : va_G) (y : Nat → ClassId) (sz : Nat) (h0 : Nat) (bv : Nat) (w1 : Value) (sx : Nat) (tx : Nat) (g : Nat → Int32) : Met l yJ5_append_cf1ce wz_c_ASBapp_10_20_34 ({ frames := 3, cells := 0, slots := 0, locals := 105 }) (va_Pc [.ref h0, .ref sx] (zB D y [(h0, .inr (1, [.ref bv, .int 0, w1, .int 20])), (bv, .inl (y 0, 34, .inl g))] sz [] [("java/lang/String", "COMPACT_STRINGS", "Z", .int 1)] [] [.inr (.inl (sx, tx, 5, zs10))])) (va_Qq (fun (r : Option Nat) (_ : Unit) => r = some h0) (fun _ t => va_P D vwCl [(h0, .inr (1, [.ref bv, .int 0, w1, .int 25])), (bv, .inl (y 0, 34, .inl (va_cpy zs10 g (0 : Int32).toNatClampNeg (20 : Int32).toNatClampNeg (5 : Int32).toNatClampNeg)))] t.heap ∧ va_D (va_A [(h0, .inr (1, [.ref bv, .int 0, w1, .int 20])), (bv, .inl (y 0, 34, .inl g))] sz) [(h0, .inr (1, [.ref bv, .int 0, w1, .int 25])), (bv, .inl (y 0, 34, .inl (va_cpy zs10 g (0 : Int32).toNatClampNeg (20 : Int32).toNatClampNeg (5 : Int32).toNatClampNeg)))]) (va_A [(h0, .inr (1, [.ref bv, .int 0, w1, .int 20])), (bv, .inl (y 0, 34, .inl g))] sz)) 0 0 (va_A [(h0, .inr (1, [.ref bv, .int 0, w1, .int 20])), (bv, .inl (y 0, 34, .inl g))] sz) := by
  refine Met.ofW (cc := cJ5_append_cf1ce) (maxL := 3) (ret := (some (.object "java/lang/AbstractStringBuilder"))) (by decide) rfl ?_
  intro p e s m args below meth c s₁ B hml hv
  obtain ⟨rfl, hsz, hP, hK, hD0, hN, hE, hO, hT, hG⟩ := hv
  have hx := B.exec
  have hb := B.bytes
  have hr := B.returns
  have hts := atoms_spec (ws := wz_c_ASBapp_10_20_34) B.pre
  have hown : s.vm.findClass RJ5 = some m.cls := findClass_of_methodNamed B.named
  have hlocks := B.notSynchronized
  subst hsz
  have hD := hD0.self (sz := s.heap.size)
  generalize hAe : va_A [(h0, .inr (1, [.ref bv, .int 0, w1, .int 20])), (bv, .inl (y 0, 34, .inl g))] s.heap.size = A at hD hE hT hG ⊢
  have hA : ∀ q : Nat, s.heap.size ≤ q → A q := fun q h => by rw [← hAe]; exact Or.inr h
  have hS : va_S A s.heap s.heap [] := va_S.rf
  have hl := lv_entry ([.ref h0, .ref sx]) (n := 3) (Nat.le_of_ble_eq_true rfl)
  rw [lg_entry_eq]
  generalize (lg_sl ([.ref h0, .ref sx]) ++ List.replicate (3 - (lg_sl ([.ref h0, .ref sx])).length) Slot.unset).toArray = ls at hl ⊢
  have hl : lv_has ls 3 [(0, .ref h0), (1, .ref sx)] := hl
  refine lv_aload_n hx hb dJ5_append_cf1ce_0 rfl (lv_at hl 1 rfl) ?_
  refine lv_ifnonnull (tgt := 9) hx hb dJ5_append_cf1ce_1 (by decide) ?_
  refine lv_aload_n hx hb dJ5_append_cf1ce_9 rfl (lv_at hl 1 rfl) ?_
  have hPc := hP.sub (ws' := []) [] rfl
  have hDc := hD.sub (ws' := []) [] (by decide) rfl
  have hFc := va_free (wc := []) hD hS hA [] rfl
  refine va_calli (va_runV (As := []) (rest := []) ⟨hx, hb, hml, hown, hts⟩ (c_len_o_5 l D y s.heap.size sx tx zs10) (cwV 0 hts gv_c_ASBapp_10_20_34_c_len_o_5_32 rfl rfl rfl (by decide +kernel) ⟨(Nat.le_of_ble_eq_true rfl), (Nat.le_of_ble_eq_true rfl)⟩) (zB.preV hPc hDc hK hN hE hO hT hG hS hFc (fun _ h => nomatch h) (List.forall_mem_cons.mpr ⟨List.mem_of_getElem? (i := 0) rfl, (fun _ h => nomatch h)⟩) (fun _ h => nomatch h) (List.forall_mem_cons.mpr ⟨List.mem_of_getElem? (i := 0) rfl, (fun _ h => nomatch h)⟩) (zStr.recv (show zStr sx tx 5 zs10 A s s.heap from (hG (.inr (.inl (sx, tx, 5, zs10))) (List.mem_of_getElem? (i := 0) rfl))) hS)) rfl rfl hl.1 rfl (lv_room (Nat.le_of_ble_eq_true rfl)) dJ5_append_cf1ce_10 ⟨(Nat.le_of_ble_eq_true rfl), (Nat.le_of_ble_eq_true rfl)⟩) hS (fun q _ h => hFc q h) hFc (fun r1 u t H1 locs ht hvm hw hB hz1 hk1 hS => ?_)
  obtain ⟨hP1, hD1⟩ := hB
  rw [ht] at hP1
  obtain ⟨hP, hD⟩ := va_join (wr := [(h0, .inr (1, [.ref bv, .int 0, w1, .int 20])), (bv, .inl (y 0, 34, .inl g))]) (w1 := []) hP hD [] [0, 1] rfl rfl (by decide) (by decide) hk1 hFc hP1 hD1
  generalize H1 = H at hP hS ⊢
  have hP : va_P D vwCl [(h0, .inr (1, [.ref bv, .int 0, w1, .int 20])), (bv, .inl (y 0, 34, .inl g))] H := hP
  have hD : va_D A [(h0, .inr (1, [.ref bv, .int 0, w1, .int 20])), (bv, .inl (y 0, 34, .inl g))] := hD
  have hw : r1 = 5 := hw
  subst hw
  refine lv_istore_n (lv' := [(2, .int 5), (0, .ref h0), (1, .ref sx)]) hx hb dJ5_append_cf1ce_13 rfl hl (by decide) rfl (fun ls hl => ?_)
  refine lv_aload_n hx hb dJ5_append_cf1ce_14 rfl (lv_at hl 1 rfl) ?_
  refine lv_aload_n hx hb dJ5_append_cf1ce_15 rfl (lv_at hl 1 rfl) ?_
  refine va_get (D := D) (ci := 1) (v := .int 20) (C := RJ4) (T := TJ4) (N := 4) hx hb hts (by decide +kernel) hown hK hP 0 rfl rfl 3 (by decide) (hts (.fieldLink RJ5 79 "java/lang/AbstractStringBuilder" "count" "I") (by decide +kernel)) (fun _ h9 => h9) rfl dJ5_append_cf1ce_16 ?_
  refine lv_iload_n hx hb dJ5_append_cf1ce_19 rfl (lv_at hl 0 rfl) ?_
  refine lv_iadd hx hb dJ5_append_cf1ce_20 ?_
  refine lv_topi (fun v2 ev2 => ?_)
  have ev2 : v2 = 25 := ev2.trans (by decide +kernel)
  subst ev2
  have hPc := hP.sub (ws' := [(h0, .inr (1, [.ref bv, .int 0, w1, .int 20])), (bv, .inl (y 0, 34, .inl g))]) [0, 1] rfl
  have hDc := hD.sub (ws' := [(h0, .inr (1, [.ref bv, .int 0, w1, .int 20])), (bv, .inl (y 0, 34, .inl g))]) [0, 1] (by decide) rfl
  have hFc := va_free (wc := [(h0, .inr (1, [.ref bv, .int 0, w1, .int 20])), (bv, .inl (y 0, 34, .inl g))]) hD hS hA [0, 1] rfl
  refine va_callv (va_runU (As := [.int 25]) (rest := []) ⟨hx, hb, hml, hown, hts⟩ (c_ens_34_25 l D y H.size h0 bv w1 ((.int 20)) g) (va_cwU 1 hts gv_c_ASBapp_10_20_34_c_ens_34_25_100 rfl rfl rfl rfl (by decide +kernel) ⟨(Nat.le_of_ble_eq_true rfl), (Nat.le_of_ble_eq_true rfl)⟩) (zB.preV hPc hDc hK hN hE hO hT hG hS hFc (fun _ h => nomatch h) (fun _ h => nomatch h) (fun _ h => nomatch h) (fun _ h => nomatch h) (va_recv hK hPc (ci := 1) (q0 := 0) rfl rfl)) rfl rfl hl.1 rfl (lv_room (Nat.le_of_ble_eq_true rfl)) dJ5_append_cf1ce_21 ⟨(Nat.le_of_ble_eq_true rfl), (Nat.le_of_ble_eq_true rfl)⟩) hS (fun q _ h => hFc q h) hFc (fun u t H1 locs ht hvm hw hB hz1 hk1 hS => ?_)
  obtain ⟨hP1, hD1⟩ := hB
  rw [ht] at hP1
  obtain ⟨hP, hD⟩ := va_join (wr := []) (w1 := [(h0, .inr (1, [.ref bv, .int 0, w1, .int 20])), (bv, .inl (y 0, 34, .inl g))]) hP hD [0, 1] [] rfl rfl (by decide) (by decide) hk1 hFc hP1 hD1
  generalize H1 = H at hP hS ⊢
  have hP : va_P D vwCl [(h0, .inr (1, [.ref bv, .int 0, w1, .int 20])), (bv, .inl (y 0, 34, .inl g))] H := hP
  have hD : va_D A [(h0, .inr (1, [.ref bv, .int 0, w1, .int 20])), (bv, .inl (y 0, 34, .inl g))] := hD
  refine lv_aload_n hx hb dJ5_append_cf1ce_24 rfl (lv_at hl 1 rfl) ?_
  refine lv_aload_n hx hb dJ5_append_cf1ce_25 rfl (lv_at hl 1 rfl) ?_
  refine va_get (D := D) (ci := 1) (v := .int 20) (C := RJ4) (T := TJ4) (N := 4) hx hb hts (by decide +kernel) hown hK hP 0 rfl rfl 3 (by decide) (hts (.fieldLink RJ5 79 "java/lang/AbstractStringBuilder" "count" "I") (by decide +kernel)) (fun _ h9 => h9) rfl dJ5_append_cf1ce_26 ?_
  refine lv_aload_n hx hb dJ5_append_cf1ce_29 rfl (lv_at hl 2 rfl) ?_
  have hPc := hP.sub (ws' := [(h0, .inr (1, [.ref bv, .int 0, w1, .int 20])), (bv, .inl (y 0, 34, .inl g))]) [0, 1] rfl
  have hDc := hD.sub (ws' := [(h0, .inr (1, [.ref bv, .int 0, w1, .int 20])), (bv, .inl (y 0, 34, .inl g))]) [0, 1] (by decide) rfl
  have hFc := va_free (wc := [(h0, .inr (1, [.ref bv, .int 0, w1, .int 20])), (bv, .inl (y 0, 34, .inl g))]) hD hS hA [0, 1] rfl
  refine va_callv (va_runU (As := [.int 20, .ref sx]) (rest := []) ⟨hx, hb, hml, hown, hts⟩ (c_putStr_10_20_34 l D y H.size h0 bv w1 ((.int 20)) sx tx g) (va_cwU 2 hts gv_c_ASBapp_10_20_34_c_putStr_10_20_34_208 rfl rfl rfl rfl (by decide +kernel) ⟨(Nat.le_of_ble_eq_true rfl), (Nat.le_of_ble_eq_true rfl)⟩) (zB.preV hPc hDc hK hN hE hO hT hG hS hFc (fun _ h => nomatch h) (List.forall_mem_cons.mpr ⟨List.mem_of_getElem? (i := 0) rfl, (fun _ h => nomatch h)⟩) (fun _ h => nomatch h) (List.forall_mem_cons.mpr ⟨List.mem_of_getElem? (i := 0) rfl, (fun _ h => nomatch h)⟩) (va_recv hK hPc (ci := 1) (q0 := 0) rfl rfl)) rfl rfl hl.1 rfl (lv_room (Nat.le_of_ble_eq_true rfl)) dJ5_append_cf1ce_30 ⟨(Nat.le_of_ble_eq_true rfl), (Nat.le_of_ble_eq_true rfl)⟩) hS (fun q _ h => hFc q h) hFc (fun u t H1 locs ht hvm hw hB hz1 hk1 hS => ?_)
  obtain ⟨hP1, hD1⟩ := hB
  rw [ht] at hP1
  obtain ⟨hP, hD⟩ := va_join (wr := []) (w1 := [(h0, .inr (1, [.ref bv, .int 0, w1, .int 20])), (bv, .inl (y 0, 34, .inl (va_cpy zs10 g (0 : Int32).toNatClampNeg (20 : Int32).toNatClampNeg (5 : Int32).toNatClampNeg)))]) hP hD [0, 1] [] rfl rfl (by decide) (by decide) hk1 hFc hP1 hD1
  generalize H1 = H at hP hS ⊢
  have hP : va_P D vwCl [(h0, .inr (1, [.ref bv, .int 0, w1, .int 20])), (bv, .inl (y 0, 34, .inl (va_cpy zs10 g (0 : Int32).toNatClampNeg (20 : Int32).toNatClampNeg (5 : Int32).toNatClampNeg)))] H := hP
  have hD : va_D A [(h0, .inr (1, [.ref bv, .int 0, w1, .int 20])), (bv, .inl (y 0, 34, .inl (va_cpy zs10 g (0 : Int32).toNatClampNeg (20 : Int32).toNatClampNeg (5 : Int32).toNatClampNeg)))] := hD
  refine lv_aload_n hx hb dJ5_append_cf1ce_33 rfl (lv_at hl 1 rfl) ?_
  refine lv_dup hx hb dJ5_append_cf1ce_34 rfl ?_
  refine va_get (D := D) (ci := 1) (v := .int 20) (C := RJ4) (T := TJ4) (N := 4) hx hb hts (by decide +kernel) hown hK hP 0 rfl rfl 3 (by decide) (hts (.fieldLink RJ5 79 "java/lang/AbstractStringBuilder" "count" "I") (by decide +kernel)) (fun _ h9 => h9) rfl dJ5_append_cf1ce_35 ?_
  refine lv_iload_n hx hb dJ5_append_cf1ce_38 rfl (lv_at hl 0 rfl) ?_
  refine lv_iadd hx hb dJ5_append_cf1ce_39 ?_
  refine lv_topi (fun v3 ev3 => ?_)
  have ev3 : v3 = 25 := ev3.trans (by decide +kernel)
  subst ev3
  refine va_put (D := D) (ci := 1) (v := .int 25) (ty := .int) (C := RJ4) (T := TJ4) (N := 4) hx hb hts (by decide +kernel) tyJ4 tyJ4_ok nmJ4 hown hK hP hD hS 0 rfl rfl 3 (by decide) (hts (.fieldLink RJ5 79 "java/lang/AbstractStringBuilder" "count" "I") (by decide +kernel)) (fun _ h9 => h9) rfl (by decide +kernel) rfl rfl (Nat.le_of_ble_eq_true rfl) dJ5_append_cf1ce_40 (fun H locs hP hD hS => ?_)
  have hP : va_P D vwCl [(h0, .inr (1, [.ref bv, .int 0, w1, .int 25])), (bv, .inl (y 0, 34, .inl (va_cpy zs10 g (0 : Int32).toNatClampNeg (20 : Int32).toNatClampNeg (5 : Int32).toNatClampNeg)))] H := hP
  have hD : va_D A [(h0, .inr (1, [.ref bv, .int 0, w1, .int 25])), (bv, .inl (y 0, 34, .inl (va_cpy zs10 g (0 : Int32).toNatClampNeg (20 : Int32).toNatClampNeg (5 : Int32).toNatClampNeg)))] := hD
  refine lv_aload_n hx hb dJ5_append_cf1ce_43 rfl (lv_at hl 1 rfl) ?_
  have hP9 := hP.sub (ws' := [(h0, .inr (1, [.ref bv, .int 0, w1, .int 25])), (bv, .inl (y 0, 34, .inl (va_cpy zs10 g (0 : Int32).toNatClampNeg (20 : Int32).toNatClampNeg (5 : Int32).toNatClampNeg)))]) [0, 1] rfl
  have hD9 := hD.sub (ws' := [(h0, .inr (1, [.ref bv, .int 0, w1, .int 25])), (bv, .inl (y 0, 34, .inl (va_cpy zs10 g (0 : Int32).toNatClampNeg (20 : Int32).toNatClampNeg (5 : Int32).toNatClampNeg)))]) [0, 1] (by decide) rfl
  refine W.widen (k := 0) (n := 0) (Nat.le_of_ble_eq_true rfl) (Nat.le_of_ble_eq_true rfl) ?_
  exact W.aret (v := .ref h0) hx hb hr (Or.inl ⟨_, rfl⟩) (Or.inr ⟨_, rfl⟩) (fun t ht hW => ⟨⟨(some h0), (), rfl, rfl, by rw [ht]; exact hP9, hD9⟩, hS.F ht⟩) hS.2.2 dJ5_append_cf1ce_44
def wz_c_SBapp_10_20_34 : List Cond := .code yJ4_append_15ec4 cJ4_append_15ec4 2 (some (.object "java/lang/StringBuilder")) :: ([.methodLink RJ4 29 yJ5_append_cf1ce, .sameMethod RJ5 RJ5 "append" "(Ljava/lang/String;)Ljava/lang/AbstractStringBuilder;", .superclass RJ4 RJ5, .instanceMethod yJ5_append_cf1ce, .initialized RJ5] ++ (wz_c_ASBapp_10_20_34 ++ ([])))
set_option maxRecDepth 100000 in
theorem gz_c_SBapp_10_20_34_c_ASBapp_10_20_34 : GoodIn wz_c_SBapp_10_20_34 wz_c_ASBapp_10_20_34 := goodIn_sub (fun w h => List.mem_cons_of_mem _ (List.mem_append_right _ (List.mem_append_left _ h))) (by decide +kernel)
set_option maxRecDepth 100000 in
theorem gv_c_SBapp_10_20_34_c_ASBapp_10_20_34_29 : GoodIn wz_c_SBapp_10_20_34 (va_wsSU RJ4 29 yJ5_append_cf1ce wz_c_ASBapp_10_20_34) := goodIn_app (goodIn_of _ (by decide +kernel)) gz_c_SBapp_10_20_34_c_ASBapp_10_20_34
set_option maxHeartbeats 4000000 in
set_option maxRecDepth 100000 in
theorem c_SBapp_10_20_34 (l : Launch) (D : va_G) (y : Nat → ClassId) (sz : Nat) (h0 : Nat) (bv : Nat) (w1 : Value) (sx : Nat) (tx : Nat) (g : Nat → Int32) : Met l yJ4_append_15ec4 wz_c_SBapp_10_20_34 ({ frames := 4, cells := 0, slots := 0, locals := 127 }) (va_Pc [.ref h0, .ref sx] (zB D y [(h0, .inr (1, [.ref bv, .int 0, w1, .int 20])), (bv, .inl (y 0, 34, .inl g))] sz [] [("java/lang/String", "COMPACT_STRINGS", "Z", .int 1)] [] [.inr (.inl (sx, tx, 5, zs10))])) (va_Qq (fun (r : Option Nat) (_ : Unit) => r = some h0) (fun _ t => va_P D vwCl [(h0, .inr (1, [.ref bv, .int 0, w1, .int 25])), (bv, .inl (y 0, 34, .inl (va_cpy zs10 g (0 : Int32).toNatClampNeg (20 : Int32).toNatClampNeg (5 : Int32).toNatClampNeg)))] t.heap ∧ va_D (va_A [(h0, .inr (1, [.ref bv, .int 0, w1, .int 20])), (bv, .inl (y 0, 34, .inl g))] sz) [(h0, .inr (1, [.ref bv, .int 0, w1, .int 25])), (bv, .inl (y 0, 34, .inl (va_cpy zs10 g (0 : Int32).toNatClampNeg (20 : Int32).toNatClampNeg (5 : Int32).toNatClampNeg)))]) (va_A [(h0, .inr (1, [.ref bv, .int 0, w1, .int 20])), (bv, .inl (y 0, 34, .inl g))] sz)) 0 0 (va_A [(h0, .inr (1, [.ref bv, .int 0, w1, .int 20])), (bv, .inl (y 0, 34, .inl g))] sz) := by
  refine Met.ofW (cc := cJ4_append_15ec4) (maxL := 2) (ret := (some (.object "java/lang/StringBuilder"))) (by decide) rfl ?_
  intro p e s m args below meth c s₁ B hml hv
  obtain ⟨rfl, hsz, hP, hK, hD0, hN, hE, hO, hT, hG⟩ := hv
  have hx := B.exec
  have hb := B.bytes
  have hr := B.returns
  have hts := atoms_spec (ws := wz_c_SBapp_10_20_34) B.pre
  have hown : s.vm.findClass RJ4 = some m.cls := findClass_of_methodNamed B.named
  have hlocks := B.notSynchronized
  subst hsz
  have hD := hD0.self (sz := s.heap.size)
  generalize hAe : va_A [(h0, .inr (1, [.ref bv, .int 0, w1, .int 20])), (bv, .inl (y 0, 34, .inl g))] s.heap.size = A at hD hE hT hG ⊢
  have hA : ∀ q : Nat, s.heap.size ≤ q → A q := fun q h => by rw [← hAe]; exact Or.inr h
  have hS : va_S A s.heap s.heap [] := va_S.rf
  have hl := lv_entry ([.ref h0, .ref sx]) (n := 2) (Nat.le_of_ble_eq_true rfl)
  rw [lg_entry_eq]
  generalize (lg_sl ([.ref h0, .ref sx]) ++ List.replicate (2 - (lg_sl ([.ref h0, .ref sx])).length) Slot.unset).toArray = ls at hl ⊢
  have hl : lv_has ls 2 [(0, .ref h0), (1, .ref sx)] := hl
  refine lv_aload_n hx hb dJ4_append_15ec4_0 rfl (lv_at hl 0 rfl) ?_
  refine lv_aload_n hx hb dJ4_append_15ec4_1 rfl (lv_at hl 1 rfl) ?_
  have hPc := hP.sub (ws' := [(h0, .inr (1, [.ref bv, .int 0, w1, .int 20])), (bv, .inl (y 0, 34, .inl g))]) [0, 1] rfl
  have hDc := hD.sub (ws' := [(h0, .inr (1, [.ref bv, .int 0, w1, .int 20])), (bv, .inl (y 0, 34, .inl g))]) [0, 1] (by decide) rfl
  have hFc := va_free (wc := [(h0, .inr (1, [.ref bv, .int 0, w1, .int 20])), (bv, .inl (y 0, 34, .inl g))]) hD hS hA [0, 1] rfl
  refine va_callq (va_runSU (hK.1 1 _ rfl).2 (As := [.ref sx]) (rest := []) ⟨hx, hb, hml, hown, hts⟩ (c_ASBapp_10_20_34 l D y s.heap.size h0 bv w1 sx tx g) (va_cwSU 1 hts gv_c_SBapp_10_20_34_c_ASBapp_10_20_34_29 rfl rfl rfl (by decide +kernel) ⟨(Nat.le_of_ble_eq_true rfl), (Nat.le_of_ble_eq_true rfl)⟩) (zB.preV hPc hDc hK hN hE hO hT hG hS hFc (fun _ h => nomatch h) (List.forall_mem_cons.mpr ⟨List.mem_of_getElem? (i := 0) rfl, (fun _ h => nomatch h)⟩) (fun _ h => nomatch h) (List.forall_mem_cons.mpr ⟨List.mem_of_getElem? (i := 0) rfl, (fun _ h => nomatch h)⟩) (va_recv hK hPc (ci := 1) (q0 := 0) rfl rfl)) rfl rfl hl.1 rfl (lv_room (Nat.le_of_ble_eq_true rfl)) dJ4_append_15ec4_2 ⟨(Nat.le_of_ble_eq_true rfl), (Nat.le_of_ble_eq_true rfl)⟩) hS (fun q _ h => hFc q h) hFc (fun r1 u t H1 locs ht hvm hw hB hz1 hk1 hS => ?_)
  obtain ⟨hP1, hD1⟩ := hB
  rw [ht] at hP1
  obtain ⟨hP, hD⟩ := va_join (wr := []) (w1 := [(h0, .inr (1, [.ref bv, .int 0, w1, .int 25])), (bv, .inl (y 0, 34, .inl (va_cpy zs10 g (0 : Int32).toNatClampNeg (20 : Int32).toNatClampNeg (5 : Int32).toNatClampNeg)))]) hP hD [0, 1] [] rfl rfl (by decide) (by decide) hk1 hFc hP1 hD1
  generalize H1 = H at hP hS ⊢
  have hP : va_P D vwCl [(h0, .inr (1, [.ref bv, .int 0, w1, .int 25])), (bv, .inl (y 0, 34, .inl (va_cpy zs10 g (0 : Int32).toNatClampNeg (20 : Int32).toNatClampNeg (5 : Int32).toNatClampNeg)))] H := hP
  have hD : va_D A [(h0, .inr (1, [.ref bv, .int 0, w1, .int 25])), (bv, .inl (y 0, 34, .inl (va_cpy zs10 g (0 : Int32).toNatClampNeg (20 : Int32).toNatClampNeg (5 : Int32).toNatClampNeg)))] := hD
  have hw : r1 = some h0 := hw
  subst hw
  refine W.eq (g2 := F0 m 5 ls [.ref h0]) rfl ?_
  refine lv_pop hx hb dJ4_append_15ec4_5 rfl ?_
  refine lv_aload_n hx hb dJ4_append_15ec4_6 rfl (lv_at hl 0 rfl) ?_
  have hP9 := hP.sub (ws' := [(h0, .inr (1, [.ref bv, .int 0, w1, .int 25])), (bv, .inl (y 0, 34, .inl (va_cpy zs10 g (0 : Int32).toNatClampNeg (20 : Int32).toNatClampNeg (5 : Int32).toNatClampNeg)))]) [0, 1] rfl
  have hD9 := hD.sub (ws' := [(h0, .inr (1, [.ref bv, .int 0, w1, .int 25])), (bv, .inl (y 0, 34, .inl (va_cpy zs10 g (0 : Int32).toNatClampNeg (20 : Int32).toNatClampNeg (5 : Int32).toNatClampNeg)))]) [0, 1] (by decide) rfl
  refine W.widen (k := 0) (n := 0) (Nat.le_of_ble_eq_true rfl) (Nat.le_of_ble_eq_true rfl) ?_
  exact W.aret (v := .ref h0) hx hb hr (Or.inl ⟨_, rfl⟩) (Or.inr ⟨_, rfl⟩) (fun t ht hW => ⟨⟨(some h0), (), rfl, rfl, by rw [ht]; exact hP9, hD9⟩, hS.F ht⟩) hS.2.2 dJ4_append_15ec4_7
def zk8 : Nat → Int32 := va_cpy zs10 zk7 (0 : Int32).toNatClampNeg (20 : Int32).toNatClampNeg (5 : Int32).toNatClampNeg
def wz_c_chkLen_25 : List Cond := .code yJ7_checkLength_df160 cJ7_checkLength_df160 2 none :: ([] ++ ([]))
set_option maxHeartbeats 4000000 in
set_option maxRecDepth 100000 in
theorem c_chkLen_25 (l : Launch) (D : va_G) (y : Nat → ClassId) (sz : Nat)  : Met l yJ7_checkLength_df160 wz_c_chkLen_25 ({ frames := 0, cells := 0, slots := 0, locals := 0 }) (va_Pc [.int 0, .int 25] (zB D y [] sz [] [] [] [])) (va_Qv (fun _ : Unit => True) (fun _ t => va_P D vwCl [] t.heap ∧ va_D (va_A [] sz) []) (va_A [] sz)) 0 0 (va_A [] sz) := by
  refine Met.ofW (cc := cJ7_checkLength_df160) (maxL := 2) (ret := none) (by decide) rfl ?_
  intro p e s m args below meth c s₁ B hml hv
  obtain ⟨rfl, hsz, hP, hK, hD0, hN, hE, hO, hT, hG⟩ := hv
  have hx := B.exec
  have hb := B.bytes
  have hr := B.returns
  have hts := atoms_spec (ws := wz_c_chkLen_25) B.pre
  have hown : s.vm.findClass RJ7 = some m.cls := findClass_of_methodNamed B.named
  have hlocks := B.notSynchronized
  subst hsz
  have hD := hD0.self (sz := s.heap.size)
  generalize hAe : va_A [] s.heap.size = A at hD hE hT hG ⊢
  have hA : ∀ q : Nat, s.heap.size ≤ q → A q := fun q h => by rw [← hAe]; exact Or.inr h
  have hS : va_S A s.heap s.heap [] := va_S.rf
  have hl := lv_entry ([.int 0, .int 25]) (n := 2) (Nat.le_of_ble_eq_true rfl)
  rw [lg_entry_eq]
  generalize (lg_sl ([.int 0, .int 25]) ++ List.replicate (2 - (lg_sl ([.int 0, .int 25])).length) Slot.unset).toArray = ls at hl ⊢
  have hl : lv_has ls 2 [(0, .int 0), (1, .int 25)] := hl
  refine lv_iload_n hx hb dJ7_checkLength_df160_0 rfl (lv_at hl 1 rfl) ?_
  refine lv_iload_n hx hb dJ7_checkLength_df160_1 rfl (lv_at hl 0 rfl) ?_
  refine lv_icmp_ge (tgt := 37) hx hb dJ7_checkLength_df160_2 (by decide) (fun _ => ?_) (fun c9 => absurd (by decide) c9)
  have hP9 := hP.sub (ws' := []) [] rfl
  have hD9 := hD.sub (ws' := []) [] (by decide) rfl
  refine W.widen (k := 0) (n := 0) (Nat.le_of_ble_eq_true rfl) (Nat.le_of_ble_eq_true rfl) ?_
  exact W.vret hx hb hr (fun t ht hW => ⟨⟨(), rfl, trivial, by rw [ht]; exact hP9, hD9⟩, hS.F ht⟩) hS.2.2 dJ7_checkLength_df160_37
def zk9 : Nat → Int32 := va_cpy zk8 (fun _ => 0) (0 : Int32).toNatClampNeg (0 : Int32).toNatClampNeg (25 : Int32).toNatClampNeg
def wz_c_cRB_e0 : List Cond := .code yJ7_copyOfRangeByte_39247 cJ7_copyOfRangeByte_39247 5 (some (.array .byte)) :: ([.methodLink RJ7 343 yJ7_checkLength_df160, .static yJ7_checkLength_df160, .initialized RJ7, .arrayClass .byte, .methodLink RJ7 304 Lib.Math.min.name, .static Lib.Math.min.name, .initialized "java/lang/Math", .code Lib.Math.min.name Lib.Math.min.code 2 (some .int), .methodLink RJ7 150 arraycopyName, .native arraycopyName, .static arraycopyName, .initialized "java/lang/System"] ++ (wz_c_chkLen_25 ++ ([])))
set_option maxRecDepth 100000 in
theorem gz_c_cRB_e0_c_chkLen_25 : GoodIn wz_c_cRB_e0 wz_c_chkLen_25 := goodIn_sub (fun w h => List.mem_cons_of_mem _ (List.mem_append_right _ (List.mem_append_left _ h))) (by decide +kernel)
set_option maxRecDepth 100000 in
theorem gv_c_cRB_e0_c_chkLen_25_343 : GoodIn wz_c_cRB_e0 (va_wsS RJ7 343 yJ7_checkLength_df160 wz_c_chkLen_25) := goodIn_app (goodIn_of _ (by decide +kernel)) gz_c_cRB_e0_c_chkLen_25
set_option maxHeartbeats 4000000 in
set_option maxRecDepth 100000 in
theorem c_cRB_e0 (l : Launch) (D : va_G) (y : Nat → ClassId) (sz : Nat) (bv : Nat) : Met l yJ7_copyOfRangeByte_39247 wz_c_cRB_e0 ({ frames := 1, cells := 1, slots := 25, locals := 60 }) (va_Pc [.ref bv, .int 0, .int 25] (zB D y [(bv, .inl (y 0, 34, .inl zk8))] sz [] [] [] [])) (va_Qr (fun _ : Unit => True) (fun _ q2 t => va_P D vwCl [(bv, .inl (y 0, 34, .inl zk8)), (q2, .inl (y 0, 25, .inl zk9))] t.heap ∧ va_D (va_A [(bv, .inl (y 0, 34, .inl zk8))] sz) [(bv, .inl (y 0, 34, .inl zk8)), (q2, .inl (y 0, 25, .inl zk9))]) (va_A [(bv, .inl (y 0, 34, .inl zk8))] sz)) 1 25 (va_A [(bv, .inl (y 0, 34, .inl zk8))] sz) := by
  refine Met.ofW (cc := cJ7_copyOfRangeByte_39247) (maxL := 5) (ret := (some (.array .byte))) (by decide) rfl ?_
  intro p e s m args below meth c s₁ B hml hv
  obtain ⟨rfl, hsz, hP, hK, hD0, hN, hE, hO, hT, hG⟩ := hv
  have hx := B.exec
  have hb := B.bytes
  have hr := B.returns
  have hts := atoms_spec (ws := wz_c_cRB_e0) B.pre
  have hown : s.vm.findClass RJ7 = some m.cls := findClass_of_methodNamed B.named
  have hlocks := B.notSynchronized
  subst hsz
  have hD := hD0.self (sz := s.heap.size)
  generalize hAe : va_A [(bv, .inl (y 0, 34, .inl zk8))] s.heap.size = A at hD hE hT hG ⊢
  have hA : ∀ q : Nat, s.heap.size ≤ q → A q := fun q h => by rw [← hAe]; exact Or.inr h
  have hS : va_S A s.heap s.heap [] := va_S.rf
  have hl := lv_entry ([.ref bv, .int 0, .int 25]) (n := 5) (Nat.le_of_ble_eq_true rfl)
  rw [lg_entry_eq]
  generalize (lg_sl ([.ref bv, .int 0, .int 25]) ++ List.replicate (5 - (lg_sl ([.ref bv, .int 0, .int 25])).length) Slot.unset).toArray = ls at hl ⊢
  have hl : lv_has ls 5 [(0, .ref bv), (1, .int 0), (2, .int 25)] := hl
  refine lv_iload_n hx hb dJ7_copyOfRangeByte_39247_0 rfl (lv_at hl 1 rfl) ?_
  refine lv_iload_n hx hb dJ7_copyOfRangeByte_39247_1 rfl (lv_at hl 2 rfl) ?_
  have hPc := hP.sub (ws' := []) [] rfl
  have hDc := hD.sub (ws' := []) [] (by decide) rfl
  have hFc := va_free (wc := []) hD hS hA [] rfl
  refine va_callv (va_runS (As := [.int 0, .int 25]) (rest := []) ⟨hx, hb, hml, hown, hts⟩ (c_chkLen_25 l D y s.heap.size ) (va_cwS 2 hts gv_c_cRB_e0_c_chkLen_25_343 rfl rfl rfl (by decide +kernel) ⟨(Nat.le_of_ble_eq_true rfl), (Nat.le_of_ble_eq_true rfl)⟩) (zB.preS hPc hDc hK hN hE hO hT hG hS hFc (fun _ h => nomatch h) (fun _ h => nomatch h) (fun _ h => nomatch h) (fun _ h => nomatch h)) rfl rfl hl.1 rfl (lv_room (Nat.le_of_ble_eq_true rfl)) dJ7_copyOfRangeByte_39247_2 ⟨(Nat.le_of_ble_eq_true rfl), (Nat.le_of_ble_eq_true rfl)⟩) hS (fun q _ h => hFc q h) hFc (fun u t H1 locs ht hvm hw hB hz1 hk1 hS => ?_)
  obtain ⟨hP1, hD1⟩ := hB
  rw [ht] at hP1
  obtain ⟨hP, hD⟩ := va_join (wr := [(bv, .inl (y 0, 34, .inl zk8))]) (w1 := []) hP hD [] [0] rfl rfl (by decide) (by decide) hk1 hFc hP1 hD1
  generalize H1 = H at hP hS ⊢
  have hP : va_P D vwCl [(bv, .inl (y 0, 34, .inl zk8))] H := hP
  have hD : va_D A [(bv, .inl (y 0, 34, .inl zk8))] := hD
  refine lv_iload_n hx hb dJ7_copyOfRangeByte_39247_5 rfl (lv_at hl 2 rfl) ?_
  refine lv_iload_n hx hb dJ7_copyOfRangeByte_39247_6 rfl (lv_at hl 1 rfl) ?_
  refine lv_isub hx hb dJ7_copyOfRangeByte_39247_7 ?_
  refine lv_topi (fun v1 ev1 => ?_)
  have ev1 : v1 = 25 := ev1.trans (by decide +kernel)
  subst ev1
  refine lv_istore_n (lv' := [(3, .int 25), (0, .ref bv), (1, .int 0), (2, .int 25)]) hx hb dJ7_copyOfRangeByte_39247_8 rfl hl (by decide) rfl (fun ls hl => ?_)
  refine lv_iload_n hx hb dJ7_copyOfRangeByte_39247_9 rfl (lv_at hl 0 rfl) ?_
  refine zz_newa (atype := .byte) (n := 25) (N' := 25) (a0 := (25, .inl (fun _ => 0))) (ty := .byte) hx hb (hts (.arrayClass .byte) (by decide +kernel)) rfl hK 0 rfl hP hD hS hA (zz_aB 25) (by decide +kernel) (by decide +kernel) (by decide +kernel) (Nat.le_of_ble_eq_true rfl) (Nat.le_of_ble_eq_true rfl) dJ7_copyOfRangeByte_39247_10 (fun q2 H hP hD hS => ?_)
  have hP : va_P D vwCl [(bv, .inl (y 0, 34, .inl zk8)), (q2, .inl (y 0, 25, .inl (fun _ => 0)))] H := hP
  have hD : va_D A [(bv, .inl (y 0, 34, .inl zk8)), (q2, .inl (y 0, 25, .inl (fun _ => 0)))] := hD
  refine lv_astore (lv' := [(4, .ref q2), (3, .int 25), (0, .ref bv), (1, .int 0), (2, .int 25)]) hx hb dJ7_copyOfRangeByte_39247_12 hl (by decide) rfl (fun ls hl => ?_)
  refine lv_aload_n hx hb dJ7_copyOfRangeByte_39247_14 rfl (lv_at hl 2 rfl) ?_
  refine lv_iload_n hx hb dJ7_copyOfRangeByte_39247_15 rfl (lv_at hl 3 rfl) ?_
  refine lv_aload hx hb dJ7_copyOfRangeByte_39247_16 (lv_at hl 0 rfl) ?_
  refine lv_iconst (v := 0) hx hb dJ7_copyOfRangeByte_39247_18 (by decide) ?_
  refine lv_aload_n hx hb dJ7_copyOfRangeByte_39247_19 rfl (lv_at hl 2 rfl) ?_
  refine va_alen (v := 34) hx hb hK hP 0 0 rfl rfl (show Int32.ofNat 34 = (34 : Int32) from by decide) dJ7_copyOfRangeByte_39247_20 ?_
  refine lv_iload_n hx hb dJ7_copyOfRangeByte_39247_21 rfl (lv_at hl 3 rfl) ?_
  refine lv_isub hx hb dJ7_copyOfRangeByte_39247_22 ?_
  refine lv_topi (fun v3 ev3 => ?_)
  have ev3 : v3 = 34 := ev3.trans (by decide +kernel)
  subst ev3
  refine lv_iload_n hx hb dJ7_copyOfRangeByte_39247_23 rfl (lv_at hl 1 rfl) ?_
  refine va_mmin hx hb (hml.trans hl.1.symm) hown (hts (.methodLink RJ7 304 Lib.Math.min.name) (by decide +kernel)) (hts (.static Lib.Math.min.name) (by decide +kernel)) (hts (.initialized "java/lang/Math") (by decide +kernel)) (hts (.code Lib.Math.min.name Lib.Math.min.code 2 (some .int)) (by decide +kernel)) (Nat.le_of_ble_eq_true rfl) (Nat.le_of_ble_eq_true rfl) (Nat.le_of_ble_eq_true rfl) (Nat.le_of_ble_eq_true rfl) dJ7_copyOfRangeByte_39247_24 ?_
  refine lv_topi (fun v4 ev4 => ?_)
  have ev4 : v4 = 25 := ev4.trans (by decide +kernel)
  subst ev4
  refine va_copyi (ty := .byte) (sp := 0) (dp := 0) (n := 25) hx hb (hml.trans hl.1.symm) hown (hts (.methodLink RJ7 150 arraycopyName) (by decide +kernel)) (hts (.native arraycopyName) (by decide +kernel)) (hts (.static arraycopyName) (by decide +kernel)) (hts (.initialized "java/lang/System") (by decide +kernel)) hK hP hD hS 0 1 0 0 rfl rfl rfl rfl rfl (by decide +kernel) (by decide +kernel) (by decide +kernel) (by decide +kernel) (by decide +kernel) (by decide +kernel) (Nat.le_of_ble_eq_true rfl) (Nat.le_of_ble_eq_true rfl) dJ7_copyOfRangeByte_39247_27 (fun H locs hP hD hS => ?_)
  have hP : va_P D vwCl [(bv, .inl (y 0, 34, .inl zk8)), (q2, .inl (y 0, 25, .inl zk9))] H := hP
  have hD : va_D A [(bv, .inl (y 0, 34, .inl zk8)), (q2, .inl (y 0, 25, .inl zk9))] := hD
  refine lv_aload hx hb dJ7_copyOfRangeByte_39247_30 (lv_at hl 0 rfl) ?_
  have hP9 := hP.sub (ws' := [(bv, .inl (y 0, 34, .inl zk8)), (q2, .inl (y 0, 25, .inl zk9))]) [0, 1] rfl
  have hD9 := hD.sub (ws' := [(bv, .inl (y 0, 34, .inl zk8)), (q2, .inl (y 0, 25, .inl zk9))]) [0, 1] (by decide) rfl
  refine W.widen (k := 1) (n := 25) (Nat.le_of_ble_eq_true rfl) (Nat.le_of_ble_eq_true rfl) ?_
  exact W.aret (v := .ref q2) hx hb hr (Or.inr ⟨_, rfl⟩) (Or.inr ⟨_, rfl⟩) (fun t ht hW => ⟨⟨(), q2, rfl, trivial, by rw [ht]; exact hP9, hD9⟩, hS.F ht⟩) hS.2.2 dJ7_copyOfRangeByte_39247_32
def wz_c_cR_e0 : List Cond := .code yJ7_copyOfRange_39247 cJ7_copyOfRange_39247 3 (some (.array .byte)) :: ([.methodLink RJ7 339 yJ7_copyOfRangeByte_39247, .static yJ7_copyOfRangeByte_39247, .initialized RJ7] ++ (wz_c_cRB_e0 ++ ([])))
set_option maxRecDepth 100000 in
theorem gz_c_cR_e0_c_cRB_e0 : GoodIn wz_c_cR_e0 wz_c_cRB_e0 := goodIn_sub (fun w h => List.mem_cons_of_mem _ (List.mem_append_right _ (List.mem_append_left _ h))) (by decide +kernel)
set_option maxRecDepth 100000 in
theorem gv_c_cR_e0_c_cRB_e0_339 : GoodIn wz_c_cR_e0 (va_wsS RJ7 339 yJ7_copyOfRangeByte_39247 wz_c_cRB_e0) := goodIn_app (goodIn_of _ (by decide +kernel)) gz_c_cR_e0_c_cRB_e0
set_option maxHeartbeats 4000000 in
set_option maxRecDepth 100000 in
theorem c_cR_e0 (l : Launch) (D : va_G) (y : Nat → ClassId) (sz : Nat) (bv : Nat) : Met l yJ7_copyOfRange_39247 wz_c_cR_e0 ({ frames := 2, cells := 1, slots := 25, locals := 84 }) (va_Pc [.ref bv, .int 0, .int 25] (zB D y [(bv, .inl (y 0, 34, .inl zk8))] sz [] [] [] [])) (va_Qr (fun _ : Unit => True) (fun _ r1 t => va_P D vwCl [(bv, .inl (y 0, 34, .inl zk8)), (r1, .inl (y 0, 25, .inl zk9))] t.heap ∧ va_D (va_A [(bv, .inl (y 0, 34, .inl zk8))] sz) [(bv, .inl (y 0, 34, .inl zk8)), (r1, .inl (y 0, 25, .inl zk9))]) (va_A [(bv, .inl (y 0, 34, .inl zk8))] sz)) 1 25 (va_A [(bv, .inl (y 0, 34, .inl zk8))] sz) := by
  refine Met.ofW (cc := cJ7_copyOfRange_39247) (maxL := 3) (ret := (some (.array .byte))) (by decide) rfl ?_
  intro p e s m args below meth c s₁ B hml hv
  obtain ⟨rfl, hsz, hP, hK, hD0, hN, hE, hO, hT, hG⟩ := hv
  have hx := B.exec
  have hb := B.bytes
  have hr := B.returns
  have hts := atoms_spec (ws := wz_c_cR_e0) B.pre
  have hown : s.vm.findClass RJ7 = some m.cls := findClass_of_methodNamed B.named
  have hlocks := B.notSynchronized
  subst hsz
  have hD := hD0.self (sz := s.heap.size)
  generalize hAe : va_A [(bv, .inl (y 0, 34, .inl zk8))] s.heap.size = A at hD hE hT hG ⊢
  have hA : ∀ q : Nat, s.heap.size ≤ q → A q := fun q h => by rw [← hAe]; exact Or.inr h
  have hS : va_S A s.heap s.heap [] := va_S.rf
  have hl := lv_entry ([.ref bv, .int 0, .int 25]) (n := 3) (Nat.le_of_ble_eq_true rfl)
  rw [lg_entry_eq]
  generalize (lg_sl ([.ref bv, .int 0, .int 25]) ++ List.replicate (3 - (lg_sl ([.ref bv, .int 0, .int 25])).length) Slot.unset).toArray = ls at hl ⊢
  have hl : lv_has ls 3 [(0, .ref bv), (1, .int 0), (2, .int 25)] := hl
  refine lv_iload_n hx hb dJ7_copyOfRange_39247_0 rfl (lv_at hl 1 rfl) ?_
  refine lv_if_ne (tgt := 10) hx hb dJ7_copyOfRange_39247_1 (by decide) (fun c9 => absurd (by decide) c9) (fun _ => ?_)
  refine lv_iload_n hx hb dJ7_copyOfRange_39247_4 rfl (lv_at hl 2 rfl) ?_
  refine lv_aload_n hx hb dJ7_copyOfRange_39247_5 rfl (lv_at hl 0 rfl) ?_
  refine va_alen (v := 34) hx hb hK hP 0 0 rfl rfl (show Int32.ofNat 34 = (34 : Int32) from by decide) dJ7_copyOfRange_39247_6 ?_
  refine lv_icmp_eq (tgt := 17) hx hb dJ7_copyOfRange_39247_7 (by decide) (fun c9 => absurd c9 (by decide)) (fun _ => ?_)
  refine lv_aload_n hx hb dJ7_copyOfRange_39247_10 rfl (lv_at hl 0 rfl) ?_
  refine lv_iload_n hx hb dJ7_copyOfRange_39247_11 rfl (lv_at hl 1 rfl) ?_
  refine lv_iload_n hx hb dJ7_copyOfRange_39247_12 rfl (lv_at hl 2 rfl) ?_
  have hPc := hP.sub (ws' := [(bv, .inl (y 0, 34, .inl zk8))]) [0] rfl
  have hDc := hD.sub (ws' := [(bv, .inl (y 0, 34, .inl zk8))]) [0] (by decide) rfl
  have hFc := va_free (wc := [(bv, .inl (y 0, 34, .inl zk8))]) hD hS hA [0] rfl
  refine va_callr (va_runS (As := [.ref bv, .int 0, .int 25]) (rest := []) ⟨hx, hb, hml, hown, hts⟩ (c_cRB_e0 l D y s.heap.size bv) (va_cwS 3 hts gv_c_cR_e0_c_cRB_e0_339 rfl rfl rfl (by decide +kernel) ⟨(Nat.le_of_ble_eq_true rfl), (Nat.le_of_ble_eq_true rfl)⟩) (zB.preS hPc hDc hK hN hE hO hT hG hS hFc (fun _ h => nomatch h) (fun _ h => nomatch h) (fun _ h => nomatch h) (fun _ h => nomatch h)) rfl rfl hl.1 rfl (lv_room (Nat.le_of_ble_eq_true rfl)) dJ7_copyOfRange_39247_13 ⟨(Nat.le_of_ble_eq_true rfl), (Nat.le_of_ble_eq_true rfl)⟩) hS (fun q _ h => hFc q h) hFc (fun u r1 t H1 locs ht hvm hw hB hz1 hk1 hS => ?_)
  obtain ⟨hP1, hD1⟩ := hB
  rw [ht] at hP1
  obtain ⟨hP, hD⟩ := va_join (wr := []) (w1 := [(bv, .inl (y 0, 34, .inl zk8)), (r1, .inl (y 0, 25, .inl zk9))]) hP hD [0] [] rfl rfl (by decide) (by decide) hk1 hFc hP1 hD1
  generalize H1 = H at hP hS ⊢
  have hP : va_P D vwCl [(bv, .inl (y 0, 34, .inl zk8)), (r1, .inl (y 0, 25, .inl zk9))] H := hP
  have hD : va_D A [(bv, .inl (y 0, 34, .inl zk8)), (r1, .inl (y 0, 25, .inl zk9))] := hD
  have hP9 := hP.sub (ws' := [(bv, .inl (y 0, 34, .inl zk8)), (r1, .inl (y 0, 25, .inl zk9))]) [0, 1] rfl
  have hD9 := hD.sub (ws' := [(bv, .inl (y 0, 34, .inl zk8)), (r1, .inl (y 0, 25, .inl zk9))]) [0, 1] (by decide) rfl
  refine W.widen (k := 1) (n := 25) (Nat.le_of_ble_eq_true rfl) (Nat.le_of_ble_eq_true rfl) ?_
  exact W.aret (v := .ref r1) hx hb hr (Or.inr ⟨_, rfl⟩) (Or.inr ⟨_, rfl⟩) (fun t ht hW => ⟨⟨(), r1, rfl, trivial, by rw [ht]; exact hP9, hD9⟩, hS.F ht⟩) hS.2.2 dJ7_copyOfRange_39247_16
def wz_c_Si1_e0 : List Cond := .code yJ0_init_db425 cJ0_init_db425 5 none :: ([.methodLink RJ0 1 objectInit, .instanceMethod objectInit, .code objectInit ⟨#[0xb1]⟩ 1 none, .methodLink RJ0 552 ⟨"java/lang/AbstractStringBuilder", "getValue", "()[B"⟩, .sameMethod "java/lang/AbstractStringBuilder" "java/lang/AbstractStringBuilder" "getValue" "()[B", .selects RJ4 ⟨"java/lang/AbstractStringBuilder", "getValue", "()[B"⟩ yJ5_getValue_6d5f1, .instanceMethod yJ5_getValue_6d5f1, .initialized RJ5, .methodLink RJ0 549 ⟨"java/lang/AbstractStringBuilder", "length", "()I"⟩, .sameMethod RJ5 RJ5 "length" "()I", .instanceMethod yJ5_length_8abf5, .selects RJ4 ⟨"java/lang/AbstractStringBuilder", "length", "()I"⟩ yJ4_length_8abf5, .instanceMethod yJ4_length_8abf5, .initialized RJ4, .code yJ5_length_8abf5 cJ5_length_8abf5 1 (some .int), .methodLink RJ0 1047 ⟨"java/lang/AbstractStringBuilder", "isLatin1", "()Z"⟩, .sameMethod "java/lang/AbstractStringBuilder" "java/lang/AbstractStringBuilder" "isLatin1" "()Z", .selects RJ4 ⟨"java/lang/AbstractStringBuilder", "isLatin1", "()Z"⟩ yJ5_isLatin1_aae02, .instanceMethod yJ5_isLatin1_aae02, .fieldLink RJ0 15 "java/lang/String" "coder" "B", .methodLink RJ0 54 yJ7_copyOfRange_39247, .static yJ7_copyOfRange_39247, .initialized RJ7, .fieldLink RJ0 9 "java/lang/String" "value" "[B"] ++ (wsJ00 ++ (wz_c_getValue ++ (wz_c_SB_length ++ (wz_c_ASB_isLatin1 ++ (wz_c_cR_e0 ++ ([])))))))
set_option maxRecDepth 100000 in
theorem gz_c_Si1_e0_c_getValue : GoodIn wz_c_Si1_e0 wz_c_getValue := goodIn_sub (fun w h => List.mem_cons_of_mem _ (List.mem_append_right _ (List.mem_append_right _ (List.mem_append_left _ h)))) (by decide +kernel)
set_option maxRecDepth 100000 in
theorem gz_c_Si1_e0_c_SB_length : GoodIn wz_c_Si1_e0 wz_c_SB_length := goodIn_sub (fun w h => List.mem_cons_of_mem _ (List.mem_append_right _ (List.mem_append_right _ (List.mem_append_right _ (List.mem_append_left _ h))))) (by decide +kernel)
set_option maxRecDepth 100000 in
theorem gz_c_Si1_e0_c_ASB_isLatin1 : GoodIn wz_c_Si1_e0 wz_c_ASB_isLatin1 := goodIn_sub (fun w h => List.mem_cons_of_mem _ (List.mem_append_right _ (List.mem_append_right _ (List.mem_append_right _ (List.mem_append_right _ (List.mem_append_left _ h)))))) (by decide +kernel)
set_option maxRecDepth 100000 in
theorem gz_c_Si1_e0_c_cR_e0 : GoodIn wz_c_Si1_e0 wz_c_cR_e0 := goodIn_sub (fun w h => List.mem_cons_of_mem _ (List.mem_append_right _ (List.mem_append_right _ (List.mem_append_right _ (List.mem_append_right _ (List.mem_append_right _ (List.mem_append_left _ h))))))) (by decide +kernel)
set_option maxRecDepth 100000 in
theorem gv_c_Si1_e0_c_getValue_552 : GoodIn wz_c_Si1_e0 (va_wsU RJ0 552 RJ4 "java/lang/AbstractStringBuilder" ⟨"java/lang/AbstractStringBuilder", "getValue", "()[B"⟩ yJ5_getValue_6d5f1 wz_c_getValue) := goodIn_app (goodIn_of _ (by decide +kernel)) gz_c_Si1_e0_c_getValue
set_option maxRecDepth 100000 in
theorem gv_c_Si1_e0_c_SB_length_549 : GoodIn wz_c_Si1_e0 (va_wsO RJ0 549 RJ4 RJ5 ⟨"java/lang/AbstractStringBuilder", "length", "()I"⟩ yJ4_length_8abf5 wz_c_SB_length) := goodIn_app (goodIn_of _ (by decide +kernel)) gz_c_Si1_e0_c_SB_length
set_option maxRecDepth 100000 in
theorem gv_c_Si1_e0_c_ASB_isLatin1_1047 : GoodIn wz_c_Si1_e0 (va_wsU RJ0 1047 RJ4 "java/lang/AbstractStringBuilder" ⟨"java/lang/AbstractStringBuilder", "isLatin1", "()Z"⟩ yJ5_isLatin1_aae02 wz_c_ASB_isLatin1) := goodIn_app (goodIn_of _ (by decide +kernel)) gz_c_Si1_e0_c_ASB_isLatin1
set_option maxRecDepth 100000 in
theorem gv_c_Si1_e0_c_cR_e0_54 : GoodIn wz_c_Si1_e0 (va_wsS RJ0 54 yJ7_copyOfRange_39247 wz_c_cR_e0) := goodIn_app (goodIn_of _ (by decide +kernel)) gz_c_Si1_e0_c_cR_e0
set_option maxHeartbeats 4000000 in
set_option maxRecDepth 100000 in
theorem c_Si1_e0 (l : Launch) (D : va_G) (y : Nat → ClassId) (sz : Nat) (h0 : Nat) (sb : Nat) (bv : Nat) (w1 : Value) : Met l yJ0_init_db425 wz_c_Si1_e0 ({ frames := 3, cells := 1, slots := 25, locals := 106 }) (va_Pc [.ref h0, .ref sb, .null] (zB D y [(h0, .inr (0, [.null, .int 0, .int 0, .int 0])), (sb, .inr (1, [.ref bv, .int 0, w1, .int 25])), (bv, .inl (y 0, 34, .inl zk8))] sz [] [("java/lang/String", "COMPACT_STRINGS", "Z", .int 1)] [] [])) (va_Qv (fun _ : Unit => True) (fun _ t => ∃ r4 : Nat, va_P D vwCl [(h0, .inr (0, [.ref r4, .int 0, .int 0, .int 0])), (sb, .inr (1, [.ref bv, .int 0, w1, .int 25])), (bv, .inl (y 0, 34, .inl zk8)), (r4, .inl (y 0, 25, .inl zk9))] t.heap ∧ va_D (va_A [(h0, .inr (0, [.null, .int 0, .int 0, .int 0])), (sb, .inr (1, [.ref bv, .int 0, w1, .int 25])), (bv, .inl (y 0, 34, .inl zk8))] sz) [(h0, .inr (0, [.ref r4, .int 0, .int 0, .int 0])), (sb, .inr (1, [.ref bv, .int 0, w1, .int 25])), (bv, .inl (y 0, 34, .inl zk8)), (r4, .inl (y 0, 25, .inl zk9))]) (va_A [(h0, .inr (0, [.null, .int 0, .int 0, .int 0])), (sb, .inr (1, [.ref bv, .int 0, w1, .int 25])), (bv, .inl (y 0, 34, .inl zk8))] sz)) 1 25 (va_A [(h0, .inr (0, [.null, .int 0, .int 0, .int 0])), (sb, .inr (1, [.ref bv, .int 0, w1, .int 25])), (bv, .inl (y 0, 34, .inl zk8))] sz) := by
  refine Met.ofW (cc := cJ0_init_db425) (maxL := 5) (ret := none) (by decide) rfl ?_
  intro p e s m args below meth c s₁ B hml hv
  obtain ⟨rfl, hsz, hP, hK, hD0, hN, hE, hO, hT, hG⟩ := hv
  have hx := B.exec
  have hb := B.bytes
  have hr := B.returns
  have hts := atoms_spec (ws := wz_c_Si1_e0) B.pre
  have hown : s.vm.findClass RJ0 = some m.cls := findClass_of_methodNamed B.named
  have hlocks := B.notSynchronized
  have hin : meth.name = "<init>" := (name_of_methodNamed B.named B.method).1
  subst hsz
  have hD := hD0.self (sz := s.heap.size)
  generalize hAe : va_A [(h0, .inr (0, [.null, .int 0, .int 0, .int 0])), (sb, .inr (1, [.ref bv, .int 0, w1, .int 25])), (bv, .inl (y 0, 34, .inl zk8))] s.heap.size = A at hD hE hT hG ⊢
  have hA : ∀ q : Nat, s.heap.size ≤ q → A q := fun q h => by rw [← hAe]; exact Or.inr h
  have hS : va_S A s.heap s.heap [] := va_S.rf
  have hl := lv_entry ([.ref h0, .ref sb, .null]) (n := 5) (Nat.le_of_ble_eq_true rfl)
  rw [lg_entry_eq]
  generalize (lg_sl ([.ref h0, .ref sb, .null]) ++ List.replicate (5 - (lg_sl ([.ref h0, .ref sb, .null])).length) Slot.unset).toArray = ls at hl ⊢
  have hl : lv_has ls 5 [(0, .ref h0), (1, .ref sb), (2, .null)] := hl
  refine lv_aload_n hx hb dJ0_init_db425_0 rfl (lv_at hl 0 rfl) ?_
  refine W.objInit hx hb hown (hts (.methodLink RJ0 1 objectInit) (by decide +kernel)) (hts (.instanceMethod objectInit) (by decide +kernel)) (hts (.code objectInit ⟨#[0xb1]⟩ 1 none) (by decide +kernel)) rfl (by rw [hml]; exact hl.1) rfl dJ0_init_db425_1 (Nat.le_of_ble_eq_true rfl) (Nat.le_of_ble_eq_true rfl) ?_
  refine W.eq (g2 := F0 m 4 ls []) rfl ?_
  refine lv_aload_n hx hb dJ0_init_db425_4 rfl (lv_at hl 1 rfl) ?_
  have hPc := hP.sub (ws' := [(sb, .inr (1, [.ref bv, .int 0, w1, .int 25]))]) [1] rfl
  have hDc := hD.sub (ws' := [(sb, .inr (1, [.ref bv, .int 0, w1, .int 25]))]) [1] (by decide) rfl
  have hFc := va_free (wc := [(sb, .inr (1, [.ref bv, .int 0, w1, .int 25]))]) hD hS hA [1] rfl
  refine va_callq (va_runU (As := []) (rest := []) ⟨hx, hb, hml, hown, hts⟩ (c_getValue l D y s.heap.size sb bv ((.int 0)) w1 ((.int 25))) (va_cwU 0 hts gv_c_Si1_e0_c_getValue_552 rfl rfl rfl rfl (by decide +kernel) ⟨(Nat.le_of_ble_eq_true rfl), (Nat.le_of_ble_eq_true rfl)⟩) (zB.preV hPc hDc hK hN hE hO hT hG hS hFc (fun _ h => nomatch h) (fun _ h => nomatch h) (fun _ h => nomatch h) (fun _ h => nomatch h) (va_recv hK hPc (ci := 1) (q0 := 0) rfl rfl)) rfl rfl hl.1 rfl (lv_room (Nat.le_of_ble_eq_true rfl)) dJ0_init_db425_5 ⟨(Nat.le_of_ble_eq_true rfl), (Nat.le_of_ble_eq_true rfl)⟩) hS (fun q _ h => hFc q h) hFc (fun r1 u t H1 locs ht hvm hw hB hz1 hk1 hS => ?_)
  obtain ⟨hP1, hD1⟩ := hB
  rw [ht] at hP1
  obtain ⟨hP, hD⟩ := va_join (wr := [(h0, .inr (0, [.null, .int 0, .int 0, .int 0])), (bv, .inl (y 0, 34, .inl zk8))]) (w1 := [(sb, .inr (1, [.ref bv, .int 0, w1, .int 25]))]) hP hD [1] [0, 2] rfl rfl (by decide) (by decide) hk1 hFc hP1 hD1
  generalize H1 = H at hP hS ⊢
  have hP : va_P D vwCl [(h0, .inr (0, [.null, .int 0, .int 0, .int 0])), (bv, .inl (y 0, 34, .inl zk8)), (sb, .inr (1, [.ref bv, .int 0, w1, .int 25]))] H := hP
  have hD : va_D A [(h0, .inr (0, [.null, .int 0, .int 0, .int 0])), (bv, .inl (y 0, 34, .inl zk8)), (sb, .inr (1, [.ref bv, .int 0, w1, .int 25]))] := hD
  have hw : r1 = some bv := hw
  subst hw
  refine W.eq (g2 := F0 m 8 ls [.ref bv]) rfl ?_
  refine lv_astore_n (lv' := [(3, .ref bv), (0, .ref h0), (1, .ref sb), (2, .null)]) hx hb dJ0_init_db425_8 rfl hl (by decide) rfl (fun ls hl => ?_)
  refine lv_aload_n hx hb dJ0_init_db425_9 rfl (lv_at hl 2 rfl) ?_
  have hPc := hP.sub (ws' := [(sb, .inr (1, [.ref bv, .int 0, w1, .int 25]))]) [2] rfl
  have hDc := hD.sub (ws' := [(sb, .inr (1, [.ref bv, .int 0, w1, .int 25]))]) [2] (by decide) rfl
  have hFc := va_free (wc := [(sb, .inr (1, [.ref bv, .int 0, w1, .int 25]))]) hD hS hA [2] rfl
  refine va_calli (va_runU (As := []) (rest := []) ⟨hx, hb, hml, hown, hts⟩ (c_SB_length l D y H.size sb ((.ref bv)) ((.int 0)) w1 25) (va_cwO 0 hts gv_c_Si1_e0_c_SB_length_549 rfl rfl rfl (b0 := cJ5_length_8abf5) (m0 := 1) (r0 := (some .int)) (by decide +kernel) (by decide +kernel) ⟨(Nat.le_of_ble_eq_true rfl), (Nat.le_of_ble_eq_true rfl)⟩) (zB.preV hPc hDc hK hN hE hO hT hG hS hFc (fun _ h => nomatch h) (fun _ h => nomatch h) (fun _ h => nomatch h) (fun _ h => nomatch h) (va_recv hK hPc (ci := 1) (q0 := 0) rfl rfl)) rfl rfl hl.1 rfl (lv_room (Nat.le_of_ble_eq_true rfl)) dJ0_init_db425_10 ⟨(Nat.le_of_ble_eq_true rfl), (Nat.le_of_ble_eq_true rfl)⟩) hS (fun q _ h => hFc q h) hFc (fun r2 u t H1 locs ht hvm hw hB hz1 hk1 hS => ?_)
  obtain ⟨hP1, hD1⟩ := hB
  rw [ht] at hP1
  obtain ⟨hP, hD⟩ := va_join (wr := [(h0, .inr (0, [.null, .int 0, .int 0, .int 0])), (bv, .inl (y 0, 34, .inl zk8))]) (w1 := [(sb, .inr (1, [.ref bv, .int 0, w1, .int 25]))]) hP hD [2] [0, 1] rfl rfl (by decide) (by decide) hk1 hFc hP1 hD1
  generalize H1 = H at hP hS ⊢
  have hP : va_P D vwCl [(h0, .inr (0, [.null, .int 0, .int 0, .int 0])), (bv, .inl (y 0, 34, .inl zk8)), (sb, .inr (1, [.ref bv, .int 0, w1, .int 25]))] H := hP
  have hD : va_D A [(h0, .inr (0, [.null, .int 0, .int 0, .int 0])), (bv, .inl (y 0, 34, .inl zk8)), (sb, .inr (1, [.ref bv, .int 0, w1, .int 25]))] := hD
  have hw : r2 = 25 := hw
  subst hw
  refine lv_istore (lv' := [(4, .int 25), (3, .ref bv), (0, .ref h0), (1, .ref sb), (2, .null)]) hx hb dJ0_init_db425_13 hl (by decide) rfl (fun ls hl => ?_)
  refine lv_aload_n hx hb dJ0_init_db425_15 rfl (lv_at hl 3 rfl) ?_
  have hPc := hP.sub (ws' := [(sb, .inr (1, [.ref bv, .int 0, w1, .int 25]))]) [2] rfl
  have hDc := hD.sub (ws' := [(sb, .inr (1, [.ref bv, .int 0, w1, .int 25]))]) [2] (by decide) rfl
  have hFc := va_free (wc := [(sb, .inr (1, [.ref bv, .int 0, w1, .int 25]))]) hD hS hA [2] rfl
  refine va_calli (va_runU (As := []) (rest := []) ⟨hx, hb, hml, hown, hts⟩ (c_ASB_isLatin1 l D y H.size sb ((.ref bv)) w1 ((.int 25))) (va_cwU 0 hts gv_c_Si1_e0_c_ASB_isLatin1_1047 rfl rfl rfl rfl (by decide +kernel) ⟨(Nat.le_of_ble_eq_true rfl), (Nat.le_of_ble_eq_true rfl)⟩) (zB.preV hPc hDc hK hN hE hO hT hG hS hFc (fun _ h => nomatch h) (List.forall_mem_cons.mpr ⟨List.mem_of_getElem? (i := 0) rfl, (fun _ h => nomatch h)⟩) (fun _ h => nomatch h) (fun _ h => nomatch h) (va_recv hK hPc (ci := 1) (q0 := 0) rfl rfl)) rfl rfl hl.1 rfl (lv_room (Nat.le_of_ble_eq_true rfl)) dJ0_init_db425_16 ⟨(Nat.le_of_ble_eq_true rfl), (Nat.le_of_ble_eq_true rfl)⟩) hS (fun q _ h => hFc q h) hFc (fun r3 u t H1 locs ht hvm hw hB hz1 hk1 hS => ?_)
  obtain ⟨hP1, hD1⟩ := hB
  rw [ht] at hP1
  obtain ⟨hP, hD⟩ := va_join (wr := [(h0, .inr (0, [.null, .int 0, .int 0, .int 0])), (bv, .inl (y 0, 34, .inl zk8))]) (w1 := [(sb, .inr (1, [.ref bv, .int 0, w1, .int 25]))]) hP hD [2] [0, 1] rfl rfl (by decide) (by decide) hk1 hFc hP1 hD1
  generalize H1 = H at hP hS ⊢
  have hP : va_P D vwCl [(h0, .inr (0, [.null, .int 0, .int 0, .int 0])), (bv, .inl (y 0, 34, .inl zk8)), (sb, .inr (1, [.ref bv, .int 0, w1, .int 25]))] H := hP
  have hD : va_D A [(h0, .inr (0, [.null, .int 0, .int 0, .int 0])), (bv, .inl (y 0, 34, .inl zk8)), (sb, .inr (1, [.ref bv, .int 0, w1, .int 25]))] := hD
  have hw : r3 = 1 := hw
  subst hw
  refine lv_if_eq (tgt := 41) hx hb dJ0_init_db425_19 (by decide) (fun c9 => absurd c9 (by decide)) (fun _ => ?_)
  refine lv_aload_n hx hb dJ0_init_db425_22 rfl (lv_at hl 2 rfl) ?_
  refine lv_iconst (v := 0) hx hb dJ0_init_db425_23 (by decide) ?_
  refine va_putF (D := D) (ci := 0) (v := .int 0) (ty := .byte) (C := RJ0) (T := TJ0) (N := 4) hx hb hts (by decide +kernel) tyJ0 tyJ0_ok nmJ0 hown hK hP hD hS 0 rfl rfl 1 (by decide) (hts (.fieldLink RJ0 15 "java/lang/String" "coder" "B") (by decide +kernel)) (fun _ h9 => h9) rfl hin rfl (by decide +kernel) rfl rfl (Nat.le_of_ble_eq_true rfl) dJ0_init_db425_24 (fun H locs hP hD hS => ?_)
  have hP : va_P D vwCl [(h0, .inr (0, [.null, .int 0, .int 0, .int 0])), (bv, .inl (y 0, 34, .inl zk8)), (sb, .inr (1, [.ref bv, .int 0, w1, .int 25]))] H := hP
  have hD : va_D A [(h0, .inr (0, [.null, .int 0, .int 0, .int 0])), (bv, .inl (y 0, 34, .inl zk8)), (sb, .inr (1, [.ref bv, .int 0, w1, .int 25]))] := hD
  refine lv_aload_n hx hb dJ0_init_db425_27 rfl (lv_at hl 2 rfl) ?_
  refine lv_aload_n hx hb dJ0_init_db425_28 rfl (lv_at hl 1 rfl) ?_
  refine lv_iconst (v := 0) hx hb dJ0_init_db425_29 (by decide) ?_
  refine lv_iload hx hb dJ0_init_db425_30 (lv_at hl 0 rfl) ?_
  have hPc := hP.sub (ws' := [(bv, .inl (y 0, 34, .inl zk8))]) [1] rfl
  have hDc := hD.sub (ws' := [(bv, .inl (y 0, 34, .inl zk8))]) [1] (by decide) rfl
  have hFc := va_free (wc := [(bv, .inl (y 0, 34, .inl zk8))]) hD hS hA [1] rfl
  refine va_callr (va_runS (As := [.ref bv, .int 0, .int 25]) (rest := [.ref h0]) ⟨hx, hb, hml, hown, hts⟩ (c_cR_e0 l D y H.size bv) (va_cwS 3 hts gv_c_Si1_e0_c_cR_e0_54 rfl rfl rfl (by decide +kernel) ⟨(Nat.le_of_ble_eq_true rfl), (Nat.le_of_ble_eq_true rfl)⟩) (zB.preS hPc hDc hK hN hE hO hT hG hS hFc (fun _ h => nomatch h) (fun _ h => nomatch h) (fun _ h => nomatch h) (fun _ h => nomatch h)) rfl rfl hl.1 rfl (lv_room (Nat.le_of_ble_eq_true rfl)) dJ0_init_db425_32 ⟨(Nat.le_of_ble_eq_true rfl), (Nat.le_of_ble_eq_true rfl)⟩) hS (fun q _ h => hFc q h) hFc (fun u r4 t H1 locs ht hvm hw hB hz1 hk1 hS => ?_)
  obtain ⟨hP1, hD1⟩ := hB
  rw [ht] at hP1
  obtain ⟨hP, hD⟩ := va_join (wr := [(h0, .inr (0, [.null, .int 0, .int 0, .int 0])), (sb, .inr (1, [.ref bv, .int 0, w1, .int 25]))]) (w1 := [(bv, .inl (y 0, 34, .inl zk8)), (r4, .inl (y 0, 25, .inl zk9))]) hP hD [1] [0, 2] rfl rfl (by decide) (by decide) hk1 hFc hP1 hD1
  generalize H1 = H at hP hS ⊢
  have hP : va_P D vwCl [(h0, .inr (0, [.null, .int 0, .int 0, .int 0])), (sb, .inr (1, [.ref bv, .int 0, w1, .int 25])), (bv, .inl (y 0, 34, .inl zk8)), (r4, .inl (y 0, 25, .inl zk9))] H := hP
  have hD : va_D A [(h0, .inr (0, [.null, .int 0, .int 0, .int 0])), (sb, .inr (1, [.ref bv, .int 0, w1, .int 25])), (bv, .inl (y 0, 34, .inl zk8)), (r4, .inl (y 0, 25, .inl zk9))] := hD
  refine va_putF (D := D) (ci := 0) (v := .ref r4) (ty := (.array .byte)) (C := RJ0) (T := TJ0) (N := 4) hx hb hts (by decide +kernel) tyJ0 tyJ0_ok nmJ0 hown hK hP hD hS 0 rfl rfl 0 (by decide) (hts (.fieldLink RJ0 9 "java/lang/String" "value" "[B") (by decide +kernel)) (fun _ h9 => h9) rfl hin rfl (by decide +kernel) rfl rfl (Nat.le_of_ble_eq_true rfl) dJ0_init_db425_35 (fun H locs hP hD hS => ?_)
  have hP : va_P D vwCl [(h0, .inr (0, [.ref r4, .int 0, .int 0, .int 0])), (sb, .inr (1, [.ref bv, .int 0, w1, .int 25])), (bv, .inl (y 0, 34, .inl zk8)), (r4, .inl (y 0, 25, .inl zk9))] H := hP
  have hD : va_D A [(h0, .inr (0, [.ref r4, .int 0, .int 0, .int 0])), (sb, .inr (1, [.ref bv, .int 0, w1, .int 25])), (bv, .inl (y 0, 34, .inl zk8)), (r4, .inl (y 0, 25, .inl zk9))] := hD
  refine lv_goto (tgt := 97) hx hb dJ0_init_db425_38 (by decide) ?_
  have hP9 := hP.sub (ws' := [(h0, .inr (0, [.ref r4, .int 0, .int 0, .int 0])), (sb, .inr (1, [.ref bv, .int 0, w1, .int 25])), (bv, .inl (y 0, 34, .inl zk8)), (r4, .inl (y 0, 25, .inl zk9))]) [0, 1, 2, 3] rfl
  have hD9 := hD.sub (ws' := [(h0, .inr (0, [.ref r4, .int 0, .int 0, .int 0])), (sb, .inr (1, [.ref bv, .int 0, w1, .int 25])), (bv, .inl (y 0, 34, .inl zk8)), (r4, .inl (y 0, 25, .inl zk9))]) [0, 1, 2, 3] (by decide) rfl
  refine W.widen (k := 1) (n := 25) (Nat.le_of_ble_eq_true rfl) (Nat.le_of_ble_eq_true rfl) ?_
  exact W.vret hx hb hr (fun t ht hW => ⟨⟨(), rfl, trivial, r4, by rw [ht]; exact hP9, hD9⟩, hS.F ht⟩) hS.2.2 dJ0_init_db425_97
def wz_c_Si2_e0 : List Cond := .code yJ0_init_81219 cJ0_init_81219 2 none :: ([.initialized RJ0, .methodLink RJ0 489 yJ0_init_db425, .instanceMethod yJ0_init_db425] ++ (wz_c_Si1_e0 ++ ([])))
set_option maxRecDepth 100000 in
theorem gz_c_Si2_e0_c_Si1_e0 : GoodIn wz_c_Si2_e0 wz_c_Si1_e0 := goodIn_sub (fun w h => List.mem_cons_of_mem _ (List.mem_append_right _ (List.mem_append_left _ h))) (by decide +kernel)
set_option maxHeartbeats 4000000 in
set_option maxRecDepth 100000 in
theorem c_Si2_e0 (l : Launch) (D : va_G) (y : Nat → ClassId) (sz : Nat) (h0 : Nat) (sb : Nat) (bv : Nat) (w1 : Value) : Met l yJ0_init_81219 wz_c_Si2_e0 ({ frames := 4, cells := 1, slots := 25, locals := 130 }) (va_Pc [.ref h0, .ref sb] (zB D y [(h0, .inr (0, [.null, .int 0, .int 0, .int 0])), (sb, .inr (1, [.ref bv, .int 0, w1, .int 25])), (bv, .inl (y 0, 34, .inl zk8))] sz [] [("java/lang/String", "COMPACT_STRINGS", "Z", .int 1)] [] [])) (va_Qv (fun _ : Unit => True) (fun _ t => ∃ q1 : Nat, va_P D vwCl [(h0, .inr (0, [.ref q1, .int 0, .int 0, .int 0])), (sb, .inr (1, [.ref bv, .int 0, w1, .int 25])), (bv, .inl (y 0, 34, .inl zk8)), (q1, .inl (y 0, 25, .inl zk9))] t.heap ∧ va_D (va_A [(h0, .inr (0, [.null, .int 0, .int 0, .int 0])), (sb, .inr (1, [.ref bv, .int 0, w1, .int 25])), (bv, .inl (y 0, 34, .inl zk8))] sz) [(h0, .inr (0, [.ref q1, .int 0, .int 0, .int 0])), (sb, .inr (1, [.ref bv, .int 0, w1, .int 25])), (bv, .inl (y 0, 34, .inl zk8)), (q1, .inl (y 0, 25, .inl zk9))]) (va_A [(h0, .inr (0, [.null, .int 0, .int 0, .int 0])), (sb, .inr (1, [.ref bv, .int 0, w1, .int 25])), (bv, .inl (y 0, 34, .inl zk8))] sz)) 1 25 (va_A [(h0, .inr (0, [.null, .int 0, .int 0, .int 0])), (sb, .inr (1, [.ref bv, .int 0, w1, .int 25])), (bv, .inl (y 0, 34, .inl zk8))] sz) := by
  refine Met.ofW (cc := cJ0_init_81219) (maxL := 2) (ret := none) (by decide) rfl ?_
  intro p e s m args below meth c s₁ B hml hv
  obtain ⟨rfl, hsz, hP, hK, hD0, hN, hE, hO, hT, hG⟩ := hv
  have hx := B.exec
  have hb := B.bytes
  have hr := B.returns
  have hts := atoms_spec (ws := wz_c_Si2_e0) B.pre
  have hown : s.vm.findClass RJ0 = some m.cls := findClass_of_methodNamed B.named
  have hlocks := B.notSynchronized
  have hin : meth.name = "<init>" := (name_of_methodNamed B.named B.method).1
  subst hsz
  have hD := hD0.self (sz := s.heap.size)
  generalize hAe : va_A [(h0, .inr (0, [.null, .int 0, .int 0, .int 0])), (sb, .inr (1, [.ref bv, .int 0, w1, .int 25])), (bv, .inl (y 0, 34, .inl zk8))] s.heap.size = A at hD hE hT hG ⊢
  have hA : ∀ q : Nat, s.heap.size ≤ q → A q := fun q h => by rw [← hAe]; exact Or.inr h
  have hS : va_S A s.heap s.heap [] := va_S.rf
  have hl := lv_entry ([.ref h0, .ref sb]) (n := 2) (Nat.le_of_ble_eq_true rfl)
  rw [lg_entry_eq]
  generalize (lg_sl ([.ref h0, .ref sb]) ++ List.replicate (2 - (lg_sl ([.ref h0, .ref sb])).length) Slot.unset).toArray = ls at hl ⊢
  have hl : lv_has ls 2 [(0, .ref h0), (1, .ref sb)] := hl
  refine lv_aload_n hx hb dJ0_init_81219_0 rfl (lv_at hl 0 rfl) ?_
  refine lv_aload_n hx hb dJ0_init_81219_1 rfl (lv_at hl 1 rfl) ?_
  refine lv_null hx hb dJ0_init_81219_2 ?_
  have hPc := hP.sub (ws' := [(h0, .inr (0, [.null, .int 0, .int 0, .int 0])), (sb, .inr (1, [.ref bv, .int 0, w1, .int 25])), (bv, .inl (y 0, 34, .inl zk8))]) [0, 1, 2] rfl
  have hDc := hD.sub (ws' := [(h0, .inr (0, [.null, .int 0, .int 0, .int 0])), (sb, .inr (1, [.ref bv, .int 0, w1, .int 25])), (bv, .inl (y 0, 34, .inl zk8))]) [0, 1, 2] (by decide) rfl
  have hFc := va_free (wc := [(h0, .inr (0, [.null, .int 0, .int 0, .int 0])), (sb, .inr (1, [.ref bv, .int 0, w1, .int 25])), (bv, .inl (y 0, 34, .inl zk8))]) hD hS hA [0, 1, 2] rfl
  refine va_callv (va_runI (As := [.ref sb, .null]) (rest := []) ⟨hx, hb, hml, hown, hts⟩ (c_Si1_e0 l D y s.heap.size h0 sb bv w1) (cwI 2 hts gz_c_Si2_e0_c_Si1_e0 rfl rfl rfl (hts (.initialized RJ0) (by decide +kernel)) (hts (.methodLink RJ0 489 yJ0_init_db425) (by decide +kernel)) (hts (.instanceMethod yJ0_init_db425) (by decide +kernel)) rfl (by decide +kernel) ⟨(Nat.le_of_ble_eq_true rfl), (Nat.le_of_ble_eq_true rfl)⟩) (zB.preS hPc hDc hK hN hE hO hT hG hS hFc (fun _ h => nomatch h) (List.forall_mem_cons.mpr ⟨List.mem_of_getElem? (i := 0) rfl, (fun _ h => nomatch h)⟩) (fun _ h => nomatch h) (fun _ h => nomatch h)) rfl rfl hl.1 rfl (lv_room (Nat.le_of_ble_eq_true rfl)) dJ0_init_81219_3 ⟨(Nat.le_of_ble_eq_true rfl), (Nat.le_of_ble_eq_true rfl)⟩) hS (fun q _ h => hFc q h) hFc (fun u t H1 locs ht hvm hw hB hz1 hk1 hS => ?_)
  obtain ⟨q1, hP1, hD1⟩ := hB
  rw [ht] at hP1
  obtain ⟨hP, hD⟩ := va_join (wr := []) (w1 := [(h0, .inr (0, [.ref q1, .int 0, .int 0, .int 0])), (sb, .inr (1, [.ref bv, .int 0, w1, .int 25])), (bv, .inl (y 0, 34, .inl zk8)), (q1, .inl (y 0, 25, .inl zk9))]) hP hD [0, 1, 2] [] rfl rfl (by decide) (by decide) hk1 hFc hP1 hD1
  generalize H1 = H at hP hS ⊢
  have hP : va_P D vwCl [(h0, .inr (0, [.ref q1, .int 0, .int 0, .int 0])), (sb, .inr (1, [.ref bv, .int 0, w1, .int 25])), (bv, .inl (y 0, 34, .inl zk8)), (q1, .inl (y 0, 25, .inl zk9))] H := hP
  have hD : va_D A [(h0, .inr (0, [.ref q1, .int 0, .int 0, .int 0])), (sb, .inr (1, [.ref bv, .int 0, w1, .int 25])), (bv, .inl (y 0, 34, .inl zk8)), (q1, .inl (y 0, 25, .inl zk9))] := hD
  have hP9 := hP.sub (ws' := [(h0, .inr (0, [.ref q1, .int 0, .int 0, .int 0])), (sb, .inr (1, [.ref bv, .int 0, w1, .int 25])), (bv, .inl (y 0, 34, .inl zk8)), (q1, .inl (y 0, 25, .inl zk9))]) [0, 1, 2, 3] rfl
  have hD9 := hD.sub (ws' := [(h0, .inr (0, [.ref q1, .int 0, .int 0, .int 0])), (sb, .inr (1, [.ref bv, .int 0, w1, .int 25])), (bv, .inl (y 0, 34, .inl zk8)), (q1, .inl (y 0, 25, .inl zk9))]) [0, 1, 2, 3] (by decide) rfl
  refine W.widen (k := 1) (n := 25) (Nat.le_of_ble_eq_true rfl) (Nat.le_of_ble_eq_true rfl) ?_
  exact W.vret hx hb hr (fun t ht hW => ⟨⟨(), rfl, trivial, q1, by rw [ht]; exact hP9, hD9⟩, hS.F ht⟩) hS.2.2 dJ0_init_81219_6
def wz_c_toS_e0 : List Cond := .code yJ4_toString_0e30d cJ4_toString_0e30d 1 (some (.object "java/lang/String")) :: ([.classLink RJ4 18 RJ0, .instantiable RJ0 4, .initialized RJ0, .methodLink RJ4 137 yJ0_init_81219, .instanceMethod yJ0_init_81219] ++ (wsJ00 ++ (wz_c_Si2_e0 ++ ([]))))
set_option maxRecDepth 100000 in
theorem gz_c_toS_e0_c_Si2_e0 : GoodIn wz_c_toS_e0 wz_c_Si2_e0 := goodIn_sub (fun w h => List.mem_cons_of_mem _ (List.mem_append_right _ (List.mem_append_right _ (List.mem_append_left _ h)))) (by decide +kernel)
set_option maxHeartbeats 4000000 in
set_option maxRecDepth 100000 in
theorem c_toS_e0 (l : Launch) (D : va_G) (y : Nat → ClassId) (sz : Nat) (h0 : Nat) (bv : Nat) (w1 : Value) : Met l yJ4_toString_0e30d wz_c_toS_e0 ({ frames := 5, cells := 2, slots := 29, locals := 151 }) (va_Pc [.ref h0] (zB D y [(h0, .inr (1, [.ref bv, .int 0, w1, .int 25])), (bv, .inl (y 0, 34, .inl zk8))] sz [] [("java/lang/String", "COMPACT_STRINGS", "Z", .int 1)] [] [])) (va_Qr (fun _ : Unit => True) (fun _ q1 t => ∃ q2 : Nat, va_P D vwCl [(h0, .inr (1, [.ref bv, .int 0, w1, .int 25])), (bv, .inl (y 0, 34, .inl zk8)), (q1, .inr (0, [.ref q2, .int 0, .int 0, .int 0])), (q2, .inl (y 0, 25, .inl zk9))] t.heap ∧ va_D (va_A [(h0, .inr (1, [.ref bv, .int 0, w1, .int 25])), (bv, .inl (y 0, 34, .inl zk8))] sz) [(h0, .inr (1, [.ref bv, .int 0, w1, .int 25])), (bv, .inl (y 0, 34, .inl zk8)), (q1, .inr (0, [.ref q2, .int 0, .int 0, .int 0])), (q2, .inl (y 0, 25, .inl zk9))]) (va_A [(h0, .inr (1, [.ref bv, .int 0, w1, .int 25])), (bv, .inl (y 0, 34, .inl zk8))] sz)) 2 29 (va_A [(h0, .inr (1, [.ref bv, .int 0, w1, .int 25])), (bv, .inl (y 0, 34, .inl zk8))] sz) := by
  refine Met.ofW (cc := cJ4_toString_0e30d) (maxL := 1) (ret := (some (.object "java/lang/String"))) (by decide) rfl ?_
  intro p e s m args below meth c s₁ B hml hv
  obtain ⟨rfl, hsz, hP, hK, hD0, hN, hE, hO, hT, hG⟩ := hv
  have hx := B.exec
  have hb := B.bytes
  have hr := B.returns
  have hts := atoms_spec (ws := wz_c_toS_e0) B.pre
  have hown : s.vm.findClass RJ4 = some m.cls := findClass_of_methodNamed B.named
  have hlocks := B.notSynchronized
  subst hsz
  have hD := hD0.self (sz := s.heap.size)
  generalize hAe : va_A [(h0, .inr (1, [.ref bv, .int 0, w1, .int 25])), (bv, .inl (y 0, 34, .inl zk8))] s.heap.size = A at hD hE hT hG ⊢
  have hA : ∀ q : Nat, s.heap.size ≤ q → A q := fun q h => by rw [← hAe]; exact Or.inr h
  have hS : va_S A s.heap s.heap [] := va_S.rf
  have hl := lv_entry ([.ref h0]) (n := 1) (Nat.le_of_ble_eq_true rfl)
  rw [lg_entry_eq]
  generalize (lg_sl ([.ref h0]) ++ List.replicate (1 - (lg_sl ([.ref h0])).length) Slot.unset).toArray = ls at hl ⊢
  have hl : lv_has ls 1 [(0, .ref h0)] := hl
  refine va_new (ci := 0) (fs := [.null, .int 0, .int 0, .int 0]) (C := RJ0) (T := TJ0) (N := 4) hx hb hts (by decide +kernel) tyJ0 tyJ0_ok hown (hts (.classLink RJ4 18 RJ0) (by decide +kernel)) (hts (.instantiable RJ0 4) (by decide +kernel)) (hts (.initialized RJ0) (by decide +kernel)) hK hP hD hS hA rfl (by decide) (Nat.le_of_ble_eq_true rfl) (Nat.le_of_ble_eq_true rfl) dJ4_toString_0e30d_0 (fun q1 H hP hD hS => ?_)
  have hP : va_P D vwCl [(h0, .inr (1, [.ref bv, .int 0, w1, .int 25])), (bv, .inl (y 0, 34, .inl zk8)), (q1, .inr (0, [.null, .int 0, .int 0, .int 0]))] H := hP
  have hD : va_D A [(h0, .inr (1, [.ref bv, .int 0, w1, .int 25])), (bv, .inl (y 0, 34, .inl zk8)), (q1, .inr (0, [.null, .int 0, .int 0, .int 0]))] := hD
  refine lv_dup hx hb dJ4_toString_0e30d_3 rfl ?_
  refine lv_aload_n hx hb dJ4_toString_0e30d_4 rfl (lv_at hl 0 rfl) ?_
  have hPc := hP.sub (ws' := [(q1, .inr (0, [.null, .int 0, .int 0, .int 0])), (h0, .inr (1, [.ref bv, .int 0, w1, .int 25])), (bv, .inl (y 0, 34, .inl zk8))]) [2, 0, 1] rfl
  have hDc := hD.sub (ws' := [(q1, .inr (0, [.null, .int 0, .int 0, .int 0])), (h0, .inr (1, [.ref bv, .int 0, w1, .int 25])), (bv, .inl (y 0, 34, .inl zk8))]) [2, 0, 1] (by decide) rfl
  have hFc := va_free (wc := [(q1, .inr (0, [.null, .int 0, .int 0, .int 0])), (h0, .inr (1, [.ref bv, .int 0, w1, .int 25])), (bv, .inl (y 0, 34, .inl zk8))]) hD hS hA [2, 0, 1] rfl
  refine va_callv (va_runI (As := [.ref h0]) (rest := [.ref q1]) ⟨hx, hb, hml, hown, hts⟩ (c_Si2_e0 l D y H.size q1 h0 bv w1) (cwI 1 hts gz_c_toS_e0_c_Si2_e0 rfl rfl rfl (hts (.initialized RJ0) (by decide +kernel)) (hts (.methodLink RJ4 137 yJ0_init_81219) (by decide +kernel)) (hts (.instanceMethod yJ0_init_81219) (by decide +kernel)) rfl (by decide +kernel) ⟨(Nat.le_of_ble_eq_true rfl), (Nat.le_of_ble_eq_true rfl)⟩) (zB.preS hPc hDc hK hN hE hO hT hG hS hFc (fun _ h => nomatch h) (List.forall_mem_cons.mpr ⟨List.mem_of_getElem? (i := 0) rfl, (fun _ h => nomatch h)⟩) (fun _ h => nomatch h) (fun _ h => nomatch h)) rfl rfl hl.1 rfl (lv_room (Nat.le_of_ble_eq_true rfl)) dJ4_toString_0e30d_5 ⟨(Nat.le_of_ble_eq_true rfl), (Nat.le_of_ble_eq_true rfl)⟩) hS (fun q _ h => hFc q h) hFc (fun u t H1 locs ht hvm hw hB hz1 hk1 hS => ?_)
  obtain ⟨q2, hP1, hD1⟩ := hB
  rw [ht] at hP1
  obtain ⟨hP, hD⟩ := va_join (wr := []) (w1 := [(q1, .inr (0, [.ref q2, .int 0, .int 0, .int 0])), (h0, .inr (1, [.ref bv, .int 0, w1, .int 25])), (bv, .inl (y 0, 34, .inl zk8)), (q2, .inl (y 0, 25, .inl zk9))]) hP hD [2, 0, 1] [] rfl rfl (by decide) (by decide) hk1 hFc hP1 hD1
  generalize H1 = H at hP hS ⊢
  have hP : va_P D vwCl [(q1, .inr (0, [.ref q2, .int 0, .int 0, .int 0])), (h0, .inr (1, [.ref bv, .int 0, w1, .int 25])), (bv, .inl (y 0, 34, .inl zk8)), (q2, .inl (y 0, 25, .inl zk9))] H := hP
  have hD : va_D A [(q1, .inr (0, [.ref q2, .int 0, .int 0, .int 0])), (h0, .inr (1, [.ref bv, .int 0, w1, .int 25])), (bv, .inl (y 0, 34, .inl zk8)), (q2, .inl (y 0, 25, .inl zk9))] := hD
  have hP9 := hP.sub (ws' := [(h0, .inr (1, [.ref bv, .int 0, w1, .int 25])), (bv, .inl (y 0, 34, .inl zk8)), (q1, .inr (0, [.ref q2, .int 0, .int 0, .int 0])), (q2, .inl (y 0, 25, .inl zk9))]) [1, 2, 0, 3] rfl
  have hD9 := hD.sub (ws' := [(h0, .inr (1, [.ref bv, .int 0, w1, .int 25])), (bv, .inl (y 0, 34, .inl zk8)), (q1, .inr (0, [.ref q2, .int 0, .int 0, .int 0])), (q2, .inl (y 0, 25, .inl zk9))]) [1, 2, 0, 3] (by decide) rfl
  refine W.widen (k := 2) (n := 29) (Nat.le_of_ble_eq_true rfl) (Nat.le_of_ble_eq_true rfl) ?_
  exact W.aret (v := .ref q1) hx hb hr (Or.inl ⟨_, rfl⟩) (Or.inr ⟨_, rfl⟩) (fun t ht hW => ⟨⟨(), q1, rfl, trivial, q2, by rw [ht]; exact hP9, hD9⟩, hS.F ht⟩) hS.2.2 dJ4_toString_0e30d_8
def wz_c_ens_16_15 : List Cond := .code yJ5_ensureCapacityInternal_d00df cJ5_ensureCapacityInternal_d00df 3 none :: ([.fieldLink RJ5 15 "java/lang/AbstractStringBuilder" "value" "[B", .fieldLink RJ5 22 "java/lang/AbstractStringBuilder" "coder" "B"] ++ (wsJ40 ++ ([])))
set_option maxHeartbeats 4000000 in
set_option maxRecDepth 100000 in
theorem c_ens_16_15 (l : Launch) (D : va_G) (y : Nat → ClassId) (sz : Nat) (h0 : Nat) (bv : Nat) (w1 : Value) (w2 : Value) (g : Nat → Int32) : Met l yJ5_ensureCapacityInternal_d00df wz_c_ens_16_15 ({ frames := 0, cells := 0, slots := 0, locals := 0 }) (va_Pc [.ref h0, .int 15] (zB D y [(h0, .inr (1, [.ref bv, .int 0, w1, w2])), (bv, .inl (y 0, 16, .inl g))] sz [] [] [] [])) (va_Qv (fun _ : Unit => True) (fun _ t => va_P D vwCl [(h0, .inr (1, [.ref bv, .int 0, w1, w2])), (bv, .inl (y 0, 16, .inl g))] t.heap ∧ va_D (va_A [(h0, .inr (1, [.ref bv, .int 0, w1, w2])), (bv, .inl (y 0, 16, .inl g))] sz) [(h0, .inr (1, [.ref bv, .int 0, w1, w2])), (bv, .inl (y 0, 16, .inl g))]) (va_A [(h0, .inr (1, [.ref bv, .int 0, w1, w2])), (bv, .inl (y 0, 16, .inl g))] sz)) 0 0 (va_A [(h0, .inr (1, [.ref bv, .int 0, w1, w2])), (bv, .inl (y 0, 16, .inl g))] sz) := by
  refine Met.ofW (cc := cJ5_ensureCapacityInternal_d00df) (maxL := 3) (ret := none) (by decide) rfl ?_
  intro p e s m args below meth c s₁ B hml hv
  obtain ⟨rfl, hsz, hP, hK, hD0, hN, hE, hO, hT, hG⟩ := hv
  have hx := B.exec
  have hb := B.bytes
  have hr := B.returns
  have hts := atoms_spec (ws := wz_c_ens_16_15) B.pre
  have hown : s.vm.findClass RJ5 = some m.cls := findClass_of_methodNamed B.named
  have hlocks := B.notSynchronized
  subst hsz
  have hD := hD0.self (sz := s.heap.size)
  generalize hAe : va_A [(h0, .inr (1, [.ref bv, .int 0, w1, w2])), (bv, .inl (y 0, 16, .inl g))] s.heap.size = A at hD hE hT hG ⊢
  have hA : ∀ q : Nat, s.heap.size ≤ q → A q := fun q h => by rw [← hAe]; exact Or.inr h
  have hS : va_S A s.heap s.heap [] := va_S.rf
  have hl := lv_entry ([.ref h0, .int 15]) (n := 3) (Nat.le_of_ble_eq_true rfl)
  rw [lg_entry_eq]
  generalize (lg_sl ([.ref h0, .int 15]) ++ List.replicate (3 - (lg_sl ([.ref h0, .int 15])).length) Slot.unset).toArray = ls at hl ⊢
  have hl : lv_has ls 3 [(0, .ref h0), (1, .int 15)] := hl
  refine lv_aload_n hx hb dJ5_ensureCapacityInternal_d00df_0 rfl (lv_at hl 0 rfl) ?_
  refine va_get (D := D) (ci := 1) (v := .ref bv) (C := RJ4) (T := TJ4) (N := 4) hx hb hts (by decide +kernel) hown hK hP 0 rfl rfl 0 (by decide) (hts (.fieldLink RJ5 15 "java/lang/AbstractStringBuilder" "value" "[B") (by decide +kernel)) (fun _ h9 => h9) rfl dJ5_ensureCapacityInternal_d00df_1 ?_
  refine va_alen (v := 16) hx hb hK hP 1 0 rfl rfl (show Int32.ofNat 16 = (16 : Int32) from by decide) dJ5_ensureCapacityInternal_d00df_4 ?_
  refine lv_aload_n hx hb dJ5_ensureCapacityInternal_d00df_5 rfl (lv_at hl 0 rfl) ?_
  refine va_get (D := D) (ci := 1) (v := .int 0) (C := RJ4) (T := TJ4) (N := 4) hx hb hts (by decide +kernel) hown hK hP 0 rfl rfl 1 (by decide) (hts (.fieldLink RJ5 22 "java/lang/AbstractStringBuilder" "coder" "B") (by decide +kernel)) (fun _ h9 => h9) rfl dJ5_ensureCapacityInternal_d00df_6 ?_
  refine lv_ishr hx hb dJ5_ensureCapacityInternal_d00df_9 ?_
  refine lv_topi (fun v1 ev1 => ?_)
  have ev1 : v1 = 16 := ev1.trans (by decide +kernel)
  subst ev1
  refine lv_istore_n (lv' := [(2, .int 16), (0, .ref h0), (1, .int 15)]) hx hb dJ5_ensureCapacityInternal_d00df_10 rfl hl (by decide) rfl (fun ls hl => ?_)
  refine lv_iload_n hx hb dJ5_ensureCapacityInternal_d00df_11 rfl (lv_at hl 2 rfl) ?_
  refine lv_iload_n hx hb dJ5_ensureCapacityInternal_d00df_12 rfl (lv_at hl 0 rfl) ?_
  refine lv_isub hx hb dJ5_ensureCapacityInternal_d00df_13 ?_
  refine lv_topi (fun v2 ev2 => ?_)
  have ev2 : v2 = -1 := ev2.trans (by decide +kernel)
  subst ev2
  refine lv_if_le (tgt := 38) hx hb dJ5_ensureCapacityInternal_d00df_14 (by decide) (fun _ => ?_) (fun c9 => absurd (by decide) c9)
  have hP9 := hP.sub (ws' := [(h0, .inr (1, [.ref bv, .int 0, w1, w2])), (bv, .inl (y 0, 16, .inl g))]) [0, 1] rfl
  have hD9 := hD.sub (ws' := [(h0, .inr (1, [.ref bv, .int 0, w1, w2])), (bv, .inl (y 0, 16, .inl g))]) [0, 1] (by decide) rfl
  refine W.widen (k := 0) (n := 0) (Nat.le_of_ble_eq_true rfl) (Nat.le_of_ble_eq_true rfl) ?_
  exact W.vret hx hb hr (fun t ht hW => ⟨⟨(), rfl, trivial, by rw [ht]; exact hP9, hD9⟩, hS.F ht⟩) hS.2.2 dJ5_ensureCapacityInternal_d00df_38
def wz_c_getBytes_8_11_16 : List Cond := .code yJ0_getBytes_840e7 cJ0_getBytes_840e7 4 none :: ([.methodLink RJ0 335 yJ0_coder_7d493, .instanceMethod yJ0_coder_7d493, .selects RJ0 yJ0_coder_7d493 yJ0_coder_7d493, .initialized RJ0, .fieldLink RJ0 9 "java/lang/String" "value" "[B", .methodLink RJ0 212 arraycopyName, .native arraycopyName, .static arraycopyName, .initialized "java/lang/System"] ++ (wz_c_coder_o ++ ([])))
set_option maxRecDepth 100000 in
theorem gz_c_getBytes_8_11_16_c_coder_o : GoodIn wz_c_getBytes_8_11_16 wz_c_coder_o := goodIn_sub (fun w h => List.mem_cons_of_mem _ (List.mem_append_right _ (List.mem_append_left _ h))) (by decide +kernel)
set_option maxRecDepth 100000 in
theorem gv_c_getBytes_8_11_16_c_coder_o_335 : GoodIn wz_c_getBytes_8_11_16 (wsV RJ0 335 RJ0 yJ0_coder_7d493 wz_c_coder_o) := goodIn_app (goodIn_of _ (by decide +kernel)) gz_c_getBytes_8_11_16_c_coder_o
set_option maxHeartbeats 4000000 in
set_option maxRecDepth 100000 in
theorem c_getBytes_8_11_16 (l : Launch) (D : va_G) (y : Nat → ClassId) (sz : Nat) (bv : Nat) (sx : Nat) (tx : Nat) (g : Nat → Int32) : Met l yJ0_getBytes_840e7 wz_c_getBytes_8_11_16 ({ frames := 1, cells := 0, slots := 0, locals := 60 }) (va_Pc [.ref sx, .ref bv, .int 11, .int 0] (zB D y [(bv, .inl (y 0, 16, .inl g))] sz [] [("java/lang/String", "COMPACT_STRINGS", "Z", .int 1)] [] [.inr (.inl (sx, tx, 4, zs8))])) (va_Qv (fun _ : Unit => True) (fun _ t => va_P D vwCl [(bv, .inl (y 0, 16, .inl (va_cpy zs8 g (0 : Int32).toNatClampNeg (11 : Int32).toNatClampNeg (4 : Int32).toNatClampNeg)))] t.heap ∧ va_D (va_A [(bv, .inl (y 0, 16, .inl g))] sz) [(bv, .inl (y 0, 16, .inl (va_cpy zs8 g (0 : Int32).toNatClampNeg (11 : Int32).toNatClampNeg (4 : Int32).toNatClampNeg)))]) (va_A [(bv, .inl (y 0, 16, .inl g))] sz)) 0 0 (va_A [(bv, .inl (y 0, 16, .inl g))] sz) := by
  refine Met.ofW (cc := cJ0_getBytes_840e7) (maxL := 4) (ret := none) (by decide) rfl ?_
  intro p e s m args below meth c s₁ B hml hv
  obtain ⟨rfl, hsz, hP, hK, hD0, hN, hE, hO, hT, hG⟩ := hv
  have hx := B.exec
  have hb := B.bytes
  have hr := B.returns
  have hts := atoms_spec (ws := wz_c_getBytes_8_11_16) B.pre
  have hown : s.vm.findClass RJ0 = some m.cls := findClass_of_methodNamed B.named
  have hlocks := B.notSynchronized
  subst hsz
  have hD := hD0.self (sz := s.heap.size)
  generalize hAe : va_A [(bv, .inl (y 0, 16, .inl g))] s.heap.size = A at hD hE hT hG ⊢
  have hA : ∀ q : Nat, s.heap.size ≤ q → A q := fun q h => by rw [← hAe]; exact Or.inr h
  have hS : va_S A s.heap s.heap [] := va_S.rf
  have hl := lv_entry ([.ref sx, .ref bv, .int 11, .int 0]) (n := 4) (Nat.le_of_ble_eq_true rfl)
  rw [lg_entry_eq]
  generalize (lg_sl ([.ref sx, .ref bv, .int 11, .int 0]) ++ List.replicate (4 - (lg_sl ([.ref sx, .ref bv, .int 11, .int 0])).length) Slot.unset).toArray = ls at hl ⊢
  have hl : lv_has ls 4 [(0, .ref sx), (1, .ref bv), (2, .int 11), (3, .int 0)] := hl
  refine lv_aload_n hx hb dJ0_getBytes_840e7_0 rfl (lv_at hl 0 rfl) ?_
  have hPc := hP.sub (ws' := []) [] rfl
  have hDc := hD.sub (ws' := []) [] (by decide) rfl
  have hFc := va_free (wc := []) hD hS hA [] rfl
  refine va_calli (va_runV (As := []) (rest := []) ⟨hx, hb, hml, hown, hts⟩ (c_coder_o l D y s.heap.size sx tx 4 zs8) (cwV 0 hts gv_c_getBytes_8_11_16_c_coder_o_335 rfl rfl rfl (by decide +kernel) ⟨(Nat.le_of_ble_eq_true rfl), (Nat.le_of_ble_eq_true rfl)⟩) (zB.preV hPc hDc hK hN hE hO hT hG hS hFc (fun _ h => nomatch h) (List.forall_mem_cons.mpr ⟨List.mem_of_getElem? (i := 0) rfl, (fun _ h => nomatch h)⟩) (fun _ h => nomatch h) (List.forall_mem_cons.mpr ⟨List.mem_of_getElem? (i := 0) rfl, (fun _ h => nomatch h)⟩) (zStr.recv (show zStr sx tx 4 zs8 A s s.heap from (hG (.inr (.inl (sx, tx, 4, zs8))) (List.mem_of_getElem? (i := 0) rfl))) hS)) rfl rfl hl.1 rfl (lv_room (Nat.le_of_ble_eq_true rfl)) dJ0_getBytes_840e7_1 ⟨(Nat.le_of_ble_eq_true rfl), (Nat.le_of_ble_eq_true rfl)⟩) hS (fun q _ h => hFc q h) hFc (fun r1 u t H1 locs ht hvm hw hB hz1 hk1 hS => ?_)
  obtain ⟨hP1, hD1⟩ := hB
  rw [ht] at hP1
  obtain ⟨hP, hD⟩ := va_join (wr := [(bv, .inl (y 0, 16, .inl g))]) (w1 := []) hP hD [] [0] rfl rfl (by decide) (by decide) hk1 hFc hP1 hD1
  generalize H1 = H at hP hS ⊢
  have hP : va_P D vwCl [(bv, .inl (y 0, 16, .inl g))] H := hP
  have hD : va_D A [(bv, .inl (y 0, 16, .inl g))] := hD
  have hw : r1 = 0 := hw
  subst hw
  refine lv_iload_n hx hb dJ0_getBytes_840e7_4 rfl (lv_at hl 3 rfl) ?_
  refine lv_icmp_ne (tgt := 28) hx hb dJ0_getBytes_840e7_5 (by decide) (fun c9 => absurd (by decide) c9) (fun _ => ?_)
  refine lv_aload_n hx hb dJ0_getBytes_840e7_8 rfl (lv_at hl 0 rfl) ?_
  refine vk_getf hx hb (show zStr sx tx 4 zs8 A s s.heap from (hG (.inr (.inl (sx, tx, 4, zs8))) (List.mem_of_getElem? (i := 0) rfl))).2.2.1 hS hown (hts (.fieldLink RJ0 9 "java/lang/String" "value" "[B") (by decide +kernel)) (fun _ h9 => h9) dJ0_getBytes_840e7_9 ?_
  refine lv_iconst (v := 0) hx hb dJ0_getBytes_840e7_12 (by decide) ?_
  refine lv_aload_n hx hb dJ0_getBytes_840e7_13 rfl (lv_at hl 1 rfl) ?_
  refine lv_iload_n hx hb dJ0_getBytes_840e7_14 rfl (lv_at hl 2 rfl) ?_
  refine lv_iload_n hx hb dJ0_getBytes_840e7_15 rfl (lv_at hl 3 rfl) ?_
  refine lv_ishl hx hb dJ0_getBytes_840e7_16 ?_
  refine lv_topi (fun v2 ev2 => ?_)
  have ev2 : v2 = 11 := ev2.trans (by decide +kernel)
  subst ev2
  refine lv_aload_n hx hb dJ0_getBytes_840e7_17 rfl (lv_at hl 0 rfl) ?_
  refine vk_getf hx hb (show zStr sx tx 4 zs8 A s s.heap from (hG (.inr (.inl (sx, tx, 4, zs8))) (List.mem_of_getElem? (i := 0) rfl))).2.2.1 hS hown (hts (.fieldLink RJ0 9 "java/lang/String" "value" "[B") (by decide +kernel)) (fun _ h9 => h9) dJ0_getBytes_840e7_18 ?_
  refine va_tlen (v := 4) hx hb (show zStr sx tx 4 zs8 A s s.heap from (hG (.inr (.inl (sx, tx, 4, zs8))) (List.mem_of_getElem? (i := 0) rfl))).2.2.2 hS (by decide) dJ0_getBytes_840e7_21 ?_
  refine vk_copyt (sp := 0) (dp := 11) (n := 4) (f := zs8) hx hb (hml.trans hl.1.symm) hown (hts (.methodLink RJ0 212 arraycopyName) (by decide +kernel)) (hts (.native arraycopyName) (by decide +kernel)) (hts (.static arraycopyName) (by decide +kernel)) (hts (.initialized "java/lang/System") (by decide +kernel)) hK hP hD hS (show zStr sx tx 4 zs8 A s s.heap from (hG (.inr (.inl (sx, tx, 4, zs8))) (List.mem_of_getElem? (i := 0) rfl))).2.2.2 0 0 rfl rfl (by decide +kernel) (by decide +kernel) (by decide +kernel) (by decide +kernel) (by decide +kernel) (by decide +kernel) (Nat.le_of_ble_eq_true rfl) (Nat.le_of_ble_eq_true rfl) dJ0_getBytes_840e7_22 (fun H locs hP hD hS => ?_)
  have hP : va_P D vwCl [(bv, .inl (y 0, 16, .inl (va_cpy zs8 g (0 : Int32).toNatClampNeg (11 : Int32).toNatClampNeg (4 : Int32).toNatClampNeg)))] H := hP
  have hD : va_D A [(bv, .inl (y 0, 16, .inl (va_cpy zs8 g (0 : Int32).toNatClampNeg (11 : Int32).toNatClampNeg (4 : Int32).toNatClampNeg)))] := hD
  refine lv_goto (tgt := 43) hx hb dJ0_getBytes_840e7_25 (by decide) ?_
  have hP9 := hP.sub (ws' := [(bv, .inl (y 0, 16, .inl (va_cpy zs8 g (0 : Int32).toNatClampNeg (11 : Int32).toNatClampNeg (4 : Int32).toNatClampNeg)))]) [0] rfl
  have hD9 := hD.sub (ws' := [(bv, .inl (y 0, 16, .inl (va_cpy zs8 g (0 : Int32).toNatClampNeg (11 : Int32).toNatClampNeg (4 : Int32).toNatClampNeg)))]) [0] (by decide) rfl
  refine W.widen (k := 0) (n := 0) (Nat.le_of_ble_eq_true rfl) (Nat.le_of_ble_eq_true rfl) ?_
  exact W.vret hx hb hr (fun t ht hW => ⟨⟨(), rfl, trivial, by rw [ht]; exact hP9, hD9⟩, hS.F ht⟩) hS.2.2 dJ0_getBytes_840e7_43
def wz_c_putStr_8_11_16 : List Cond := .code yJ5_putStringAt_47b60 cJ5_putStringAt_47b60 3 none :: ([.methodLink RJ5 397 ⟨"java/lang/AbstractStringBuilder", "inflateIfNeededFor", "(Ljava/lang/String;)V"⟩, .sameMethod "java/lang/AbstractStringBuilder" "java/lang/AbstractStringBuilder" "inflateIfNeededFor" "(Ljava/lang/String;)V", .selects RJ4 ⟨"java/lang/AbstractStringBuilder", "inflateIfNeededFor", "(Ljava/lang/String;)V"⟩ yJ5_inflateIfNeededFor_a7421, .instanceMethod yJ5_inflateIfNeededFor_a7421, .initialized RJ5, .fieldLink RJ5 15 "java/lang/AbstractStringBuilder" "value" "[B", .fieldLink RJ5 22 "java/lang/AbstractStringBuilder" "coder" "B", .methodLink RJ5 399 yJ0_getBytes_840e7, .instanceMethod yJ0_getBytes_840e7, .selects RJ0 yJ0_getBytes_840e7 yJ0_getBytes_840e7, .initialized RJ0] ++ (wsJ40 ++ (wz_c_inflIf ++ (wz_c_getBytes_8_11_16 ++ ([])))))
set_option maxRecDepth 100000 in
theorem gz_c_putStr_8_11_16_c_inflIf : GoodIn wz_c_putStr_8_11_16 wz_c_inflIf := goodIn_sub (fun w h => List.mem_cons_of_mem _ (List.mem_append_right _ (List.mem_append_right _ (List.mem_append_left _ h)))) (by decide +kernel)
set_option maxRecDepth 100000 in
theorem gz_c_putStr_8_11_16_c_getBytes_8_11_16 : GoodIn wz_c_putStr_8_11_16 wz_c_getBytes_8_11_16 := goodIn_sub (fun w h => List.mem_cons_of_mem _ (List.mem_append_right _ (List.mem_append_right _ (List.mem_append_right _ (List.mem_append_left _ h))))) (by decide +kernel)
set_option maxRecDepth 100000 in
theorem gv_c_putStr_8_11_16_c_inflIf_397 : GoodIn wz_c_putStr_8_11_16 (va_wsU RJ5 397 RJ4 "java/lang/AbstractStringBuilder" ⟨"java/lang/AbstractStringBuilder", "inflateIfNeededFor", "(Ljava/lang/String;)V"⟩ yJ5_inflateIfNeededFor_a7421 wz_c_inflIf) := goodIn_app (goodIn_of _ (by decide +kernel)) gz_c_putStr_8_11_16_c_inflIf
set_option maxRecDepth 100000 in
theorem gv_c_putStr_8_11_16_c_getBytes_8_11_16_399 : GoodIn wz_c_putStr_8_11_16 (wsV RJ5 399 RJ0 yJ0_getBytes_840e7 wz_c_getBytes_8_11_16) := goodIn_app (goodIn_of _ (by decide +kernel)) gz_c_putStr_8_11_16_c_getBytes_8_11_16
set_option maxHeartbeats 4000000 in
set_option maxRecDepth 100000 in
theorem c_putStr_8_11_16 (l : Launch) (D : va_G) (y : Nat → ClassId) (sz : Nat) (h0 : Nat) (bv : Nat) (w1 : Value) (w2 : Value) (sx : Nat) (tx : Nat) (g : Nat → Int32) : Met l yJ5_putStringAt_47b60 wz_c_putStr_8_11_16 ({ frames := 2, cells := 0, slots := 0, locals := 83 }) (va_Pc [.ref h0, .int 11, .ref sx] (zB D y [(h0, .inr (1, [.ref bv, .int 0, w1, w2])), (bv, .inl (y 0, 16, .inl g))] sz [] [("java/lang/String", "COMPACT_STRINGS", "Z", .int 1)] [] [.inr (.inl (sx, tx, 4, zs8))])) (va_Qv (fun _ : Unit => True) (fun _ t => va_P D vwCl [(h0, .inr (1, [.ref bv, .int 0, w1, w2])), (bv, .inl (y 0, 16, .inl (va_cpy zs8 g (0 : Int32).toNatClampNeg (11 : Int32).toNatClampNeg (4 : Int32).toNatClampNeg)))] t.heap ∧ va_D (va_A [(h0, .inr (1, [.ref bv, .int 0, w1, w2])), (bv, .inl (y 0, 16, .inl g))] sz) [(h0, .inr (1, [.ref bv, .int 0, w1, w2])), (bv, .inl (y 0, 16, .inl (va_cpy zs8 g (0 : Int32).toNatClampNeg (11 : Int32).toNatClampNeg (4 : Int32).toNatClampNeg)))]) (va_A [(h0, .inr (1, [.ref bv, .int 0, w1, w2])), (bv, .inl (y 0, 16, .inl g))] sz)) 0 0 (va_A [(h0, .inr (1, [.ref bv, .int 0, w1, w2])), (bv, .inl (y 0, 16, .inl g))] sz) := by
  refine Met.ofW (cc := cJ5_putStringAt_47b60) (maxL := 3) (ret := none) (by decide) rfl ?_
  intro p e s m args below meth c s₁ B hml hv
  obtain ⟨rfl, hsz, hP, hK, hD0, hN, hE, hO, hT, hG⟩ := hv
  have hx := B.exec
  have hb := B.bytes
  have hr := B.returns
  have hts := atoms_spec (ws := wz_c_putStr_8_11_16) B.pre
  have hown : s.vm.findClass RJ5 = some m.cls := findClass_of_methodNamed B.named
  have hlocks := B.notSynchronized
  subst hsz
  have hD := hD0.self (sz := s.heap.size)
  generalize hAe : va_A [(h0, .inr (1, [.ref bv, .int 0, w1, w2])), (bv, .inl (y 0, 16, .inl g))] s.heap.size = A at hD hE hT hG ⊢
  have hA : ∀ q : Nat, s.heap.size ≤ q → A q := fun q h => by rw [← hAe]; exact Or.inr h
  have hS : va_S A s.heap s.heap [] := va_S.rf
  have hl := lv_entry ([.ref h0, .int 11, .ref sx]) (n := 3) (Nat.le_of_ble_eq_true rfl)
  rw [lg_entry_eq]
  generalize (lg_sl ([.ref h0, .int 11, .ref sx]) ++ List.replicate (3 - (lg_sl ([.ref h0, .int 11, .ref sx])).length) Slot.unset).toArray = ls at hl ⊢
  have hl : lv_has ls 3 [(0, .ref h0), (1, .int 11), (2, .ref sx)] := hl
  refine lv_aload_n hx hb dJ5_putStringAt_47b60_0 rfl (lv_at hl 0 rfl) ?_
  refine lv_aload_n hx hb dJ5_putStringAt_47b60_1 rfl (lv_at hl 2 rfl) ?_
  have hPc := hP.sub (ws' := [(h0, .inr (1, [.ref bv, .int 0, w1, w2]))]) [0] rfl
  have hDc := hD.sub (ws' := [(h0, .inr (1, [.ref bv, .int 0, w1, w2]))]) [0] (by decide) rfl
  have hFc := va_free (wc := [(h0, .inr (1, [.ref bv, .int 0, w1, w2]))]) hD hS hA [0] rfl
  refine va_callv (va_runU (As := [.ref sx]) (rest := []) ⟨hx, hb, hml, hown, hts⟩ (c_inflIf l D y s.heap.size h0 ((.ref bv)) w1 w2 sx tx 4 zs8) (va_cwU 1 hts gv_c_putStr_8_11_16_c_inflIf_397 rfl rfl rfl rfl (by decide +kernel) ⟨(Nat.le_of_ble_eq_true rfl), (Nat.le_of_ble_eq_true rfl)⟩) (zB.preV hPc hDc hK hN hE hO hT hG hS hFc (fun _ h => nomatch h) (List.forall_mem_cons.mpr ⟨List.mem_of_getElem? (i := 0) rfl, (fun _ h => nomatch h)⟩) (fun _ h => nomatch h) (List.forall_mem_cons.mpr ⟨List.mem_of_getElem? (i := 0) rfl, (fun _ h => nomatch h)⟩) (va_recv hK hPc (ci := 1) (q0 := 0) rfl rfl)) rfl rfl hl.1 rfl (lv_room (Nat.le_of_ble_eq_true rfl)) dJ5_putStringAt_47b60_2 ⟨(Nat.le_of_ble_eq_true rfl), (Nat.le_of_ble_eq_true rfl)⟩) hS (fun q _ h => hFc q h) hFc (fun u t H1 locs ht hvm hw hB hz1 hk1 hS => ?_)
  obtain ⟨hP1, hD1⟩ := hB
  rw [ht] at hP1
  obtain ⟨hP, hD⟩ := va_join (wr := [(bv, .inl (y 0, 16, .inl g))]) (w1 := [(h0, .inr (1, [.ref bv, .int 0, w1, w2]))]) hP hD [0] [1] rfl rfl (by decide) (by decide) hk1 hFc hP1 hD1
  generalize H1 = H at hP hS ⊢
  have hP : va_P D vwCl [(bv, .inl (y 0, 16, .inl g)), (h0, .inr (1, [.ref bv, .int 0, w1, w2]))] H := hP
  have hD : va_D A [(bv, .inl (y 0, 16, .inl g)), (h0, .inr (1, [.ref bv, .int 0, w1, w2]))] := hD
  refine lv_aload_n hx hb dJ5_putStringAt_47b60_5 rfl (lv_at hl 2 rfl) ?_
  refine lv_aload_n hx hb dJ5_putStringAt_47b60_6 rfl (lv_at hl 0 rfl) ?_
  refine va_get (D := D) (ci := 1) (v := .ref bv) (C := RJ4) (T := TJ4) (N := 4) hx hb hts (by decide +kernel) hown hK hP 1 rfl rfl 0 (by decide) (hts (.fieldLink RJ5 15 "java/lang/AbstractStringBuilder" "value" "[B") (by decide +kernel)) (fun _ h9 => h9) rfl dJ5_putStringAt_47b60_7 ?_
  refine lv_iload_n hx hb dJ5_putStringAt_47b60_10 rfl (lv_at hl 1 rfl) ?_
  refine lv_aload_n hx hb dJ5_putStringAt_47b60_11 rfl (lv_at hl 0 rfl) ?_
  refine va_get (D := D) (ci := 1) (v := .int 0) (C := RJ4) (T := TJ4) (N := 4) hx hb hts (by decide +kernel) hown hK hP 1 rfl rfl 1 (by decide) (hts (.fieldLink RJ5 22 "java/lang/AbstractStringBuilder" "coder" "B") (by decide +kernel)) (fun _ h9 => h9) rfl dJ5_putStringAt_47b60_12 ?_
  have hPc := hP.sub (ws' := [(bv, .inl (y 0, 16, .inl g))]) [0] rfl
  have hDc := hD.sub (ws' := [(bv, .inl (y 0, 16, .inl g))]) [0] (by decide) rfl
  have hFc := va_free (wc := [(bv, .inl (y 0, 16, .inl g))]) hD hS hA [0] rfl
  refine va_callv (va_runV (As := [.ref bv, .int 11, .int 0]) (rest := []) ⟨hx, hb, hml, hown, hts⟩ (c_getBytes_8_11_16 l D y H.size bv sx tx g) (cwV 3 hts gv_c_putStr_8_11_16_c_getBytes_8_11_16_399 rfl rfl rfl (by decide +kernel) ⟨(Nat.le_of_ble_eq_true rfl), (Nat.le_of_ble_eq_true rfl)⟩) (zB.preV hPc hDc hK hN hE hO hT hG hS hFc (fun _ h => nomatch h) (List.forall_mem_cons.mpr ⟨List.mem_of_getElem? (i := 0) rfl, (fun _ h => nomatch h)⟩) (fun _ h => nomatch h) (List.forall_mem_cons.mpr ⟨List.mem_of_getElem? (i := 0) rfl, (fun _ h => nomatch h)⟩) (zStr.recv (show zStr sx tx 4 zs8 A s s.heap from (hG (.inr (.inl (sx, tx, 4, zs8))) (List.mem_of_getElem? (i := 0) rfl))) hS)) rfl rfl hl.1 rfl (lv_room (Nat.le_of_ble_eq_true rfl)) dJ5_putStringAt_47b60_15 ⟨(Nat.le_of_ble_eq_true rfl), (Nat.le_of_ble_eq_true rfl)⟩) hS (fun q _ h => hFc q h) hFc (fun u t H1 locs ht hvm hw hB hz1 hk1 hS => ?_)
  obtain ⟨hP1, hD1⟩ := hB
  rw [ht] at hP1
  obtain ⟨hP, hD⟩ := va_join (wr := [(h0, .inr (1, [.ref bv, .int 0, w1, w2]))]) (w1 := [(bv, .inl (y 0, 16, .inl (va_cpy zs8 g (0 : Int32).toNatClampNeg (11 : Int32).toNatClampNeg (4 : Int32).toNatClampNeg)))]) hP hD [0] [1] rfl rfl (by decide) (by decide) hk1 hFc hP1 hD1
  generalize H1 = H at hP hS ⊢
  have hP : va_P D vwCl [(h0, .inr (1, [.ref bv, .int 0, w1, w2])), (bv, .inl (y 0, 16, .inl (va_cpy zs8 g (0 : Int32).toNatClampNeg (11 : Int32).toNatClampNeg (4 : Int32).toNatClampNeg)))] H := hP
  have hD : va_D A [(h0, .inr (1, [.ref bv, .int 0, w1, w2])), (bv, .inl (y 0, 16, .inl (va_cpy zs8 g (0 : Int32).toNatClampNeg (11 : Int32).toNatClampNeg (4 : Int32).toNatClampNeg)))] := hD
  have hP9 := hP.sub (ws' := [(h0, .inr (1, [.ref bv, .int 0, w1, w2])), (bv, .inl (y 0, 16, .inl (va_cpy zs8 g (0 : Int32).toNatClampNeg (11 : Int32).toNatClampNeg (4 : Int32).toNatClampNeg)))]) [0, 1] rfl
  have hD9 := hD.sub (ws' := [(h0, .inr (1, [.ref bv, .int 0, w1, w2])), (bv, .inl (y 0, 16, .inl (va_cpy zs8 g (0 : Int32).toNatClampNeg (11 : Int32).toNatClampNeg (4 : Int32).toNatClampNeg)))]) [0, 1] (by decide) rfl
  refine W.widen (k := 0) (n := 0) (Nat.le_of_ble_eq_true rfl) (Nat.le_of_ble_eq_true rfl) ?_
  exact W.vret hx hb hr (fun t ht hW => ⟨⟨(), rfl, trivial, by rw [ht]; exact hP9, hD9⟩, hS.F ht⟩) hS.2.2 dJ5_putStringAt_47b60_18
def wz_c_ASBapp_8_11_16 : List Cond := .code yJ5_append_cf1ce cJ5_append_cf1ce 3 (some (.object "java/lang/AbstractStringBuilder")) :: ([.methodLink RJ5 32 yJ0_length_8abf5, .instanceMethod yJ0_length_8abf5, .selects RJ0 yJ0_length_8abf5 yJ0_length_8abf5, .initialized RJ0, .fieldLink RJ5 79 "java/lang/AbstractStringBuilder" "count" "I", .methodLink RJ5 100 ⟨"java/lang/AbstractStringBuilder", "ensureCapacityInternal", "(I)V"⟩, .sameMethod "java/lang/AbstractStringBuilder" "java/lang/AbstractStringBuilder" "ensureCapacityInternal" "(I)V", .selects RJ4 ⟨"java/lang/AbstractStringBuilder", "ensureCapacityInternal", "(I)V"⟩ yJ5_ensureCapacityInternal_d00df, .instanceMethod yJ5_ensureCapacityInternal_d00df, .initialized RJ5, .methodLink RJ5 208 ⟨"java/lang/AbstractStringBuilder", "putStringAt", "(ILjava/lang/String;)V"⟩, .sameMethod "java/lang/AbstractStringBuilder" "java/lang/AbstractStringBuilder" "putStringAt" "(ILjava/lang/String;)V", .selects RJ4 ⟨"java/lang/AbstractStringBuilder", "putStringAt", "(ILjava/lang/String;)V"⟩ yJ5_putStringAt_47b60, .instanceMethod yJ5_putStringAt_47b60] ++ (wsJ40 ++ (wz_c_len_o_4 ++ (wz_c_ens_16_15 ++ (wz_c_putStr_8_11_16 ++ ([]))))))
set_option maxRecDepth 100000 in
theorem gz_c_ASBapp_8_11_16_c_len_o_4 : GoodIn wz_c_ASBapp_8_11_16 wz_c_len_o_4 := goodIn_sub (fun w h => List.mem_cons_of_mem _ (List.mem_append_right _ (List.mem_append_right _ (List.mem_append_left _ h)))) (by decide +kernel)
set_option maxRecDepth 100000 in
theorem gz_c_ASBapp_8_11_16_c_ens_16_15 : GoodIn wz_c_ASBapp_8_11_16 wz_c_ens_16_15 := goodIn_sub (fun w h => List.mem_cons_of_mem _ (List.mem_append_right _ (List.mem_append_right _ (List.mem_append_right _ (List.mem_append_left _ h))))) (by decide +kernel)
set_option maxRecDepth 100000 in
theorem gz_c_ASBapp_8_11_16_c_putStr_8_11_16 : GoodIn wz_c_ASBapp_8_11_16 wz_c_putStr_8_11_16 := goodIn_sub (fun w h => List.mem_cons_of_mem _ (List.mem_append_right _ (List.mem_append_right _ (List.mem_append_right _ (List.mem_append_right _ (List.mem_append_left _ h)))))) (by decide +kernel)
set_option maxRecDepth 100000 in
theorem gv_c_ASBapp_8_11_16_c_len_o_4_32 : GoodIn wz_c_ASBapp_8_11_16 (wsV RJ5 32 RJ0 yJ0_length_8abf5 wz_c_len_o_4) := goodIn_app (goodIn_of _ (by decide +kernel)) gz_c_ASBapp_8_11_16_c_len_o_4
set_option maxRecDepth 100000 in
theorem gv_c_ASBapp_8_11_16_c_ens_16_15_100 : GoodIn wz_c_ASBapp_8_11_16 (va_wsU RJ5 100 RJ4 "java/lang/AbstractStringBuilder" ⟨"java/lang/AbstractStringBuilder", "ensureCapacityInternal", "(I)V"⟩ yJ5_ensureCapacityInternal_d00df wz_c_ens_16_15) := goodIn_app (goodIn_of _ (by decide +kernel)) gz_c_ASBapp_8_11_16_c_ens_16_15
set_option maxRecDepth 100000 in
theorem gv_c_ASBapp_8_11_16_c_putStr_8_11_16_208 : GoodIn wz_c_ASBapp_8_11_16 (va_wsU RJ5 208 RJ4 "java/lang/AbstractStringBuilder" ⟨"java/lang/AbstractStringBuilder", "putStringAt", "(ILjava/lang/String;)V"⟩ yJ5_putStringAt_47b60 wz_c_putStr_8_11_16) := goodIn_app (goodIn_of _ (by decide +kernel)) gz_c_ASBapp_8_11_16_c_putStr_8_11_16
set_option maxHeartbeats 4000000 in
set_option maxRecDepth 100000 in
theorem c_ASBapp_8_11_16 (l : Launch) (D : va_G) (y : Nat → ClassId) (sz : Nat) (h0 : Nat) (bv : Nat) (w1 : Value) (sx : Nat) (tx : Nat) (g : Nat → Int32) : Met l yJ5_append_cf1ce wz_c_ASBapp_8_11_16 ({ frames := 3, cells := 0, slots := 0, locals := 105 }) (va_Pc [.ref h0, .ref sx] (zB D y [(h0, .inr (1, [.ref bv, .int 0, w1, .int 11])), (bv, .inl (y 0, 16, .inl g))] sz [] [("java/lang/String", "COMPACT_STRINGS", "Z", .int 1)] [] [.inr (.inl (sx, tx, 4, zs8))])) (va_Qq (fun (r : Option Nat) (_ : Unit) => r = some h0) (fun _ t => va_P D vwCl [(h0, .inr (1, [.ref bv, .int 0, w1, .int 15])), (bv, .inl (y 0, 16, .inl (va_cpy zs8 g (0 : Int32).toNatClampNeg (11 : Int32).toNatClampNeg (4 : Int32).toNatClampNeg)))] t.heap ∧ va_D (va_A [(h0, .inr (1, [.ref bv, .int 0, w1, .int 11])), (bv, .inl (y 0, 16, .inl g))] sz) [(h0, .inr (1, [.ref bv, .int 0, w1, .int 15])), (bv, .inl (y 0, 16, .inl (va_cpy zs8 g (0 : Int32).toNatClampNeg (11 : Int32).toNatClampNeg (4 : Int32).toNatClampNeg)))]) (va_A [(h0, .inr (1, [.ref bv, .int 0, w1, .int 11])), (bv, .inl (y 0, 16, .inl g))] sz)) 0 0 (va_A [(h0, .inr (1, [.ref bv, .int 0, w1, .int 11])), (bv, .inl (y 0, 16, .inl g))] sz) := by
  refine Met.ofW (cc := cJ5_append_cf1ce) (maxL := 3) (ret := (some (.object "java/lang/AbstractStringBuilder"))) (by decide) rfl ?_
  intro p e s m args below meth c s₁ B hml hv
  obtain ⟨rfl, hsz, hP, hK, hD0, hN, hE, hO, hT, hG⟩ := hv
  have hx := B.exec
  have hb := B.bytes
  have hr := B.returns
  have hts := atoms_spec (ws := wz_c_ASBapp_8_11_16) B.pre
  have hown : s.vm.findClass RJ5 = some m.cls := findClass_of_methodNamed B.named
  have hlocks := B.notSynchronized
  subst hsz
  have hD := hD0.self (sz := s.heap.size)
  generalize hAe : va_A [(h0, .inr (1, [.ref bv, .int 0, w1, .int 11])), (bv, .inl (y 0, 16, .inl g))] s.heap.size = A at hD hE hT hG ⊢
  have hA : ∀ q : Nat, s.heap.size ≤ q → A q := fun q h => by rw [← hAe]; exact Or.inr h
  have hS : va_S A s.heap s.heap [] := va_S.rf
  have hl := lv_entry ([.ref h0, .ref sx]) (n := 3) (Nat.le_of_ble_eq_true rfl)
  rw [lg_entry_eq]
  generalize (lg_sl ([.ref h0, .ref sx]) ++ List.replicate (3 - (lg_sl ([.ref h0, .ref sx])).length) Slot.unset).toArray = ls at hl ⊢
  have hl : lv_has ls 3 [(0, .ref h0), (1, .ref sx)] := hl
  refine lv_aload_n hx hb dJ5_append_cf1ce_0 rfl (lv_at hl 1 rfl) ?_
  refine lv_ifnonnull (tgt := 9) hx hb dJ5_append_cf1ce_1 (by decide) ?_
  refine lv_aload_n hx hb dJ5_append_cf1ce_9 rfl (lv_at hl 1 rfl) ?_
  have hPc := hP.sub (ws' := []) [] rfl
  have hDc := hD.sub (ws' := []) [] (by decide) rfl
  have hFc := va_free (wc := []) hD hS hA [] rfl
  refine va_calli (va_runV (As := []) (rest := []) ⟨hx, hb, hml, hown, hts⟩ (c_len_o_4 l D y s.heap.size sx tx zs8) (cwV 0 hts gv_c_ASBapp_8_11_16_c_len_o_4_32 rfl rfl rfl (by decide +kernel) ⟨(Nat.le_of_ble_eq_true rfl), (Nat.le_of_ble_eq_true rfl)⟩) (zB.preV hPc hDc hK hN hE hO hT hG hS hFc (fun _ h => nomatch h) (List.forall_mem_cons.mpr ⟨List.mem_of_getElem? (i := 0) rfl, (fun _ h => nomatch h)⟩) (fun _ h => nomatch h) (List.forall_mem_cons.mpr ⟨List.mem_of_getElem? (i := 0) rfl, (fun _ h => nomatch h)⟩) (zStr.recv (show zStr sx tx 4 zs8 A s s.heap from (hG (.inr (.inl (sx, tx, 4, zs8))) (List.mem_of_getElem? (i := 0) rfl))) hS)) rfl rfl hl.1 rfl (lv_room (Nat.le_of_ble_eq_true rfl)) dJ5_append_cf1ce_10 ⟨(Nat.le_of_ble_eq_true rfl), (Nat.le_of_ble_eq_true rfl)⟩) hS (fun q _ h => hFc q h) hFc (fun r1 u t H1 locs ht hvm hw hB hz1 hk1 hS => ?_)
  obtain ⟨hP1, hD1⟩ := hB
  rw [ht] at hP1
  obtain ⟨hP, hD⟩ := va_join (wr := [(h0, .inr (1, [.ref bv, .int 0, w1, .int 11])), (bv, .inl (y 0, 16, .inl g))]) (w1 := []) hP hD [] [0, 1] rfl rfl (by decide) (by decide) hk1 hFc hP1 hD1
  generalize H1 = H at hP hS ⊢
  have hP : va_P D vwCl [(h0, .inr (1, [.ref bv, .int 0, w1, .int 11])), (bv, .inl (y 0, 16, .inl g))] H := hP
  have hD : va_D A [(h0, .inr (1, [.ref bv, .int 0, w1, .int 11])), (bv, .inl (y 0, 16, .inl g))] := hD
  have hw : r1 = 4 := hw
  subst hw
  refine lv_istore_n (lv' := [(2, .int 4), (0, .ref h0), (1, .ref sx)]) hx hb dJ5_append_cf1ce_13 rfl hl (by decide) rfl (fun ls hl => ?_)
  refine lv_aload_n hx hb dJ5_append_cf1ce_14 rfl (lv_at hl 1 rfl) ?_
  refine lv_aload_n hx hb dJ5_append_cf1ce_15 rfl (lv_at hl 1 rfl) ?_
  refine va_get (D := D) (ci := 1) (v := .int 11) (C := RJ4) (T := TJ4) (N := 4) hx hb hts (by decide +kernel) hown hK hP 0 rfl rfl 3 (by decide) (hts (.fieldLink RJ5 79 "java/lang/AbstractStringBuilder" "count" "I") (by decide +kernel)) (fun _ h9 => h9) rfl dJ5_append_cf1ce_16 ?_
  refine lv_iload_n hx hb dJ5_append_cf1ce_19 rfl (lv_at hl 0 rfl) ?_
  refine lv_iadd hx hb dJ5_append_cf1ce_20 ?_
  refine lv_topi (fun v2 ev2 => ?_)
  have ev2 : v2 = 15 := ev2.trans (by decide +kernel)
  subst ev2
  have hPc := hP.sub (ws' := [(h0, .inr (1, [.ref bv, .int 0, w1, .int 11])), (bv, .inl (y 0, 16, .inl g))]) [0, 1] rfl
  have hDc := hD.sub (ws' := [(h0, .inr (1, [.ref bv, .int 0, w1, .int 11])), (bv, .inl (y 0, 16, .inl g))]) [0, 1] (by decide) rfl
  have hFc := va_free (wc := [(h0, .inr (1, [.ref bv, .int 0, w1, .int 11])), (bv, .inl (y 0, 16, .inl g))]) hD hS hA [0, 1] rfl
  refine va_callv (va_runU (As := [.int 15]) (rest := []) ⟨hx, hb, hml, hown, hts⟩ (c_ens_16_15 l D y H.size h0 bv w1 ((.int 11)) g) (va_cwU 1 hts gv_c_ASBapp_8_11_16_c_ens_16_15_100 rfl rfl rfl rfl (by decide +kernel) ⟨(Nat.le_of_ble_eq_true rfl), (Nat.le_of_ble_eq_true rfl)⟩) (zB.preV hPc hDc hK hN hE hO hT hG hS hFc (fun _ h => nomatch h) (fun _ h => nomatch h) (fun _ h => nomatch h) (fun _ h => nomatch h) (va_recv hK hPc (ci := 1) (q0 := 0) rfl rfl)) rfl rfl hl.1 rfl (lv_room (Nat.le_of_ble_eq_true rfl)) dJ5_append_cf1ce_21 ⟨(Nat.le_of_ble_eq_true rfl), (Nat.le_of_ble_eq_true rfl)⟩) hS (fun q _ h => hFc q h) hFc (fun u t H1 locs ht hvm hw hB hz1 hk1 hS => ?_)
  obtain ⟨hP1, hD1⟩ := hB
  rw [ht] at hP1
  obtain ⟨hP, hD⟩ := va_join (wr := []) (w1 := [(h0, .inr (1, [.ref bv, .int 0, w1, .int 11])), (bv, .inl (y 0, 16, .inl g))]) hP hD [0, 1] [] rfl rfl (by decide) (by decide) hk1 hFc hP1 hD1
  generalize H1 = H at hP hS ⊢
  have hP : va_P D vwCl [(h0, .inr (1, [.ref bv, .int 0, w1, .int 11])), (bv, .inl (y 0, 16, .inl g))] H := hP
  have hD : va_D A [(h0, .inr (1, [.ref bv, .int 0, w1, .int 11])), (bv, .inl (y 0, 16, .inl g))] := hD
  refine lv_aload_n hx hb dJ5_append_cf1ce_24 rfl (lv_at hl 1 rfl) ?_
  refine lv_aload_n hx hb dJ5_append_cf1ce_25 rfl (lv_at hl 1 rfl) ?_
  refine va_get (D := D) (ci := 1) (v := .int 11) (C := RJ4) (T := TJ4) (N := 4) hx hb hts (by decide +kernel) hown hK hP 0 rfl rfl 3 (by decide) (hts (.fieldLink RJ5 79 "java/lang/AbstractStringBuilder" "count" "I") (by decide +kernel)) (fun _ h9 => h9) rfl dJ5_append_cf1ce_26 ?_
  refine lv_aload_n hx hb dJ5_append_cf1ce_29 rfl (lv_at hl 2 rfl) ?_
  have hPc := hP.sub (ws' := [(h0, .inr (1, [.ref bv, .int 0, w1, .int 11])), (bv, .inl (y 0, 16, .inl g))]) [0, 1] rfl
  have hDc := hD.sub (ws' := [(h0, .inr (1, [.ref bv, .int 0, w1, .int 11])), (bv, .inl (y 0, 16, .inl g))]) [0, 1] (by decide) rfl
  have hFc := va_free (wc := [(h0, .inr (1, [.ref bv, .int 0, w1, .int 11])), (bv, .inl (y 0, 16, .inl g))]) hD hS hA [0, 1] rfl
  refine va_callv (va_runU (As := [.int 11, .ref sx]) (rest := []) ⟨hx, hb, hml, hown, hts⟩ (c_putStr_8_11_16 l D y H.size h0 bv w1 ((.int 11)) sx tx g) (va_cwU 2 hts gv_c_ASBapp_8_11_16_c_putStr_8_11_16_208 rfl rfl rfl rfl (by decide +kernel) ⟨(Nat.le_of_ble_eq_true rfl), (Nat.le_of_ble_eq_true rfl)⟩) (zB.preV hPc hDc hK hN hE hO hT hG hS hFc (fun _ h => nomatch h) (List.forall_mem_cons.mpr ⟨List.mem_of_getElem? (i := 0) rfl, (fun _ h => nomatch h)⟩) (fun _ h => nomatch h) (List.forall_mem_cons.mpr ⟨List.mem_of_getElem? (i := 0) rfl, (fun _ h => nomatch h)⟩) (va_recv hK hPc (ci := 1) (q0 := 0) rfl rfl)) rfl rfl hl.1 rfl (lv_room (Nat.le_of_ble_eq_true rfl)) dJ5_append_cf1ce_30 ⟨(Nat.le_of_ble_eq_true rfl), (Nat.le_of_ble_eq_true rfl)⟩) hS (fun q _ h => hFc q h) hFc (fun u t H1 locs ht hvm hw hB hz1 hk1 hS => ?_)
  obtain ⟨hP1, hD1⟩ := hB
  rw [ht] at hP1
  obtain ⟨hP, hD⟩ := va_join (wr := []) (w1 := [(h0, .inr (1, [.ref bv, .int 0, w1, .int 11])), (bv, .inl (y 0, 16, .inl (va_cpy zs8 g (0 : Int32).toNatClampNeg (11 : Int32).toNatClampNeg (4 : Int32).toNatClampNeg)))]) hP hD [0, 1] [] rfl rfl (by decide) (by decide) hk1 hFc hP1 hD1
  generalize H1 = H at hP hS ⊢
  have hP : va_P D vwCl [(h0, .inr (1, [.ref bv, .int 0, w1, .int 11])), (bv, .inl (y 0, 16, .inl (va_cpy zs8 g (0 : Int32).toNatClampNeg (11 : Int32).toNatClampNeg (4 : Int32).toNatClampNeg)))] H := hP
  have hD : va_D A [(h0, .inr (1, [.ref bv, .int 0, w1, .int 11])), (bv, .inl (y 0, 16, .inl (va_cpy zs8 g (0 : Int32).toNatClampNeg (11 : Int32).toNatClampNeg (4 : Int32).toNatClampNeg)))] := hD
  refine lv_aload_n hx hb dJ5_append_cf1ce_33 rfl (lv_at hl 1 rfl) ?_
  refine lv_dup hx hb dJ5_append_cf1ce_34 rfl ?_
  refine va_get (D := D) (ci := 1) (v := .int 11) (C := RJ4) (T := TJ4) (N := 4) hx hb hts (by decide +kernel) hown hK hP 0 rfl rfl 3 (by decide) (hts (.fieldLink RJ5 79 "java/lang/AbstractStringBuilder" "count" "I") (by decide +kernel)) (fun _ h9 => h9) rfl dJ5_append_cf1ce_35 ?_
  refine lv_iload_n hx hb dJ5_append_cf1ce_38 rfl (lv_at hl 0 rfl) ?_
  refine lv_iadd hx hb dJ5_append_cf1ce_39 ?_
  refine lv_topi (fun v3 ev3 => ?_)
  have ev3 : v3 = 15 := ev3.trans (by decide +kernel)
  subst ev3
  refine va_put (D := D) (ci := 1) (v := .int 15) (ty := .int) (C := RJ4) (T := TJ4) (N := 4) hx hb hts (by decide +kernel) tyJ4 tyJ4_ok nmJ4 hown hK hP hD hS 0 rfl rfl 3 (by decide) (hts (.fieldLink RJ5 79 "java/lang/AbstractStringBuilder" "count" "I") (by decide +kernel)) (fun _ h9 => h9) rfl (by decide +kernel) rfl rfl (Nat.le_of_ble_eq_true rfl) dJ5_append_cf1ce_40 (fun H locs hP hD hS => ?_)
  have hP : va_P D vwCl [(h0, .inr (1, [.ref bv, .int 0, w1, .int 15])), (bv, .inl (y 0, 16, .inl (va_cpy zs8 g (0 : Int32).toNatClampNeg (11 : Int32).toNatClampNeg (4 : Int32).toNatClampNeg)))] H := hP
  have hD : va_D A [(h0, .inr (1, [.ref bv, .int 0, w1, .int 15])), (bv, .inl (y 0, 16, .inl (va_cpy zs8 g (0 : Int32).toNatClampNeg (11 : Int32).toNatClampNeg (4 : Int32).toNatClampNeg)))] := hD
  refine lv_aload_n hx hb dJ5_append_cf1ce_43 rfl (lv_at hl 1 rfl) ?_
  have hP9 := hP.sub (ws' := [(h0, .inr (1, [.ref bv, .int 0, w1, .int 15])), (bv, .inl (y 0, 16, .inl (va_cpy zs8 g (0 : Int32).toNatClampNeg (11 : Int32).toNatClampNeg (4 : Int32).toNatClampNeg)))]) [0, 1] rfl
  have hD9 := hD.sub (ws' := [(h0, .inr (1, [.ref bv, .int 0, w1, .int 15])), (bv, .inl (y 0, 16, .inl (va_cpy zs8 g (0 : Int32).toNatClampNeg (11 : Int32).toNatClampNeg (4 : Int32).toNatClampNeg)))]) [0, 1] (by decide) rfl
  refine W.widen (k := 0) (n := 0) (Nat.le_of_ble_eq_true rfl) (Nat.le_of_ble_eq_true rfl) ?_
  exact W.aret (v := .ref h0) hx hb hr (Or.inl ⟨_, rfl⟩) (Or.inr ⟨_, rfl⟩) (fun t ht hW => ⟨⟨(some h0), (), rfl, rfl, by rw [ht]; exact hP9, hD9⟩, hS.F ht⟩) hS.2.2 dJ5_append_cf1ce_44
def wz_c_SBapp_8_11_16 : List Cond := .code yJ4_append_15ec4 cJ4_append_15ec4 2 (some (.object "java/lang/StringBuilder")) :: ([.methodLink RJ4 29 yJ5_append_cf1ce, .sameMethod RJ5 RJ5 "append" "(Ljava/lang/String;)Ljava/lang/AbstractStringBuilder;", .superclass RJ4 RJ5, .instanceMethod yJ5_append_cf1ce, .initialized RJ5] ++ (wz_c_ASBapp_8_11_16 ++ ([])))
set_option maxRecDepth 100000 in
theorem gz_c_SBapp_8_11_16_c_ASBapp_8_11_16 : GoodIn wz_c_SBapp_8_11_16 wz_c_ASBapp_8_11_16 := goodIn_sub (fun w h => List.mem_cons_of_mem _ (List.mem_append_right _ (List.mem_append_left _ h))) (by decide +kernel)
set_option maxRecDepth 100000 in
theorem gv_c_SBapp_8_11_16_c_ASBapp_8_11_16_29 : GoodIn wz_c_SBapp_8_11_16 (va_wsSU RJ4 29 yJ5_append_cf1ce wz_c_ASBapp_8_11_16) := goodIn_app (goodIn_of _ (by decide +kernel)) gz_c_SBapp_8_11_16_c_ASBapp_8_11_16
set_option maxHeartbeats 4000000 in
set_option maxRecDepth 100000 in
theorem c_SBapp_8_11_16 (l : Launch) (D : va_G) (y : Nat → ClassId) (sz : Nat) (h0 : Nat) (bv : Nat) (w1 : Value) (sx : Nat) (tx : Nat) (g : Nat → Int32) : Met l yJ4_append_15ec4 wz_c_SBapp_8_11_16 ({ frames := 4, cells := 0, slots := 0, locals := 127 }) (va_Pc [.ref h0, .ref sx] (zB D y [(h0, .inr (1, [.ref bv, .int 0, w1, .int 11])), (bv, .inl (y 0, 16, .inl g))] sz [] [("java/lang/String", "COMPACT_STRINGS", "Z", .int 1)] [] [.inr (.inl (sx, tx, 4, zs8))])) (va_Qq (fun (r : Option Nat) (_ : Unit) => r = some h0) (fun _ t => va_P D vwCl [(h0, .inr (1, [.ref bv, .int 0, w1, .int 15])), (bv, .inl (y 0, 16, .inl (va_cpy zs8 g (0 : Int32).toNatClampNeg (11 : Int32).toNatClampNeg (4 : Int32).toNatClampNeg)))] t.heap ∧ va_D (va_A [(h0, .inr (1, [.ref bv, .int 0, w1, .int 11])), (bv, .inl (y 0, 16, .inl g))] sz) [(h0, .inr (1, [.ref bv, .int 0, w1, .int 15])), (bv, .inl (y 0, 16, .inl (va_cpy zs8 g (0 : Int32).toNatClampNeg (11 : Int32).toNatClampNeg (4 : Int32).toNatClampNeg)))]) (va_A [(h0, .inr (1, [.ref bv, .int 0, w1, .int 11])), (bv, .inl (y 0, 16, .inl g))] sz)) 0 0 (va_A [(h0, .inr (1, [.ref bv, .int 0, w1, .int 11])), (bv, .inl (y 0, 16, .inl g))] sz) := by
  refine Met.ofW (cc := cJ4_append_15ec4) (maxL := 2) (ret := (some (.object "java/lang/StringBuilder"))) (by decide) rfl ?_
  intro p e s m args below meth c s₁ B hml hv
  obtain ⟨rfl, hsz, hP, hK, hD0, hN, hE, hO, hT, hG⟩ := hv
  have hx := B.exec
  have hb := B.bytes
  have hr := B.returns
  have hts := atoms_spec (ws := wz_c_SBapp_8_11_16) B.pre
  have hown : s.vm.findClass RJ4 = some m.cls := findClass_of_methodNamed B.named
  have hlocks := B.notSynchronized
  subst hsz
  have hD := hD0.self (sz := s.heap.size)
  generalize hAe : va_A [(h0, .inr (1, [.ref bv, .int 0, w1, .int 11])), (bv, .inl (y 0, 16, .inl g))] s.heap.size = A at hD hE hT hG ⊢
  have hA : ∀ q : Nat, s.heap.size ≤ q → A q := fun q h => by rw [← hAe]; exact Or.inr h
  have hS : va_S A s.heap s.heap [] := va_S.rf
  have hl := lv_entry ([.ref h0, .ref sx]) (n := 2) (Nat.le_of_ble_eq_true rfl)
  rw [lg_entry_eq]
  generalize (lg_sl ([.ref h0, .ref sx]) ++ List.replicate (2 - (lg_sl ([.ref h0, .ref sx])).length) Slot.unset).toArray = ls at hl ⊢
  have hl : lv_has ls 2 [(0, .ref h0), (1, .ref sx)] := hl
  refine lv_aload_n hx hb dJ4_append_15ec4_0 rfl (lv_at hl 0 rfl) ?_
  refine lv_aload_n hx hb dJ4_append_15ec4_1 rfl (lv_at hl 1 rfl) ?_
  have hPc := hP.sub (ws' := [(h0, .inr (1, [.ref bv, .int 0, w1, .int 11])), (bv, .inl (y 0, 16, .inl g))]) [0, 1] rfl
  have hDc := hD.sub (ws' := [(h0, .inr (1, [.ref bv, .int 0, w1, .int 11])), (bv, .inl (y 0, 16, .inl g))]) [0, 1] (by decide) rfl
  have hFc := va_free (wc := [(h0, .inr (1, [.ref bv, .int 0, w1, .int 11])), (bv, .inl (y 0, 16, .inl g))]) hD hS hA [0, 1] rfl
  refine va_callq (va_runSU (hK.1 1 _ rfl).2 (As := [.ref sx]) (rest := []) ⟨hx, hb, hml, hown, hts⟩ (c_ASBapp_8_11_16 l D y s.heap.size h0 bv w1 sx tx g) (va_cwSU 1 hts gv_c_SBapp_8_11_16_c_ASBapp_8_11_16_29 rfl rfl rfl (by decide +kernel) ⟨(Nat.le_of_ble_eq_true rfl), (Nat.le_of_ble_eq_true rfl)⟩) (zB.preV hPc hDc hK hN hE hO hT hG hS hFc (fun _ h => nomatch h) (List.forall_mem_cons.mpr ⟨List.mem_of_getElem? (i := 0) rfl, (fun _ h => nomatch h)⟩) (fun _ h => nomatch h) (List.forall_mem_cons.mpr ⟨List.mem_of_getElem? (i := 0) rfl, (fun _ h => nomatch h)⟩) (va_recv hK hPc (ci := 1) (q0 := 0) rfl rfl)) rfl rfl hl.1 rfl (lv_room (Nat.le_of_ble_eq_true rfl)) dJ4_append_15ec4_2 ⟨(Nat.le_of_ble_eq_true rfl), (Nat.le_of_ble_eq_true rfl)⟩) hS (fun q _ h => hFc q h) hFc (fun r1 u t H1 locs ht hvm hw hB hz1 hk1 hS => ?_)
  obtain ⟨hP1, hD1⟩ := hB
  rw [ht] at hP1
  obtain ⟨hP, hD⟩ := va_join (wr := []) (w1 := [(h0, .inr (1, [.ref bv, .int 0, w1, .int 15])), (bv, .inl (y 0, 16, .inl (va_cpy zs8 g (0 : Int32).toNatClampNeg (11 : Int32).toNatClampNeg (4 : Int32).toNatClampNeg)))]) hP hD [0, 1] [] rfl rfl (by decide) (by decide) hk1 hFc hP1 hD1
  generalize H1 = H at hP hS ⊢
  have hP : va_P D vwCl [(h0, .inr (1, [.ref bv, .int 0, w1, .int 15])), (bv, .inl (y 0, 16, .inl (va_cpy zs8 g (0 : Int32).toNatClampNeg (11 : Int32).toNatClampNeg (4 : Int32).toNatClampNeg)))] H := hP
  have hD : va_D A [(h0, .inr (1, [.ref bv, .int 0, w1, .int 15])), (bv, .inl (y 0, 16, .inl (va_cpy zs8 g (0 : Int32).toNatClampNeg (11 : Int32).toNatClampNeg (4 : Int32).toNatClampNeg)))] := hD
  have hw : r1 = some h0 := hw
  subst hw
  refine W.eq (g2 := F0 m 5 ls [.ref h0]) rfl ?_
  refine lv_pop hx hb dJ4_append_15ec4_5 rfl ?_
  refine lv_aload_n hx hb dJ4_append_15ec4_6 rfl (lv_at hl 0 rfl) ?_
  have hP9 := hP.sub (ws' := [(h0, .inr (1, [.ref bv, .int 0, w1, .int 15])), (bv, .inl (y 0, 16, .inl (va_cpy zs8 g (0 : Int32).toNatClampNeg (11 : Int32).toNatClampNeg (4 : Int32).toNatClampNeg)))]) [0, 1] rfl
  have hD9 := hD.sub (ws' := [(h0, .inr (1, [.ref bv, .int 0, w1, .int 15])), (bv, .inl (y 0, 16, .inl (va_cpy zs8 g (0 : Int32).toNatClampNeg (11 : Int32).toNatClampNeg (4 : Int32).toNatClampNeg)))]) [0, 1] (by decide) rfl
  refine W.widen (k := 0) (n := 0) (Nat.le_of_ble_eq_true rfl) (Nat.le_of_ble_eq_true rfl) ?_
  exact W.aret (v := .ref h0) hx hb hr (Or.inl ⟨_, rfl⟩) (Or.inr ⟨_, rfl⟩) (fun t ht hW => ⟨⟨(some h0), (), rfl, rfl, by rw [ht]; exact hP9, hD9⟩, hS.F ht⟩) hS.2.2 dJ4_append_15ec4_7
def zk10 : Nat → Int32 := va_cpy zs8 zk0 (0 : Int32).toNatClampNeg (11 : Int32).toNatClampNeg (4 : Int32).toNatClampNeg
def zk11 : Nat → Int32 := va_cpy zk10 (fun _ => 0) (0 : Int32).toNatClampNeg (0 : Int32).toNatClampNeg (16 : Int32).toNatClampNeg
def wz_c_copyOf_b1 : List Cond := .code yJ7_copyOf_9075b cJ7_copyOf_9075b 3 (some (.array .byte)) :: ([.arrayClass .byte, .methodLink RJ7 304 Lib.Math.min.name, .static Lib.Math.min.name, .initialized "java/lang/Math", .code Lib.Math.min.name Lib.Math.min.code 2 (some .int), .methodLink RJ7 150 arraycopyName, .native arraycopyName, .static arraycopyName, .initialized "java/lang/System"] ++ ([]))
set_option maxHeartbeats 4000000 in
set_option maxRecDepth 100000 in
theorem c_copyOf_b1 (l : Launch) (D : va_G) (y : Nat → ClassId) (sz : Nat) (bv : Nat) : Met l yJ7_copyOf_9075b wz_c_copyOf_b1 ({ frames := 1, cells := 1, slots := 34, locals := 60 }) (va_Pc [.ref bv, .int 34] (zB D y [(bv, .inl (y 0, 16, .inl zk10))] sz [] [] [] [])) (va_Qr (fun _ : Unit => True) (fun _ q1 t => va_P D vwCl [(bv, .inl (y 0, 16, .inl zk10)), (q1, .inl (y 0, 34, .inl zk11))] t.heap ∧ va_D (va_A [(bv, .inl (y 0, 16, .inl zk10))] sz) [(bv, .inl (y 0, 16, .inl zk10)), (q1, .inl (y 0, 34, .inl zk11))]) (va_A [(bv, .inl (y 0, 16, .inl zk10))] sz)) 1 34 (va_A [(bv, .inl (y 0, 16, .inl zk10))] sz) := by
  refine Met.ofW (cc := cJ7_copyOf_9075b) (maxL := 3) (ret := (some (.array .byte))) (by decide) rfl ?_
  intro p e s m args below meth c s₁ B hml hv
  obtain ⟨rfl, hsz, hP, hK, hD0, hN, hE, hO, hT, hG⟩ := hv
  have hx := B.exec
  have hb := B.bytes
  have hr := B.returns
  have hts := atoms_spec (ws := wz_c_copyOf_b1) B.pre
  have hown : s.vm.findClass RJ7 = some m.cls := findClass_of_methodNamed B.named
  have hlocks := B.notSynchronized
  subst hsz
  have hD := hD0.self (sz := s.heap.size)
  generalize hAe : va_A [(bv, .inl (y 0, 16, .inl zk10))] s.heap.size = A at hD hE hT hG ⊢
  have hA : ∀ q : Nat, s.heap.size ≤ q → A q := fun q h => by rw [← hAe]; exact Or.inr h
  have hS : va_S A s.heap s.heap [] := va_S.rf
  have hl := lv_entry ([.ref bv, .int 34]) (n := 3) (Nat.le_of_ble_eq_true rfl)
  rw [lg_entry_eq]
  generalize (lg_sl ([.ref bv, .int 34]) ++ List.replicate (3 - (lg_sl ([.ref bv, .int 34])).length) Slot.unset).toArray = ls at hl ⊢
  have hl : lv_has ls 3 [(0, .ref bv), (1, .int 34)] := hl
  refine lv_iload_n hx hb dJ7_copyOf_9075b_0 rfl (lv_at hl 1 rfl) ?_
  refine lv_aload_n hx hb dJ7_copyOf_9075b_1 rfl (lv_at hl 0 rfl) ?_
  refine va_alen (v := 16) hx hb hK hP 0 0 rfl rfl (show Int32.ofNat 16 = (16 : Int32) from by decide) dJ7_copyOf_9075b_2 ?_
  refine lv_icmp_ne (tgt := 14) hx hb dJ7_copyOf_9075b_3 (by decide) (fun _ => ?_) (fun c9 => absurd c9 (by decide))
  refine lv_iload_n hx hb dJ7_copyOf_9075b_14 rfl (lv_at hl 1 rfl) ?_
  refine zz_newa (atype := .byte) (n := 34) (N' := 34) (a0 := (34, .inl (fun _ => 0))) (ty := .byte) hx hb (hts (.arrayClass .byte) (by decide +kernel)) rfl hK 0 rfl hP hD hS hA (zz_aB 34) (by decide +kernel) (by decide +kernel) (by decide +kernel) (Nat.le_of_ble_eq_true rfl) (Nat.le_of_ble_eq_true rfl) dJ7_copyOf_9075b_15 (fun q1 H hP hD hS => ?_)
  have hP : va_P D vwCl [(bv, .inl (y 0, 16, .inl zk10)), (q1, .inl (y 0, 34, .inl (fun _ => 0)))] H := hP
  have hD : va_D A [(bv, .inl (y 0, 16, .inl zk10)), (q1, .inl (y 0, 34, .inl (fun _ => 0)))] := hD
  refine lv_astore_n (lv' := [(2, .ref q1), (0, .ref bv), (1, .int 34)]) hx hb dJ7_copyOf_9075b_17 rfl hl (by decide) rfl (fun ls hl => ?_)
  refine lv_aload_n hx hb dJ7_copyOf_9075b_18 rfl (lv_at hl 1 rfl) ?_
  refine lv_iconst (v := 0) hx hb dJ7_copyOf_9075b_19 (by decide) ?_
  refine lv_aload_n hx hb dJ7_copyOf_9075b_20 rfl (lv_at hl 0 rfl) ?_
  refine lv_iconst (v := 0) hx hb dJ7_copyOf_9075b_21 (by decide) ?_
  refine lv_aload_n hx hb dJ7_copyOf_9075b_22 rfl (lv_at hl 1 rfl) ?_
  refine va_alen (v := 16) hx hb hK hP 0 0 rfl rfl (show Int32.ofNat 16 = (16 : Int32) from by decide) dJ7_copyOf_9075b_23 ?_
  refine lv_iload_n hx hb dJ7_copyOf_9075b_24 rfl (lv_at hl 2 rfl) ?_
  refine va_mmin hx hb (hml.trans hl.1.symm) hown (hts (.methodLink RJ7 304 Lib.Math.min.name) (by decide +kernel)) (hts (.static Lib.Math.min.name) (by decide +kernel)) (hts (.initialized "java/lang/Math") (by decide +kernel)) (hts (.code Lib.Math.min.name Lib.Math.min.code 2 (some .int)) (by decide +kernel)) (Nat.le_of_ble_eq_true rfl) (Nat.le_of_ble_eq_true rfl) (Nat.le_of_ble_eq_true rfl) (Nat.le_of_ble_eq_true rfl) dJ7_copyOf_9075b_25 ?_
  refine lv_topi (fun v2 ev2 => ?_)
  have ev2 : v2 = 16 := ev2.trans (by decide +kernel)
  subst ev2
  refine va_copyi (ty := .byte) (sp := 0) (dp := 0) (n := 16) hx hb (hml.trans hl.1.symm) hown (hts (.methodLink RJ7 150 arraycopyName) (by decide +kernel)) (hts (.native arraycopyName) (by decide +kernel)) (hts (.static arraycopyName) (by decide +kernel)) (hts (.initialized "java/lang/System") (by decide +kernel)) hK hP hD hS 0 1 0 0 rfl rfl rfl rfl rfl (by decide +kernel) (by decide +kernel) (by decide +kernel) (by decide +kernel) (by decide +kernel) (by decide +kernel) (Nat.le_of_ble_eq_true rfl) (Nat.le_of_ble_eq_true rfl) dJ7_copyOf_9075b_28 (fun H locs hP hD hS => ?_)
  have hP : va_P D vwCl [(bv, .inl (y 0, 16, .inl zk10)), (q1, .inl (y 0, 34, .inl zk11))] H := hP
  have hD : va_D A [(bv, .inl (y 0, 16, .inl zk10)), (q1, .inl (y 0, 34, .inl zk11))] := hD
  refine lv_aload_n hx hb dJ7_copyOf_9075b_31 rfl (lv_at hl 0 rfl) ?_
  have hP9 := hP.sub (ws' := [(bv, .inl (y 0, 16, .inl zk10)), (q1, .inl (y 0, 34, .inl zk11))]) [0, 1] rfl
  have hD9 := hD.sub (ws' := [(bv, .inl (y 0, 16, .inl zk10)), (q1, .inl (y 0, 34, .inl zk11))]) [0, 1] (by decide) rfl
  refine W.widen (k := 1) (n := 34) (Nat.le_of_ble_eq_true rfl) (Nat.le_of_ble_eq_true rfl) ?_
  exact W.aret (v := .ref q1) hx hb hr (Or.inr ⟨_, rfl⟩) (Or.inr ⟨_, rfl⟩) (fun t ht hW => ⟨⟨(), q1, rfl, trivial, by rw [ht]; exact hP9, hD9⟩, hS.F ht⟩) hS.2.2 dJ7_copyOf_9075b_32
def wz_c_ens_b1 : List Cond := .code yJ5_ensureCapacityInternal_d00df cJ5_ensureCapacityInternal_d00df 3 none :: ([.fieldLink RJ5 15 "java/lang/AbstractStringBuilder" "value" "[B", .fieldLink RJ5 22 "java/lang/AbstractStringBuilder" "coder" "B", .methodLink RJ5 104 ⟨"java/lang/AbstractStringBuilder", "newCapacity", "(I)I"⟩, .sameMethod "java/lang/AbstractStringBuilder" "java/lang/AbstractStringBuilder" "newCapacity" "(I)I", .selects RJ4 ⟨"java/lang/AbstractStringBuilder", "newCapacity", "(I)I"⟩ yJ5_newCapacity_0f7a4, .instanceMethod yJ5_newCapacity_0f7a4, .initialized RJ5, .methodLink RJ5 108 yJ7_copyOf_9075b, .static yJ7_copyOf_9075b, .initialized RJ7] ++ (wsJ40 ++ (wz_c_newCap_20 ++ (wz_c_copyOf_b1 ++ ([])))))
set_option maxRecDepth 100000 in
theorem gz_c_ens_b1_c_newCap_20 : GoodIn wz_c_ens_b1 wz_c_newCap_20 := goodIn_sub (fun w h => List.mem_cons_of_mem _ (List.mem_append_right _ (List.mem_append_right _ (List.mem_append_left _ h)))) (by decide +kernel)
set_option maxRecDepth 100000 in
theorem gz_c_ens_b1_c_copyOf_b1 : GoodIn wz_c_ens_b1 wz_c_copyOf_b1 := goodIn_sub (fun w h => List.mem_cons_of_mem _ (List.mem_append_right _ (List.mem_append_right _ (List.mem_append_right _ (List.mem_append_left _ h))))) (by decide +kernel)
set_option maxRecDepth 100000 in
theorem gv_c_ens_b1_c_newCap_20_104 : GoodIn wz_c_ens_b1 (va_wsU RJ5 104 RJ4 "java/lang/AbstractStringBuilder" ⟨"java/lang/AbstractStringBuilder", "newCapacity", "(I)I"⟩ yJ5_newCapacity_0f7a4 wz_c_newCap_20) := goodIn_app (goodIn_of _ (by decide +kernel)) gz_c_ens_b1_c_newCap_20
set_option maxRecDepth 100000 in
theorem gv_c_ens_b1_c_copyOf_b1_108 : GoodIn wz_c_ens_b1 (va_wsS RJ5 108 yJ7_copyOf_9075b wz_c_copyOf_b1) := goodIn_app (goodIn_of _ (by decide +kernel)) gz_c_ens_b1_c_copyOf_b1
set_option maxHeartbeats 4000000 in
set_option maxRecDepth 100000 in
theorem c_ens_b1 (l : Launch) (D : va_G) (y : Nat → ClassId) (sz : Nat) (h0 : Nat) (bv : Nat) (w1 : Value) (w2 : Value) : Met l yJ5_ensureCapacityInternal_d00df wz_c_ens_b1 ({ frames := 3, cells := 1, slots := 34, locals := 82 }) (va_Pc [.ref h0, .int 20] (zB D y [(h0, .inr (1, [.ref bv, .int 0, w1, w2])), (bv, .inl (y 0, 16, .inl zk10))] sz [] [] [] [])) (va_Qv (fun _ : Unit => True) (fun _ t => ∃ r5 : Nat, va_P D vwCl [(h0, .inr (1, [.ref r5, .int 0, w1, w2])), (bv, .inl (y 0, 16, .inl zk10)), (r5, .inl (y 0, 34, .inl zk11))] t.heap ∧ va_D (va_A [(h0, .inr (1, [.ref bv, .int 0, w1, w2])), (bv, .inl (y 0, 16, .inl zk10))] sz) [(h0, .inr (1, [.ref r5, .int 0, w1, w2])), (bv, .inl (y 0, 16, .inl zk10)), (r5, .inl (y 0, 34, .inl zk11))]) (va_A [(h0, .inr (1, [.ref bv, .int 0, w1, w2])), (bv, .inl (y 0, 16, .inl zk10))] sz)) 1 34 (va_A [(h0, .inr (1, [.ref bv, .int 0, w1, w2])), (bv, .inl (y 0, 16, .inl zk10))] sz) := by
  refine Met.ofW (cc := cJ5_ensureCapacityInternal_d00df) (maxL := 3) (ret := none) (by decide) rfl ?_
  intro p e s m args below meth c s₁ B hml hv
  obtain ⟨rfl, hsz, hP, hK, hD0, hN, hE, hO, hT, hG⟩ := hv
  have hx := B.exec
  have hb := B.bytes
  have hr := B.returns
  have hts := atoms_spec (ws := wz_c_ens_b1) B.pre
  have hown : s.vm.findClass RJ5 = some m.cls := findClass_of_methodNamed B.named
  have hlocks := B.notSynchronized
  subst hsz
  have hD := hD0.self (sz := s.heap.size)
  generalize hAe : va_A [(h0, .inr (1, [.ref bv, .int 0, w1, w2])), (bv, .inl (y 0, 16, .inl zk10))] s.heap.size = A at hD hE hT hG ⊢
  have hA : ∀ q : Nat, s.heap.size ≤ q → A q := fun q h => by rw [← hAe]; exact Or.inr h
  have hS : va_S A s.heap s.heap [] := va_S.rf
  have hl := lv_entry ([.ref h0, .int 20]) (n := 3) (Nat.le_of_ble_eq_true rfl)
  rw [lg_entry_eq]
  generalize (lg_sl ([.ref h0, .int 20]) ++ List.replicate (3 - (lg_sl ([.ref h0, .int 20])).length) Slot.unset).toArray = ls at hl ⊢
  have hl : lv_has ls 3 [(0, .ref h0), (1, .int 20)] := hl
  refine lv_aload_n hx hb dJ5_ensureCapacityInternal_d00df_0 rfl (lv_at hl 0 rfl) ?_
  refine va_get (D := D) (ci := 1) (v := .ref bv) (C := RJ4) (T := TJ4) (N := 4) hx hb hts (by decide +kernel) hown hK hP 0 rfl rfl 0 (by decide) (hts (.fieldLink RJ5 15 "java/lang/AbstractStringBuilder" "value" "[B") (by decide +kernel)) (fun _ h9 => h9) rfl dJ5_ensureCapacityInternal_d00df_1 ?_
  refine va_alen (v := 16) hx hb hK hP 1 0 rfl rfl (show Int32.ofNat 16 = (16 : Int32) from by decide) dJ5_ensureCapacityInternal_d00df_4 ?_
  refine lv_aload_n hx hb dJ5_ensureCapacityInternal_d00df_5 rfl (lv_at hl 0 rfl) ?_
  refine va_get (D := D) (ci := 1) (v := .int 0) (C := RJ4) (T := TJ4) (N := 4) hx hb hts (by decide +kernel) hown hK hP 0 rfl rfl 1 (by decide) (hts (.fieldLink RJ5 22 "java/lang/AbstractStringBuilder" "coder" "B") (by decide +kernel)) (fun _ h9 => h9) rfl dJ5_ensureCapacityInternal_d00df_6 ?_
  refine lv_ishr hx hb dJ5_ensureCapacityInternal_d00df_9 ?_
  refine lv_topi (fun v1 ev1 => ?_)
  have ev1 : v1 = 16 := ev1.trans (by decide +kernel)
  subst ev1
  refine lv_istore_n (lv' := [(2, .int 16), (0, .ref h0), (1, .int 20)]) hx hb dJ5_ensureCapacityInternal_d00df_10 rfl hl (by decide) rfl (fun ls hl => ?_)
  refine lv_iload_n hx hb dJ5_ensureCapacityInternal_d00df_11 rfl (lv_at hl 2 rfl) ?_
  refine lv_iload_n hx hb dJ5_ensureCapacityInternal_d00df_12 rfl (lv_at hl 0 rfl) ?_
  refine lv_isub hx hb dJ5_ensureCapacityInternal_d00df_13 ?_
  refine lv_topi (fun v2 ev2 => ?_)
  have ev2 : v2 = 4 := ev2.trans (by decide +kernel)
  subst ev2
  refine lv_if_le (tgt := 38) hx hb dJ5_ensureCapacityInternal_d00df_14 (by decide) (fun c9 => absurd c9 (by decide)) (fun _ => ?_)
  refine lv_aload_n hx hb dJ5_ensureCapacityInternal_d00df_17 rfl (lv_at hl 1 rfl) ?_
  refine lv_aload_n hx hb dJ5_ensureCapacityInternal_d00df_18 rfl (lv_at hl 1 rfl) ?_
  refine va_get (D := D) (ci := 1) (v := .ref bv) (C := RJ4) (T := TJ4) (N := 4) hx hb hts (by decide +kernel) hown hK hP 0 rfl rfl 0 (by decide) (hts (.fieldLink RJ5 15 "java/lang/AbstractStringBuilder" "value" "[B") (by decide +kernel)) (fun _ h9 => h9) rfl dJ5_ensureCapacityInternal_d00df_19 ?_
  refine lv_aload_n hx hb dJ5_ensureCapacityInternal_d00df_22 rfl (lv_at hl 1 rfl) ?_
  refine lv_iload_n hx hb dJ5_ensureCapacityInternal_d00df_23 rfl (lv_at hl 2 rfl) ?_
  have hPc := hP.sub (ws' := [(h0, .inr (1, [.ref bv, .int 0, w1, w2])), (bv, .inl (y 0, 16, .inl zk10))]) [0, 1] rfl
  have hDc := hD.sub (ws' := [(h0, .inr (1, [.ref bv, .int 0, w1, w2])), (bv, .inl (y 0, 16, .inl zk10))]) [0, 1] (by decide) rfl
  have hFc := va_free (wc := [(h0, .inr (1, [.ref bv, .int 0, w1, w2])), (bv, .inl (y 0, 16, .inl zk10))]) hD hS hA [0, 1] rfl
  refine va_calli (va_runU (As := [.int 20]) (rest := [.ref bv, .ref h0]) ⟨hx, hb, hml, hown, hts⟩ (c_newCap_20 l D y s.heap.size h0 bv w1 w2 zk10) (va_cwU 1 hts gv_c_ens_b1_c_newCap_20_104 rfl rfl rfl rfl (by decide +kernel) ⟨(Nat.le_of_ble_eq_true rfl), (Nat.le_of_ble_eq_true rfl)⟩) (zB.preV hPc hDc hK hN hE hO hT hG hS hFc (fun _ h => nomatch h) (fun _ h => nomatch h) (fun _ h => nomatch h) (fun _ h => nomatch h) (va_recv hK hPc (ci := 1) (q0 := 0) rfl rfl)) rfl rfl hl.1 rfl (lv_room (Nat.le_of_ble_eq_true rfl)) dJ5_ensureCapacityInternal_d00df_24 ⟨(Nat.le_of_ble_eq_true rfl), (Nat.le_of_ble_eq_true rfl)⟩) hS (fun q _ h => hFc q h) hFc (fun r3 u t H1 locs ht hvm hw hB hz1 hk1 hS => ?_)
  obtain ⟨hP1, hD1⟩ := hB
  rw [ht] at hP1
  obtain ⟨hP, hD⟩ := va_join (wr := []) (w1 := [(h0, .inr (1, [.ref bv, .int 0, w1, w2])), (bv, .inl (y 0, 16, .inl zk10))]) hP hD [0, 1] [] rfl rfl (by decide) (by decide) hk1 hFc hP1 hD1
  generalize H1 = H at hP hS ⊢
  have hP : va_P D vwCl [(h0, .inr (1, [.ref bv, .int 0, w1, w2])), (bv, .inl (y 0, 16, .inl zk10))] H := hP
  have hD : va_D A [(h0, .inr (1, [.ref bv, .int 0, w1, w2])), (bv, .inl (y 0, 16, .inl zk10))] := hD
  have hw : r3 = 34 := hw
  subst hw
  refine lv_aload_n hx hb dJ5_ensureCapacityInternal_d00df_27 rfl (lv_at hl 1 rfl) ?_
  refine va_get (D := D) (ci := 1) (v := .int 0) (C := RJ4) (T := TJ4) (N := 4) hx hb hts (by decide +kernel) hown hK hP 0 rfl rfl 1 (by decide) (hts (.fieldLink RJ5 22 "java/lang/AbstractStringBuilder" "coder" "B") (by decide +kernel)) (fun _ h9 => h9) rfl dJ5_ensureCapacityInternal_d00df_28 ?_
  refine lv_ishl hx hb dJ5_ensureCapacityInternal_d00df_31 ?_
  refine lv_topi (fun v4 ev4 => ?_)
  have ev4 : v4 = 34 := ev4.trans (by decide +kernel)
  subst ev4
  have hPc := hP.sub (ws' := [(bv, .inl (y 0, 16, .inl zk10))]) [1] rfl
  have hDc := hD.sub (ws' := [(bv, .inl (y 0, 16, .inl zk10))]) [1] (by decide) rfl
  have hFc := va_free (wc := [(bv, .inl (y 0, 16, .inl zk10))]) hD hS hA [1] rfl
  refine va_callr (va_runS (As := [.ref bv, .int 34]) (rest := [.ref h0]) ⟨hx, hb, hml, hown, hts⟩ (c_copyOf_b1 l D y H.size bv) (va_cwS 2 hts gv_c_ens_b1_c_copyOf_b1_108 rfl rfl rfl (by decide +kernel) ⟨(Nat.le_of_ble_eq_true rfl), (Nat.le_of_ble_eq_true rfl)⟩) (zB.preS hPc hDc hK hN hE hO hT hG hS hFc (fun _ h => nomatch h) (fun _ h => nomatch h) (fun _ h => nomatch h) (fun _ h => nomatch h)) rfl rfl hl.1 rfl (lv_room (Nat.le_of_ble_eq_true rfl)) dJ5_ensureCapacityInternal_d00df_32 ⟨(Nat.le_of_ble_eq_true rfl), (Nat.le_of_ble_eq_true rfl)⟩) hS (fun q _ h => hFc q h) hFc (fun u r5 t H1 locs ht hvm hw hB hz1 hk1 hS => ?_)
  obtain ⟨hP1, hD1⟩ := hB
  rw [ht] at hP1
  obtain ⟨hP, hD⟩ := va_join (wr := [(h0, .inr (1, [.ref bv, .int 0, w1, w2]))]) (w1 := [(bv, .inl (y 0, 16, .inl zk10)), (r5, .inl (y 0, 34, .inl zk11))]) hP hD [1] [0] rfl rfl (by decide) (by decide) hk1 hFc hP1 hD1
  generalize H1 = H at hP hS ⊢
  have hP : va_P D vwCl [(h0, .inr (1, [.ref bv, .int 0, w1, w2])), (bv, .inl (y 0, 16, .inl zk10)), (r5, .inl (y 0, 34, .inl zk11))] H := hP
  have hD : va_D A [(h0, .inr (1, [.ref bv, .int 0, w1, w2])), (bv, .inl (y 0, 16, .inl zk10)), (r5, .inl (y 0, 34, .inl zk11))] := hD
  refine va_put (D := D) (ci := 1) (v := .ref r5) (ty := (.array .byte)) (C := RJ4) (T := TJ4) (N := 4) hx hb hts (by decide +kernel) tyJ4 tyJ4_ok nmJ4 hown hK hP hD hS 0 rfl rfl 0 (by decide) (hts (.fieldLink RJ5 15 "java/lang/AbstractStringBuilder" "value" "[B") (by decide +kernel)) (fun _ h9 => h9) rfl (by decide +kernel) rfl rfl (Nat.le_of_ble_eq_true rfl) dJ5_ensureCapacityInternal_d00df_35 (fun H locs hP hD hS => ?_)
  have hP : va_P D vwCl [(h0, .inr (1, [.ref r5, .int 0, w1, w2])), (bv, .inl (y 0, 16, .inl zk10)), (r5, .inl (y 0, 34, .inl zk11))] H := hP
  have hD : va_D A [(h0, .inr (1, [.ref r5, .int 0, w1, w2])), (bv, .inl (y 0, 16, .inl zk10)), (r5, .inl (y 0, 34, .inl zk11))] := hD
  have hP9 := hP.sub (ws' := [(h0, .inr (1, [.ref r5, .int 0, w1, w2])), (bv, .inl (y 0, 16, .inl zk10)), (r5, .inl (y 0, 34, .inl zk11))]) [0, 1, 2] rfl
  have hD9 := hD.sub (ws' := [(h0, .inr (1, [.ref r5, .int 0, w1, w2])), (bv, .inl (y 0, 16, .inl zk10)), (r5, .inl (y 0, 34, .inl zk11))]) [0, 1, 2] (by decide) rfl
  refine W.widen (k := 1) (n := 34) (Nat.le_of_ble_eq_true rfl) (Nat.le_of_ble_eq_true rfl) ?_
  exact W.vret hx hb hr (fun t ht hW => ⟨⟨(), rfl, trivial, r5, by rw [ht]; exact hP9, hD9⟩, hS.F ht⟩) hS.2.2 dJ5_ensureCapacityInternal_d00df_38
def wz_c_getBytes_10_15_34 : List Cond := .code yJ0_getBytes_840e7 cJ0_getBytes_840e7 4 none :: ([.methodLink RJ0 335 yJ0_coder_7d493, .instanceMethod yJ0_coder_7d493, .selects RJ0 yJ0_coder_7d493 yJ0_coder_7d493, .initialized RJ0, .fieldLink RJ0 9 "java/lang/String" "value" "[B", .methodLink RJ0 212 arraycopyName, .native arraycopyName, .static arraycopyName, .initialized "java/lang/System"] ++ (wz_c_coder_o ++ ([])))
set_option maxRecDepth 100000 in
theorem gz_c_getBytes_10_15_34_c_coder_o : GoodIn wz_c_getBytes_10_15_34 wz_c_coder_o := goodIn_sub (fun w h => List.mem_cons_of_mem _ (List.mem_append_right _ (List.mem_append_left _ h))) (by decide +kernel)
set_option maxRecDepth 100000 in
theorem gv_c_getBytes_10_15_34_c_coder_o_335 : GoodIn wz_c_getBytes_10_15_34 (wsV RJ0 335 RJ0 yJ0_coder_7d493 wz_c_coder_o) := goodIn_app (goodIn_of _ (by decide +kernel)) gz_c_getBytes_10_15_34_c_coder_o
set_option maxHeartbeats 4000000 in
set_option maxRecDepth 100000 in
theorem c_getBytes_10_15_34 (l : Launch) (D : va_G) (y : Nat → ClassId) (sz : Nat) (bv : Nat) (sx : Nat) (tx : Nat) (g : Nat → Int32) : Met l yJ0_getBytes_840e7 wz_c_getBytes_10_15_34 ({ frames := 1, cells := 0, slots := 0, locals := 60 }) (va_Pc [.ref sx, .ref bv, .int 15, .int 0] (zB D y [(bv, .inl (y 0, 34, .inl g))] sz [] [("java/lang/String", "COMPACT_STRINGS", "Z", .int 1)] [] [.inr (.inl (sx, tx, 5, zs10))])) (va_Qv (fun _ : Unit => True) (fun _ t => va_P D vwCl [(bv, .inl (y 0, 34, .inl (va_cpy zs10 g (0 : Int32).toNatClampNeg (15 : Int32).toNatClampNeg (5 : Int32).toNatClampNeg)))] t.heap ∧ va_D (va_A [(bv, .inl (y 0, 34, .inl g))] sz) [(bv, .inl (y 0, 34, .inl (va_cpy zs10 g (0 : Int32).toNatClampNeg (15 : Int32).toNatClampNeg (5 : Int32).toNatClampNeg)))]) (va_A [(bv, .inl (y 0, 34, .inl g))] sz)) 0 0 (va_A [(bv, .inl (y 0, 34, .inl g))] sz) := by
  refine Met.ofW (cc := cJ0_getBytes_840e7) (maxL := 4) (ret := none) (by decide) rfl ?_
  intro p e s m args below meth c s₁ B hml hv
  obtain ⟨rfl, hsz, hP, hK, hD0, hN, hE, hO, hT, hG⟩ := hv
  have hx := B.exec
  have hb := B.bytes
  have hr := B.returns
  have hts := atoms_spec (ws := wz_c_getBytes_10_15_34) B.pre
  have hown : s.vm.findClass RJ0 = some m.cls := findClass_of_methodNamed B.named
  have hlocks := B.notSynchronized
  subst hsz
  have hD := hD0.self (sz := s.heap.size)
  generalize hAe : va_A [(bv, .inl (y 0, 34, .inl g))] s.heap.size = A at hD hE hT hG ⊢
  have hA : ∀ q : Nat, s.heap.size ≤ q → A q := fun q h => by rw [← hAe]; exact Or.inr h
  have hS : va_S A s.heap s.heap [] := va_S.rf
  have hl := lv_entry ([.ref sx, .ref bv, .int 15, .int 0]) (n := 4) (Nat.le_of_ble_eq_true rfl)
  rw [lg_entry_eq]
  generalize (lg_sl ([.ref sx, .ref bv, .int 15, .int 0]) ++ List.replicate (4 - (lg_sl ([.ref sx, .ref bv, .int 15, .int 0])).length) Slot.unset).toArray = ls at hl ⊢
  have hl : lv_has ls 4 [(0, .ref sx), (1, .ref bv), (2, .int 15), (3, .int 0)] := hl
  refine lv_aload_n hx hb dJ0_getBytes_840e7_0 rfl (lv_at hl 0 rfl) ?_
  have hPc := hP.sub (ws' := []) [] rfl
  have hDc := hD.sub (ws' := []) [] (by decide) rfl
  have hFc := va_free (wc := []) hD hS hA [] rfl
  refine va_calli (va_runV (As := []) (rest := []) ⟨hx, hb, hml, hown, hts⟩ (c_coder_o l D y s.heap.size sx tx 5 zs10) (cwV 0 hts gv_c_getBytes_10_15_34_c_coder_o_335 rfl rfl rfl (by decide +kernel) ⟨(Nat.le_of_ble_eq_true rfl), (Nat.le_of_ble_eq_true rfl)⟩) (zB.preV hPc hDc hK hN hE hO hT hG hS hFc (fun _ h => nomatch h) (List.forall_mem_cons.mpr ⟨List.mem_of_getElem? (i := 0) rfl, (fun _ h => nomatch h)⟩) (fun _ h => nomatch h) (List.forall_mem_cons.mpr ⟨List.mem_of_getElem? (i := 0) rfl, (fun _ h => nomatch h)⟩) (zStr.recv (show zStr sx tx 5 zs10 A s s.heap from (hG (.inr (.inl (sx, tx, 5, zs10))) (List.mem_of_getElem? (i := 0) rfl))) hS)) rfl rfl hl.1 rfl (lv_room (Nat.le_of_ble_eq_true rfl)) dJ0_getBytes_840e7_1 ⟨(Nat.le_of_ble_eq_true rfl), (Nat.le_of_ble_eq_true rfl)⟩) hS (fun q _ h => hFc q h) hFc (fun r1 u t H1 locs ht hvm hw hB hz1 hk1 hS => ?_)
  obtain ⟨hP1, hD1⟩ := hB
  rw [ht] at hP1
  obtain ⟨hP, hD⟩ := va_join (wr := [(bv, .inl (y 0, 34, .inl g))]) (w1 := []) hP hD [] [0] rfl rfl (by decide) (by decide) hk1 hFc hP1 hD1
  generalize H1 = H at hP hS ⊢
  have hP : va_P D vwCl [(bv, .inl (y 0, 34, .inl g))] H := hP
  have hD : va_D A [(bv, .inl (y 0, 34, .inl g))] := hD
  have hw : r1 = 0 := hw
  subst hw
  refine lv_iload_n hx hb dJ0_getBytes_840e7_4 rfl (lv_at hl 3 rfl) ?_
  refine lv_icmp_ne (tgt := 28) hx hb dJ0_getBytes_840e7_5 (by decide) (fun c9 => absurd (by decide) c9) (fun _ => ?_)
  refine lv_aload_n hx hb dJ0_getBytes_840e7_8 rfl (lv_at hl 0 rfl) ?_
  refine vk_getf hx hb (show zStr sx tx 5 zs10 A s s.heap from (hG (.inr (.inl (sx, tx, 5, zs10))) (List.mem_of_getElem? (i := 0) rfl))).2.2.1 hS hown (hts (.fieldLink RJ0 9 "java/lang/String" "value" "[B") (by decide +kernel)) (fun _ h9 => h9) dJ0_getBytes_840e7_9 ?_
  refine lv_iconst (v := 0) hx hb dJ0_getBytes_840e7_12 (by decide) ?_
  refine lv_aload_n hx hb dJ0_getBytes_840e7_13 rfl (lv_at hl 1 rfl) ?_
  refine lv_iload_n hx hb dJ0_getBytes_840e7_14 rfl (lv_at hl 2 rfl) ?_
  refine lv_iload_n hx hb dJ0_getBytes_840e7_15 rfl (lv_at hl 3 rfl) ?_
  refine lv_ishl hx hb dJ0_getBytes_840e7_16 ?_
  refine lv_topi (fun v2 ev2 => ?_)
  have ev2 : v2 = 15 := ev2.trans (by decide +kernel)
  subst ev2
  refine lv_aload_n hx hb dJ0_getBytes_840e7_17 rfl (lv_at hl 0 rfl) ?_
  refine vk_getf hx hb (show zStr sx tx 5 zs10 A s s.heap from (hG (.inr (.inl (sx, tx, 5, zs10))) (List.mem_of_getElem? (i := 0) rfl))).2.2.1 hS hown (hts (.fieldLink RJ0 9 "java/lang/String" "value" "[B") (by decide +kernel)) (fun _ h9 => h9) dJ0_getBytes_840e7_18 ?_
  refine va_tlen (v := 5) hx hb (show zStr sx tx 5 zs10 A s s.heap from (hG (.inr (.inl (sx, tx, 5, zs10))) (List.mem_of_getElem? (i := 0) rfl))).2.2.2 hS (by decide) dJ0_getBytes_840e7_21 ?_
  refine vk_copyt (sp := 0) (dp := 15) (n := 5) (f := zs10) hx hb (hml.trans hl.1.symm) hown (hts (.methodLink RJ0 212 arraycopyName) (by decide +kernel)) (hts (.native arraycopyName) (by decide +kernel)) (hts (.static arraycopyName) (by decide +kernel)) (hts (.initialized "java/lang/System") (by decide +kernel)) hK hP hD hS (show zStr sx tx 5 zs10 A s s.heap from (hG (.inr (.inl (sx, tx, 5, zs10))) (List.mem_of_getElem? (i := 0) rfl))).2.2.2 0 0 rfl rfl (by decide +kernel) (by decide +kernel) (by decide +kernel) (by decide +kernel) (by decide +kernel) (by decide +kernel) (Nat.le_of_ble_eq_true rfl) (Nat.le_of_ble_eq_true rfl) dJ0_getBytes_840e7_22 (fun H locs hP hD hS => ?_)
  have hP : va_P D vwCl [(bv, .inl (y 0, 34, .inl (va_cpy zs10 g (0 : Int32).toNatClampNeg (15 : Int32).toNatClampNeg (5 : Int32).toNatClampNeg)))] H := hP
  have hD : va_D A [(bv, .inl (y 0, 34, .inl (va_cpy zs10 g (0 : Int32).toNatClampNeg (15 : Int32).toNatClampNeg (5 : Int32).toNatClampNeg)))] := hD
  refine lv_goto (tgt := 43) hx hb dJ0_getBytes_840e7_25 (by decide) ?_
  have hP9 := hP.sub (ws' := [(bv, .inl (y 0, 34, .inl (va_cpy zs10 g (0 : Int32).toNatClampNeg (15 : Int32).toNatClampNeg (5 : Int32).toNatClampNeg)))]) [0] rfl
  have hD9 := hD.sub (ws' := [(bv, .inl (y 0, 34, .inl (va_cpy zs10 g (0 : Int32).toNatClampNeg (15 : Int32).toNatClampNeg (5 : Int32).toNatClampNeg)))]) [0] (by decide) rfl
  refine W.widen (k := 0) (n := 0) (Nat.le_of_ble_eq_true rfl) (Nat.le_of_ble_eq_true rfl) ?_
  exact W.vret hx hb hr (fun t ht hW => ⟨⟨(), rfl, trivial, by rw [ht]; exact hP9, hD9⟩, hS.F ht⟩) hS.2.2 dJ0_getBytes_840e7_43
def wz_c_putStr_10_15_34 : List Cond := .code yJ5_putStringAt_47b60 cJ5_putStringAt_47b60 3 none :: ([.methodLink RJ5 397 ⟨"java/lang/AbstractStringBuilder", "inflateIfNeededFor", "(Ljava/lang/String;)V"⟩, .sameMethod "java/lang/AbstractStringBuilder" "java/lang/AbstractStringBuilder" "inflateIfNeededFor" "(Ljava/lang/String;)V", .selects RJ4 ⟨"java/lang/AbstractStringBuilder", "inflateIfNeededFor", "(Ljava/lang/String;)V"⟩ yJ5_inflateIfNeededFor_a7421, .instanceMethod yJ5_inflateIfNeededFor_a7421, .initialized RJ5, .fieldLink RJ5 15 "java/lang/AbstractStringBuilder" "value" "[B", .fieldLink RJ5 22 "java/lang/AbstractStringBuilder" "coder" "B", .methodLink RJ5 399 yJ0_getBytes_840e7, .instanceMethod yJ0_getBytes_840e7, .selects RJ0 yJ0_getBytes_840e7 yJ0_getBytes_840e7, .initialized RJ0] ++ (wsJ40 ++ (wz_c_inflIf ++ (wz_c_getBytes_10_15_34 ++ ([])))))
set_option maxRecDepth 100000 in
theorem gz_c_putStr_10_15_34_c_inflIf : GoodIn wz_c_putStr_10_15_34 wz_c_inflIf := goodIn_sub (fun w h => List.mem_cons_of_mem _ (List.mem_append_right _ (List.mem_append_right _ (List.mem_append_left _ h)))) (by decide +kernel)
set_option maxRecDepth 100000 in
theorem gz_c_putStr_10_15_34_c_getBytes_10_15_34 : GoodIn wz_c_putStr_10_15_34 wz_c_getBytes_10_15_34 := goodIn_sub (fun w h => List.mem_cons_of_mem _ (List.mem_append_right _ (List.mem_append_right _ (List.mem_append_right _ (List.mem_append_left _ h))))) (by decide +kernel)
set_option maxRecDepth 100000 in
theorem gv_c_putStr_10_15_34_c_inflIf_397 : GoodIn wz_c_putStr_10_15_34 (va_wsU RJ5 397 RJ4 "java/lang/AbstractStringBuilder" ⟨"java/lang/AbstractStringBuilder", "inflateIfNeededFor", "(Ljava/lang/String;)V"⟩ yJ5_inflateIfNeededFor_a7421 wz_c_inflIf) := goodIn_app (goodIn_of _ (by decide +kernel)) gz_c_putStr_10_15_34_c_inflIf
set_option maxRecDepth 100000 in
theorem gv_c_putStr_10_15_34_c_getBytes_10_15_34_399 : GoodIn wz_c_putStr_10_15_34 (wsV RJ5 399 RJ0 yJ0_getBytes_840e7 wz_c_getBytes_10_15_34) := goodIn_app (goodIn_of _ (by decide +kernel)) gz_c_putStr_10_15_34_c_getBytes_10_15_34
set_option maxHeartbeats 4000000 in
set_option maxRecDepth 100000 in
theorem c_putStr_10_15_34 (l : Launch) (D : va_G) (y : Nat → ClassId) (sz : Nat) (h0 : Nat) (bv : Nat) (w1 : Value) (w2 : Value) (sx : Nat) (tx : Nat) (g : Nat → Int32) : Met l yJ5_putStringAt_47b60 wz_c_putStr_10_15_34 ({ frames := 2, cells := 0, slots := 0, locals := 83 }) (va_Pc [.ref h0, .int 15, .ref sx] (zB D y [(h0, .inr (1, [.ref bv, .int 0, w1, w2])), (bv, .inl (y 0, 34, .inl g))] sz [] [("java/lang/String", "COMPACT_STRINGS", "Z", .int 1)] [] [.inr (.inl (sx, tx, 5, zs10))])) (va_Qv (fun _ : Unit => True) (fun _ t => va_P D vwCl [(h0, .inr (1, [.ref bv, .int 0, w1, w2])), (bv, .inl (y 0, 34, .inl (va_cpy zs10 g (0 : Int32).toNatClampNeg (15 : Int32).toNatClampNeg (5 : Int32).toNatClampNeg)))] t.heap ∧ va_D (va_A [(h0, .inr (1, [.ref bv, .int 0, w1, w2])), (bv, .inl (y 0, 34, .inl g))] sz) [(h0, .inr (1, [.ref bv, .int 0, w1, w2])), (bv, .inl (y 0, 34, .inl (va_cpy zs10 g (0 : Int32).toNatClampNeg (15 : Int32).toNatClampNeg (5 : Int32).toNatClampNeg)))]) (va_A [(h0, .inr (1, [.ref bv, .int 0, w1, w2])), (bv, .inl (y 0, 34, .inl g))] sz)) 0 0 (va_A [(h0, .inr (1, [.ref bv, .int 0, w1, w2])), (bv, .inl (y 0, 34, .inl g))] sz) := by
  refine Met.ofW (cc := cJ5_putStringAt_47b60) (maxL := 3) (ret := none) (by decide) rfl ?_
  intro p e s m args below meth c s₁ B hml hv
  obtain ⟨rfl, hsz, hP, hK, hD0, hN, hE, hO, hT, hG⟩ := hv
  have hx := B.exec
  have hb := B.bytes
  have hr := B.returns
  have hts := atoms_spec (ws := wz_c_putStr_10_15_34) B.pre
  have hown : s.vm.findClass RJ5 = some m.cls := findClass_of_methodNamed B.named
  have hlocks := B.notSynchronized
  subst hsz
  have hD := hD0.self (sz := s.heap.size)
  generalize hAe : va_A [(h0, .inr (1, [.ref bv, .int 0, w1, w2])), (bv, .inl (y 0, 34, .inl g))] s.heap.size = A at hD hE hT hG ⊢
  have hA : ∀ q : Nat, s.heap.size ≤ q → A q := fun q h => by rw [← hAe]; exact Or.inr h
  have hS : va_S A s.heap s.heap [] := va_S.rf
  have hl := lv_entry ([.ref h0, .int 15, .ref sx]) (n := 3) (Nat.le_of_ble_eq_true rfl)
  rw [lg_entry_eq]
  generalize (lg_sl ([.ref h0, .int 15, .ref sx]) ++ List.replicate (3 - (lg_sl ([.ref h0, .int 15, .ref sx])).length) Slot.unset).toArray = ls at hl ⊢
  have hl : lv_has ls 3 [(0, .ref h0), (1, .int 15), (2, .ref sx)] := hl
  refine lv_aload_n hx hb dJ5_putStringAt_47b60_0 rfl (lv_at hl 0 rfl) ?_
  refine lv_aload_n hx hb dJ5_putStringAt_47b60_1 rfl (lv_at hl 2 rfl) ?_
  have hPc := hP.sub (ws' := [(h0, .inr (1, [.ref bv, .int 0, w1, w2]))]) [0] rfl
  have hDc := hD.sub (ws' := [(h0, .inr (1, [.ref bv, .int 0, w1, w2]))]) [0] (by decide) rfl
  have hFc := va_free (wc := [(h0, .inr (1, [.ref bv, .int 0, w1, w2]))]) hD hS hA [0] rfl
  refine va_callv (va_runU (As := [.ref sx]) (rest := []) ⟨hx, hb, hml, hown, hts⟩ (c_inflIf l D y s.heap.size h0 ((.ref bv)) w1 w2 sx tx 5 zs10) (va_cwU 1 hts gv_c_putStr_10_15_34_c_inflIf_397 rfl rfl rfl rfl (by decide +kernel) ⟨(Nat.le_of_ble_eq_true rfl), (Nat.le_of_ble_eq_true rfl)⟩) (zB.preV hPc hDc hK hN hE hO hT hG hS hFc (fun _ h => nomatch h) (List.forall_mem_cons.mpr ⟨List.mem_of_getElem? (i := 0) rfl, (fun _ h => nomatch h)⟩) (fun _ h => nomatch h) (List.forall_mem_cons.mpr ⟨List.mem_of_getElem? (i := 0) rfl, (fun _ h => nomatch h)⟩) (va_recv hK hPc (ci := 1) (q0 := 0) rfl rfl)) rfl rfl hl.1 rfl (lv_room (Nat.le_of_ble_eq_true rfl)) dJ5_putStringAt_47b60_2 ⟨(Nat.le_of_ble_eq_true rfl), (Nat.le_of_ble_eq_true rfl)⟩) hS (fun q _ h => hFc q h) hFc (fun u t H1 locs ht hvm hw hB hz1 hk1 hS => ?_)
  obtain ⟨hP1, hD1⟩ := hB
  rw [ht] at hP1
  obtain ⟨hP, hD⟩ := va_join (wr := [(bv, .inl (y 0, 34, .inl g))]) (w1 := [(h0, .inr (1, [.ref bv, .int 0, w1, w2]))]) hP hD [0] [1] rfl rfl (by decide) (by decide) hk1 hFc hP1 hD1
  generalize H1 = H at hP hS ⊢
  have hP : va_P D vwCl [(bv, .inl (y 0, 34, .inl g)), (h0, .inr (1, [.ref bv, .int 0, w1, w2]))] H := hP
  have hD : va_D A [(bv, .inl (y 0, 34, .inl g)), (h0, .inr (1, [.ref bv, .int 0, w1, w2]))] := hD
  refine lv_aload_n hx hb dJ5_putStringAt_47b60_5 rfl (lv_at hl 2 rfl) ?_
  refine lv_aload_n hx hb dJ5_putStringAt_47b60_6 rfl (lv_at hl 0 rfl) ?_
  refine va_get (D := D) (ci := 1) (v := .ref bv) (C := RJ4) (T := TJ4) (N := 4) hx hb hts (by decide +kernel) hown hK hP 1 rfl rfl 0 (by decide) (hts (.fieldLink RJ5 15 "java/lang/AbstractStringBuilder" "value" "[B") (by decide +kernel)) (fun _ h9 => h9) rfl dJ5_putStringAt_47b60_7 ?_
  refine lv_iload_n hx hb dJ5_putStringAt_47b60_10 rfl (lv_at hl 1 rfl) ?_
  refine lv_aload_n hx hb dJ5_putStringAt_47b60_11 rfl (lv_at hl 0 rfl) ?_
  refine va_get (D := D) (ci := 1) (v := .int 0) (C := RJ4) (T := TJ4) (N := 4) hx hb hts (by decide +kernel) hown hK hP 1 rfl rfl 1 (by decide) (hts (.fieldLink RJ5 22 "java/lang/AbstractStringBuilder" "coder" "B") (by decide +kernel)) (fun _ h9 => h9) rfl dJ5_putStringAt_47b60_12 ?_
  have hPc := hP.sub (ws' := [(bv, .inl (y 0, 34, .inl g))]) [0] rfl
  have hDc := hD.sub (ws' := [(bv, .inl (y 0, 34, .inl g))]) [0] (by decide) rfl
  have hFc := va_free (wc := [(bv, .inl (y 0, 34, .inl g))]) hD hS hA [0] rfl
  refine va_callv (va_runV (As := [.ref bv, .int 15, .int 0]) (rest := []) ⟨hx, hb, hml, hown, hts⟩ (c_getBytes_10_15_34 l D y H.size bv sx tx g) (cwV 3 hts gv_c_putStr_10_15_34_c_getBytes_10_15_34_399 rfl rfl rfl (by decide +kernel) ⟨(Nat.le_of_ble_eq_true rfl), (Nat.le_of_ble_eq_true rfl)⟩) (zB.preV hPc hDc hK hN hE hO hT hG hS hFc (fun _ h => nomatch h) (List.forall_mem_cons.mpr ⟨List.mem_of_getElem? (i := 0) rfl, (fun _ h => nomatch h)⟩) (fun _ h => nomatch h) (List.forall_mem_cons.mpr ⟨List.mem_of_getElem? (i := 0) rfl, (fun _ h => nomatch h)⟩) (zStr.recv (show zStr sx tx 5 zs10 A s s.heap from (hG (.inr (.inl (sx, tx, 5, zs10))) (List.mem_of_getElem? (i := 0) rfl))) hS)) rfl rfl hl.1 rfl (lv_room (Nat.le_of_ble_eq_true rfl)) dJ5_putStringAt_47b60_15 ⟨(Nat.le_of_ble_eq_true rfl), (Nat.le_of_ble_eq_true rfl)⟩) hS (fun q _ h => hFc q h) hFc (fun u t H1 locs ht hvm hw hB hz1 hk1 hS => ?_)
  obtain ⟨hP1, hD1⟩ := hB
  rw [ht] at hP1
  obtain ⟨hP, hD⟩ := va_join (wr := [(h0, .inr (1, [.ref bv, .int 0, w1, w2]))]) (w1 := [(bv, .inl (y 0, 34, .inl (va_cpy zs10 g (0 : Int32).toNatClampNeg (15 : Int32).toNatClampNeg (5 : Int32).toNatClampNeg)))]) hP hD [0] [1] rfl rfl (by decide) (by decide) hk1 hFc hP1 hD1
  generalize H1 = H at hP hS ⊢
  have hP : va_P D vwCl [(h0, .inr (1, [.ref bv, .int 0, w1, w2])), (bv, .inl (y 0, 34, .inl (va_cpy zs10 g (0 : Int32).toNatClampNeg (15 : Int32).toNatClampNeg (5 : Int32).toNatClampNeg)))] H := hP
  have hD : va_D A [(h0, .inr (1, [.ref bv, .int 0, w1, w2])), (bv, .inl (y 0, 34, .inl (va_cpy zs10 g (0 : Int32).toNatClampNeg (15 : Int32).toNatClampNeg (5 : Int32).toNatClampNeg)))] := hD
  have hP9 := hP.sub (ws' := [(h0, .inr (1, [.ref bv, .int 0, w1, w2])), (bv, .inl (y 0, 34, .inl (va_cpy zs10 g (0 : Int32).toNatClampNeg (15 : Int32).toNatClampNeg (5 : Int32).toNatClampNeg)))]) [0, 1] rfl
  have hD9 := hD.sub (ws' := [(h0, .inr (1, [.ref bv, .int 0, w1, w2])), (bv, .inl (y 0, 34, .inl (va_cpy zs10 g (0 : Int32).toNatClampNeg (15 : Int32).toNatClampNeg (5 : Int32).toNatClampNeg)))]) [0, 1] (by decide) rfl
  refine W.widen (k := 0) (n := 0) (Nat.le_of_ble_eq_true rfl) (Nat.le_of_ble_eq_true rfl) ?_
  exact W.vret hx hb hr (fun t ht hW => ⟨⟨(), rfl, trivial, by rw [ht]; exact hP9, hD9⟩, hS.F ht⟩) hS.2.2 dJ5_putStringAt_47b60_18
def zk12 : Nat → Int32 := va_cpy zs10 zk11 (0 : Int32).toNatClampNeg (15 : Int32).toNatClampNeg (5 : Int32).toNatClampNeg
def wz_c_ASBapp_b1 : List Cond := .code yJ5_append_cf1ce cJ5_append_cf1ce 3 (some (.object "java/lang/AbstractStringBuilder")) :: ([.methodLink RJ5 32 yJ0_length_8abf5, .instanceMethod yJ0_length_8abf5, .selects RJ0 yJ0_length_8abf5 yJ0_length_8abf5, .initialized RJ0, .fieldLink RJ5 79 "java/lang/AbstractStringBuilder" "count" "I", .methodLink RJ5 100 ⟨"java/lang/AbstractStringBuilder", "ensureCapacityInternal", "(I)V"⟩, .sameMethod "java/lang/AbstractStringBuilder" "java/lang/AbstractStringBuilder" "ensureCapacityInternal" "(I)V", .selects RJ4 ⟨"java/lang/AbstractStringBuilder", "ensureCapacityInternal", "(I)V"⟩ yJ5_ensureCapacityInternal_d00df, .instanceMethod yJ5_ensureCapacityInternal_d00df, .initialized RJ5, .methodLink RJ5 208 ⟨"java/lang/AbstractStringBuilder", "putStringAt", "(ILjava/lang/String;)V"⟩, .sameMethod "java/lang/AbstractStringBuilder" "java/lang/AbstractStringBuilder" "putStringAt" "(ILjava/lang/String;)V", .selects RJ4 ⟨"java/lang/AbstractStringBuilder", "putStringAt", "(ILjava/lang/String;)V"⟩ yJ5_putStringAt_47b60, .instanceMethod yJ5_putStringAt_47b60] ++ (wsJ40 ++ (wz_c_len_o_5 ++ (wz_c_ens_b1 ++ (wz_c_putStr_10_15_34 ++ ([]))))))
set_option maxRecDepth 100000 in
theorem gz_c_ASBapp_b1_c_len_o_5 : GoodIn wz_c_ASBapp_b1 wz_c_len_o_5 := goodIn_sub (fun w h => List.mem_cons_of_mem _ (List.mem_append_right _ (List.mem_append_right _ (List.mem_append_left _ h)))) (by decide +kernel)
set_option maxRecDepth 100000 in
theorem gz_c_ASBapp_b1_c_ens_b1 : GoodIn wz_c_ASBapp_b1 wz_c_ens_b1 := goodIn_sub (fun w h => List.mem_cons_of_mem _ (List.mem_append_right _ (List.mem_append_right _ (List.mem_append_right _ (List.mem_append_left _ h))))) (by decide +kernel)
set_option maxRecDepth 100000 in
theorem gz_c_ASBapp_b1_c_putStr_10_15_34 : GoodIn wz_c_ASBapp_b1 wz_c_putStr_10_15_34 := goodIn_sub (fun w h => List.mem_cons_of_mem _ (List.mem_append_right _ (List.mem_append_right _ (List.mem_append_right _ (List.mem_append_right _ (List.mem_append_left _ h)))))) (by decide +kernel)
set_option maxRecDepth 100000 in
theorem gv_c_ASBapp_b1_c_len_o_5_32 : GoodIn wz_c_ASBapp_b1 (wsV RJ5 32 RJ0 yJ0_length_8abf5 wz_c_len_o_5) := goodIn_app (goodIn_of _ (by decide +kernel)) gz_c_ASBapp_b1_c_len_o_5
set_option maxRecDepth 100000 in
theorem gv_c_ASBapp_b1_c_ens_b1_100 : GoodIn wz_c_ASBapp_b1 (va_wsU RJ5 100 RJ4 "java/lang/AbstractStringBuilder" ⟨"java/lang/AbstractStringBuilder", "ensureCapacityInternal", "(I)V"⟩ yJ5_ensureCapacityInternal_d00df wz_c_ens_b1) := goodIn_app (goodIn_of _ (by decide +kernel)) gz_c_ASBapp_b1_c_ens_b1
set_option maxRecDepth 100000 in
theorem gv_c_ASBapp_b1_c_putStr_10_15_34_208 : GoodIn wz_c_ASBapp_b1 (va_wsU RJ5 208 RJ4 "java/lang/AbstractStringBuilder" ⟨"java/lang/AbstractStringBuilder", "putStringAt", "(ILjava/lang/String;)V"⟩ yJ5_putStringAt_47b60 wz_c_putStr_10_15_34) := goodIn_app (goodIn_of _ (by decide +kernel)) gz_c_ASBapp_b1_c_putStr_10_15_34
set_option maxHeartbeats 4000000 in
set_option maxRecDepth 100000 in
theorem c_ASBapp_b1 (l : Launch) (D : va_G) (y : Nat → ClassId) (sz : Nat) (h0 : Nat) (bv : Nat) (w1 : Value) (sx : Nat) (tx : Nat) : Met l yJ5_append_cf1ce wz_c_ASBapp_b1 ({ frames := 4, cells := 1, slots := 34, locals := 105 }) (va_Pc [.ref h0, .ref sx] (zB D y [(h0, .inr (1, [.ref bv, .int 0, w1, .int 15])), (bv, .inl (y 0, 16, .inl zk10))] sz [] [("java/lang/String", "COMPACT_STRINGS", "Z", .int 1)] [] [.inr (.inl (sx, tx, 5, zs10))])) (va_Qq (fun (r : Option Nat) (_ : Unit) => r = some h0) (fun _ t => ∃ q3 : Nat, va_P D vwCl [(h0, .inr (1, [.ref q3, .int 0, w1, .int 20])), (bv, .inl (y 0, 16, .inl zk10)), (q3, .inl (y 0, 34, .inl zk12))] t.heap ∧ va_D (va_A [(h0, .inr (1, [.ref bv, .int 0, w1, .int 15])), (bv, .inl (y 0, 16, .inl zk10))] sz) [(h0, .inr (1, [.ref q3, .int 0, w1, .int 20])), (bv, .inl (y 0, 16, .inl zk10)), (q3, .inl (y 0, 34, .inl zk12))]) (va_A [(h0, .inr (1, [.ref bv, .int 0, w1, .int 15])), (bv, .inl (y 0, 16, .inl zk10))] sz)) 1 34 (va_A [(h0, .inr (1, [.ref bv, .int 0, w1, .int 15])), (bv, .inl (y 0, 16, .inl zk10))] sz) := by
  refine Met.ofW (cc := cJ5_append_cf1ce) (maxL := 3) (ret := (some (.object "java/lang/AbstractStringBuilder"))) (by decide) rfl ?_
  intro p e s m args below meth c s₁ B hml hv
  obtain ⟨rfl, hsz, hP, hK, hD0, hN, hE, hO, hT, hG⟩ := hv
  have hx := B.exec
  have hb := B.bytes
  have hr := B.returns
  have hts := atoms_spec (ws := wz_c_ASBapp_b1) B.pre
  have hown : s.vm.findClass RJ5 = some m.cls := findClass_of_methodNamed B.named
  have hlocks := B.notSynchronized
  subst hsz
  have hD := hD0.self (sz := s.heap.size)
  generalize hAe : va_A [(h0, .inr (1, [.ref bv, .int 0, w1, .int 15])), (bv, .inl (y 0, 16, .inl zk10))] s.heap.size = A at hD hE hT hG ⊢
  have hA : ∀ q : Nat, s.heap.size ≤ q → A q := fun q h => by rw [← hAe]; exact Or.inr h
  have hS : va_S A s.heap s.heap [] := va_S.rf
  have hl := lv_entry ([.ref h0, .ref sx]) (n := 3) (Nat.le_of_ble_eq_true rfl)
  rw [lg_entry_eq]
  generalize (lg_sl ([.ref h0, .ref sx]) ++ List.replicate (3 - (lg_sl ([.ref h0, .ref sx])).length) Slot.unset).toArray = ls at hl ⊢
  have hl : lv_has ls 3 [(0, .ref h0), (1, .ref sx)] := hl
  refine lv_aload_n hx hb dJ5_append_cf1ce_0 rfl (lv_at hl 1 rfl) ?_
  refine lv_ifnonnull (tgt := 9) hx hb dJ5_append_cf1ce_1 (by decide) ?_
  refine lv_aload_n hx hb dJ5_append_cf1ce_9 rfl (lv_at hl 1 rfl) ?_
  have hPc := hP.sub (ws' := []) [] rfl
  have hDc := hD.sub (ws' := []) [] (by decide) rfl
  have hFc := va_free (wc := []) hD hS hA [] rfl
  refine va_calli (va_runV (As := []) (rest := []) ⟨hx, hb, hml, hown, hts⟩ (c_len_o_5 l D y s.heap.size sx tx zs10) (cwV 0 hts gv_c_ASBapp_b1_c_len_o_5_32 rfl rfl rfl (by decide +kernel) ⟨(Nat.le_of_ble_eq_true rfl), (Nat.le_of_ble_eq_true rfl)⟩) (zB.preV hPc hDc hK hN hE hO hT hG hS hFc (fun _ h => nomatch h) (List.forall_mem_cons.mpr ⟨List.mem_of_getElem? (i := 0) rfl, (fun _ h => nomatch h)⟩) (fun _ h => nomatch h) (List.forall_mem_cons.mpr ⟨List.mem_of_getElem? (i := 0) rfl, (fun _ h => nomatch h)⟩) (zStr.recv (show zStr sx tx 5 zs10 A s s.heap from (hG (.inr (.inl (sx, tx, 5, zs10))) (List.mem_of_getElem? (i := 0) rfl))) hS)) rfl rfl hl.1 rfl (lv_room (Nat.le_of_ble_eq_true rfl)) dJ5_append_cf1ce_10 ⟨(Nat.le_of_ble_eq_true rfl), (Nat.le_of_ble_eq_true rfl)⟩) hS (fun q _ h => hFc q h) hFc (fun r1 u t H1 locs ht hvm hw hB hz1 hk1 hS => ?_)
  obtain ⟨hP1, hD1⟩ := hB
  rw [ht] at hP1
  obtain ⟨hP, hD⟩ := va_join (wr := [(h0, .inr (1, [.ref bv, .int 0, w1, .int 15])), (bv, .inl (y 0, 16, .inl zk10))]) (w1 := []) hP hD [] [0, 1] rfl rfl (by decide) (by decide) hk1 hFc hP1 hD1
  generalize H1 = H at hP hS ⊢
  have hP : va_P D vwCl [(h0, .inr (1, [.ref bv, .int 0, w1, .int 15])), (bv, .inl (y 0, 16, .inl zk10))] H := hP
  have hD : va_D A [(h0, .inr (1, [.ref bv, .int 0, w1, .int 15])), (bv, .inl (y 0, 16, .inl zk10))] := hD
  have hw : r1 = 5 := hw
  subst hw
  refine lv_istore_n (lv' := [(2, .int 5), (0, .ref h0), (1, .ref sx)]) hx hb dJ5_append_cf1ce_13 rfl hl (by decide) rfl (fun ls hl => ?_)
  refine lv_aload_n hx hb dJ5_append_cf1ce_14 rfl (lv_at hl 1 rfl) ?_
  refine lv_aload_n hx hb dJ5_append_cf1ce_15 rfl (lv_at hl 1 rfl) ?_
  refine va_get (D := D) (ci := 1) (v := .int 15) (C := RJ4) (T := TJ4) (N := 4) hx hb hts (by decide +kernel) hown hK hP 0 rfl rfl 3 (by decide) (hts (.fieldLink RJ5 79 "java/lang/AbstractStringBuilder" "count" "I") (by decide +kernel)) (fun _ h9 => h9) rfl dJ5_append_cf1ce_16 ?_
  refine lv_iload_n hx hb dJ5_append_cf1ce_19 rfl (lv_at hl 0 rfl) ?_
  refine lv_iadd hx hb dJ5_append_cf1ce_20 ?_
  refine lv_topi (fun v2 ev2 => ?_)
  have ev2 : v2 = 20 := ev2.trans (by decide +kernel)
  subst ev2
  have hPc := hP.sub (ws' := [(h0, .inr (1, [.ref bv, .int 0, w1, .int 15])), (bv, .inl (y 0, 16, .inl zk10))]) [0, 1] rfl
  have hDc := hD.sub (ws' := [(h0, .inr (1, [.ref bv, .int 0, w1, .int 15])), (bv, .inl (y 0, 16, .inl zk10))]) [0, 1] (by decide) rfl
  have hFc := va_free (wc := [(h0, .inr (1, [.ref bv, .int 0, w1, .int 15])), (bv, .inl (y 0, 16, .inl zk10))]) hD hS hA [0, 1] rfl
  refine va_callv (va_runU (As := [.int 20]) (rest := []) ⟨hx, hb, hml, hown, hts⟩ (c_ens_b1 l D y H.size h0 bv w1 ((.int 15))) (va_cwU 1 hts gv_c_ASBapp_b1_c_ens_b1_100 rfl rfl rfl rfl (by decide +kernel) ⟨(Nat.le_of_ble_eq_true rfl), (Nat.le_of_ble_eq_true rfl)⟩) (zB.preV hPc hDc hK hN hE hO hT hG hS hFc (fun _ h => nomatch h) (fun _ h => nomatch h) (fun _ h => nomatch h) (fun _ h => nomatch h) (va_recv hK hPc (ci := 1) (q0 := 0) rfl rfl)) rfl rfl hl.1 rfl (lv_room (Nat.le_of_ble_eq_true rfl)) dJ5_append_cf1ce_21 ⟨(Nat.le_of_ble_eq_true rfl), (Nat.le_of_ble_eq_true rfl)⟩) hS (fun q _ h => hFc q h) hFc (fun u t H1 locs ht hvm hw hB hz1 hk1 hS => ?_)
  obtain ⟨q3, hP1, hD1⟩ := hB
  rw [ht] at hP1
  obtain ⟨hP, hD⟩ := va_join (wr := []) (w1 := [(h0, .inr (1, [.ref q3, .int 0, w1, .int 15])), (bv, .inl (y 0, 16, .inl zk10)), (q3, .inl (y 0, 34, .inl zk11))]) hP hD [0, 1] [] rfl rfl (by decide) (by decide) hk1 hFc hP1 hD1
  generalize H1 = H at hP hS ⊢
  have hP : va_P D vwCl [(h0, .inr (1, [.ref q3, .int 0, w1, .int 15])), (bv, .inl (y 0, 16, .inl zk10)), (q3, .inl (y 0, 34, .inl zk11))] H := hP
  have hD : va_D A [(h0, .inr (1, [.ref q3, .int 0, w1, .int 15])), (bv, .inl (y 0, 16, .inl zk10)), (q3, .inl (y 0, 34, .inl zk11))] := hD
  refine lv_aload_n hx hb dJ5_append_cf1ce_24 rfl (lv_at hl 1 rfl) ?_
  refine lv_aload_n hx hb dJ5_append_cf1ce_25 rfl (lv_at hl 1 rfl) ?_
  refine va_get (D := D) (ci := 1) (v := .int 15) (C := RJ4) (T := TJ4) (N := 4) hx hb hts (by decide +kernel) hown hK hP 0 rfl rfl 3 (by decide) (hts (.fieldLink RJ5 79 "java/lang/AbstractStringBuilder" "count" "I") (by decide +kernel)) (fun _ h9 => h9) rfl dJ5_append_cf1ce_26 ?_
  refine lv_aload_n hx hb dJ5_append_cf1ce_29 rfl (lv_at hl 2 rfl) ?_
  have hPc := hP.sub (ws' := [(h0, .inr (1, [.ref q3, .int 0, w1, .int 15])), (q3, .inl (y 0, 34, .inl zk11))]) [0, 2] rfl
  have hDc := hD.sub (ws' := [(h0, .inr (1, [.ref q3, .int 0, w1, .int 15])), (q3, .inl (y 0, 34, .inl zk11))]) [0, 2] (by decide) rfl
  have hFc := va_free (wc := [(h0, .inr (1, [.ref q3, .int 0, w1, .int 15])), (q3, .inl (y 0, 34, .inl zk11))]) hD hS hA [0, 2] rfl
  refine va_callv (va_runU (As := [.int 15, .ref sx]) (rest := []) ⟨hx, hb, hml, hown, hts⟩ (c_putStr_10_15_34 l D y H.size h0 q3 w1 ((.int 15)) sx tx zk11) (va_cwU 2 hts gv_c_ASBapp_b1_c_putStr_10_15_34_208 rfl rfl rfl rfl (by decide +kernel) ⟨(Nat.le_of_ble_eq_true rfl), (Nat.le_of_ble_eq_true rfl)⟩) (zB.preV hPc hDc hK hN hE hO hT hG hS hFc (fun _ h => nomatch h) (List.forall_mem_cons.mpr ⟨List.mem_of_getElem? (i := 0) rfl, (fun _ h => nomatch h)⟩) (fun _ h => nomatch h) (List.forall_mem_cons.mpr ⟨List.mem_of_getElem? (i := 0) rfl, (fun _ h => nomatch h)⟩) (va_recv hK hPc (ci := 1) (q0 := 0) rfl rfl)) rfl rfl hl.1 rfl (lv_room (Nat.le_of_ble_eq_true rfl)) dJ5_append_cf1ce_30 ⟨(Nat.le_of_ble_eq_true rfl), (Nat.le_of_ble_eq_true rfl)⟩) hS (fun q _ h => hFc q h) hFc (fun u t H1 locs ht hvm hw hB hz1 hk1 hS => ?_)
  obtain ⟨hP1, hD1⟩ := hB
  rw [ht] at hP1
  obtain ⟨hP, hD⟩ := va_join (wr := [(bv, .inl (y 0, 16, .inl zk10))]) (w1 := [(h0, .inr (1, [.ref q3, .int 0, w1, .int 15])), (q3, .inl (y 0, 34, .inl zk12))]) hP hD [0, 2] [1] rfl rfl (by decide) (by decide) hk1 hFc hP1 hD1
  generalize H1 = H at hP hS ⊢
  have hP : va_P D vwCl [(bv, .inl (y 0, 16, .inl zk10)), (h0, .inr (1, [.ref q3, .int 0, w1, .int 15])), (q3, .inl (y 0, 34, .inl zk12))] H := hP
  have hD : va_D A [(bv, .inl (y 0, 16, .inl zk10)), (h0, .inr (1, [.ref q3, .int 0, w1, .int 15])), (q3, .inl (y 0, 34, .inl zk12))] := hD
  refine lv_aload_n hx hb dJ5_append_cf1ce_33 rfl (lv_at hl 1 rfl) ?_
  refine lv_dup hx hb dJ5_append_cf1ce_34 rfl ?_
  refine va_get (D := D) (ci := 1) (v := .int 15) (C := RJ4) (T := TJ4) (N := 4) hx hb hts (by decide +kernel) hown hK hP 1 rfl rfl 3 (by decide) (hts (.fieldLink RJ5 79 "java/lang/AbstractStringBuilder" "count" "I") (by decide +kernel)) (fun _ h9 => h9) rfl dJ5_append_cf1ce_35 ?_
  refine lv_iload_n hx hb dJ5_append_cf1ce_38 rfl (lv_at hl 0 rfl) ?_
  refine lv_iadd hx hb dJ5_append_cf1ce_39 ?_
  refine lv_topi (fun v4 ev4 => ?_)
  have ev4 : v4 = 20 := ev4.trans (by decide +kernel)
  subst ev4
  refine va_put (D := D) (ci := 1) (v := .int 20) (ty := .int) (C := RJ4) (T := TJ4) (N := 4) hx hb hts (by decide +kernel) tyJ4 tyJ4_ok nmJ4 hown hK hP hD hS 1 rfl rfl 3 (by decide) (hts (.fieldLink RJ5 79 "java/lang/AbstractStringBuilder" "count" "I") (by decide +kernel)) (fun _ h9 => h9) rfl (by decide +kernel) rfl rfl (Nat.le_of_ble_eq_true rfl) dJ5_append_cf1ce_40 (fun H locs hP hD hS => ?_)
  have hP : va_P D vwCl [(bv, .inl (y 0, 16, .inl zk10)), (h0, .inr (1, [.ref q3, .int 0, w1, .int 20])), (q3, .inl (y 0, 34, .inl zk12))] H := hP
  have hD : va_D A [(bv, .inl (y 0, 16, .inl zk10)), (h0, .inr (1, [.ref q3, .int 0, w1, .int 20])), (q3, .inl (y 0, 34, .inl zk12))] := hD
  refine lv_aload_n hx hb dJ5_append_cf1ce_43 rfl (lv_at hl 1 rfl) ?_
  have hP9 := hP.sub (ws' := [(h0, .inr (1, [.ref q3, .int 0, w1, .int 20])), (bv, .inl (y 0, 16, .inl zk10)), (q3, .inl (y 0, 34, .inl zk12))]) [1, 0, 2] rfl
  have hD9 := hD.sub (ws' := [(h0, .inr (1, [.ref q3, .int 0, w1, .int 20])), (bv, .inl (y 0, 16, .inl zk10)), (q3, .inl (y 0, 34, .inl zk12))]) [1, 0, 2] (by decide) rfl
  refine W.widen (k := 1) (n := 34) (Nat.le_of_ble_eq_true rfl) (Nat.le_of_ble_eq_true rfl) ?_
  exact W.aret (v := .ref h0) hx hb hr (Or.inl ⟨_, rfl⟩) (Or.inr ⟨_, rfl⟩) (fun t ht hW => ⟨⟨(some h0), (), rfl, rfl, q3, by rw [ht]; exact hP9, hD9⟩, hS.F ht⟩) hS.2.2 dJ5_append_cf1ce_44
def wz_c_SBapp_b1 : List Cond := .code yJ4_append_15ec4 cJ4_append_15ec4 2 (some (.object "java/lang/StringBuilder")) :: ([.methodLink RJ4 29 yJ5_append_cf1ce, .sameMethod RJ5 RJ5 "append" "(Ljava/lang/String;)Ljava/lang/AbstractStringBuilder;", .superclass RJ4 RJ5, .instanceMethod yJ5_append_cf1ce, .initialized RJ5] ++ (wz_c_ASBapp_b1 ++ ([])))
set_option maxRecDepth 100000 in
theorem gz_c_SBapp_b1_c_ASBapp_b1 : GoodIn wz_c_SBapp_b1 wz_c_ASBapp_b1 := goodIn_sub (fun w h => List.mem_cons_of_mem _ (List.mem_append_right _ (List.mem_append_left _ h))) (by decide +kernel)
set_option maxRecDepth 100000 in
theorem gv_c_SBapp_b1_c_ASBapp_b1_29 : GoodIn wz_c_SBapp_b1 (va_wsSU RJ4 29 yJ5_append_cf1ce wz_c_ASBapp_b1) := goodIn_app (goodIn_of _ (by decide +kernel)) gz_c_SBapp_b1_c_ASBapp_b1
set_option maxHeartbeats 4000000 in
set_option maxRecDepth 100000 in
theorem c_SBapp_b1 (l : Launch) (D : va_G) (y : Nat → ClassId) (sz : Nat) (h0 : Nat) (bv : Nat) (w1 : Value) (sx : Nat) (tx : Nat) : Met l yJ4_append_15ec4 wz_c_SBapp_b1 ({ frames := 5, cells := 1, slots := 34, locals := 127 }) (va_Pc [.ref h0, .ref sx] (zB D y [(h0, .inr (1, [.ref bv, .int 0, w1, .int 15])), (bv, .inl (y 0, 16, .inl zk10))] sz [] [("java/lang/String", "COMPACT_STRINGS", "Z", .int 1)] [] [.inr (.inl (sx, tx, 5, zs10))])) (va_Qq (fun (r : Option Nat) (_ : Unit) => r = some h0) (fun _ t => ∃ q2 : Nat, va_P D vwCl [(h0, .inr (1, [.ref q2, .int 0, w1, .int 20])), (bv, .inl (y 0, 16, .inl zk10)), (q2, .inl (y 0, 34, .inl zk12))] t.heap ∧ va_D (va_A [(h0, .inr (1, [.ref bv, .int 0, w1, .int 15])), (bv, .inl (y 0, 16, .inl zk10))] sz) [(h0, .inr (1, [.ref q2, .int 0, w1, .int 20])), (bv, .inl (y 0, 16, .inl zk10)), (q2, .inl (y 0, 34, .inl zk12))]) (va_A [(h0, .inr (1, [.ref bv, .int 0, w1, .int 15])), (bv, .inl (y 0, 16, .inl zk10))] sz)) 1 34 (va_A [(h0, .inr (1, [.ref bv, .int 0, w1, .int 15])), (bv, .inl (y 0, 16, .inl zk10))] sz) := by
  refine Met.ofW (cc := cJ4_append_15ec4) (maxL := 2) (ret := (some (.object "java/lang/StringBuilder"))) (by decide) rfl ?_
  intro p e s m args below meth c s₁ B hml hv
  obtain ⟨rfl, hsz, hP, hK, hD0, hN, hE, hO, hT, hG⟩ := hv
  have hx := B.exec
  have hb := B.bytes
  have hr := B.returns
  have hts := atoms_spec (ws := wz_c_SBapp_b1) B.pre
  have hown : s.vm.findClass RJ4 = some m.cls := findClass_of_methodNamed B.named
  have hlocks := B.notSynchronized
  subst hsz
  have hD := hD0.self (sz := s.heap.size)
  generalize hAe : va_A [(h0, .inr (1, [.ref bv, .int 0, w1, .int 15])), (bv, .inl (y 0, 16, .inl zk10))] s.heap.size = A at hD hE hT hG ⊢
  have hA : ∀ q : Nat, s.heap.size ≤ q → A q := fun q h => by rw [← hAe]; exact Or.inr h
  have hS : va_S A s.heap s.heap [] := va_S.rf
  have hl := lv_entry ([.ref h0, .ref sx]) (n := 2) (Nat.le_of_ble_eq_true rfl)
  rw [lg_entry_eq]
  generalize (lg_sl ([.ref h0, .ref sx]) ++ List.replicate (2 - (lg_sl ([.ref h0, .ref sx])).length) Slot.unset).toArray = ls at hl ⊢
  have hl : lv_has ls 2 [(0, .ref h0), (1, .ref sx)] := hl
  refine lv_aload_n hx hb dJ4_append_15ec4_0 rfl (lv_at hl 0 rfl) ?_
  refine lv_aload_n hx hb dJ4_append_15ec4_1 rfl (lv_at hl 1 rfl) ?_
  have hPc := hP.sub (ws' := [(h0, .inr (1, [.ref bv, .int 0, w1, .int 15])), (bv, .inl (y 0, 16, .inl zk10))]) [0, 1] rfl
  have hDc := hD.sub (ws' := [(h0, .inr (1, [.ref bv, .int 0, w1, .int 15])), (bv, .inl (y 0, 16, .inl zk10))]) [0, 1] (by decide) rfl
  have hFc := va_free (wc := [(h0, .inr (1, [.ref bv, .int 0, w1, .int 15])), (bv, .inl (y 0, 16, .inl zk10))]) hD hS hA [0, 1] rfl
  refine va_callq (va_runSU (hK.1 1 _ rfl).2 (As := [.ref sx]) (rest := []) ⟨hx, hb, hml, hown, hts⟩ (c_ASBapp_b1 l D y s.heap.size h0 bv w1 sx tx) (va_cwSU 1 hts gv_c_SBapp_b1_c_ASBapp_b1_29 rfl rfl rfl (by decide +kernel) ⟨(Nat.le_of_ble_eq_true rfl), (Nat.le_of_ble_eq_true rfl)⟩) (zB.preV hPc hDc hK hN hE hO hT hG hS hFc (fun _ h => nomatch h) (List.forall_mem_cons.mpr ⟨List.mem_of_getElem? (i := 0) rfl, (fun _ h => nomatch h)⟩) (fun _ h => nomatch h) (List.forall_mem_cons.mpr ⟨List.mem_of_getElem? (i := 0) rfl, (fun _ h => nomatch h)⟩) (va_recv hK hPc (ci := 1) (q0 := 0) rfl rfl)) rfl rfl hl.1 rfl (lv_room (Nat.le_of_ble_eq_true rfl)) dJ4_append_15ec4_2 ⟨(Nat.le_of_ble_eq_true rfl), (Nat.le_of_ble_eq_true rfl)⟩) hS (fun q _ h => hFc q h) hFc (fun r1 u t H1 locs ht hvm hw hB hz1 hk1 hS => ?_)
  obtain ⟨q2, hP1, hD1⟩ := hB
  rw [ht] at hP1
  obtain ⟨hP, hD⟩ := va_join (wr := []) (w1 := [(h0, .inr (1, [.ref q2, .int 0, w1, .int 20])), (bv, .inl (y 0, 16, .inl zk10)), (q2, .inl (y 0, 34, .inl zk12))]) hP hD [0, 1] [] rfl rfl (by decide) (by decide) hk1 hFc hP1 hD1
  generalize H1 = H at hP hS ⊢
  have hP : va_P D vwCl [(h0, .inr (1, [.ref q2, .int 0, w1, .int 20])), (bv, .inl (y 0, 16, .inl zk10)), (q2, .inl (y 0, 34, .inl zk12))] H := hP
  have hD : va_D A [(h0, .inr (1, [.ref q2, .int 0, w1, .int 20])), (bv, .inl (y 0, 16, .inl zk10)), (q2, .inl (y 0, 34, .inl zk12))] := hD
  have hw : r1 = some h0 := hw
  subst hw
  refine W.eq (g2 := F0 m 5 ls [.ref h0]) rfl ?_
  refine lv_pop hx hb dJ4_append_15ec4_5 rfl ?_
  refine lv_aload_n hx hb dJ4_append_15ec4_6 rfl (lv_at hl 0 rfl) ?_
  have hP9 := hP.sub (ws' := [(h0, .inr (1, [.ref q2, .int 0, w1, .int 20])), (bv, .inl (y 0, 16, .inl zk10)), (q2, .inl (y 0, 34, .inl zk12))]) [0, 1, 2] rfl
  have hD9 := hD.sub (ws' := [(h0, .inr (1, [.ref q2, .int 0, w1, .int 20])), (bv, .inl (y 0, 16, .inl zk10)), (q2, .inl (y 0, 34, .inl zk12))]) [0, 1, 2] (by decide) rfl
  refine W.widen (k := 1) (n := 34) (Nat.le_of_ble_eq_true rfl) (Nat.le_of_ble_eq_true rfl) ?_
  exact W.aret (v := .ref h0) hx hb hr (Or.inl ⟨_, rfl⟩) (Or.inr ⟨_, rfl⟩) (fun t ht hW => ⟨⟨(some h0), (), rfl, rfl, q2, by rw [ht]; exact hP9, hD9⟩, hS.F ht⟩) hS.2.2 dJ4_append_15ec4_7
def wz_c_chkLen_20 : List Cond := .code yJ7_checkLength_df160 cJ7_checkLength_df160 2 none :: ([] ++ ([]))
set_option maxHeartbeats 4000000 in
set_option maxRecDepth 100000 in
theorem c_chkLen_20 (l : Launch) (D : va_G) (y : Nat → ClassId) (sz : Nat)  : Met l yJ7_checkLength_df160 wz_c_chkLen_20 ({ frames := 0, cells := 0, slots := 0, locals := 0 }) (va_Pc [.int 0, .int 20] (zB D y [] sz [] [] [] [])) (va_Qv (fun _ : Unit => True) (fun _ t => va_P D vwCl [] t.heap ∧ va_D (va_A [] sz) []) (va_A [] sz)) 0 0 (va_A [] sz) := by
  refine Met.ofW (cc := cJ7_checkLength_df160) (maxL := 2) (ret := none) (by decide) rfl ?_
  intro p e s m args below meth c s₁ B hml hv
  obtain ⟨rfl, hsz, hP, hK, hD0, hN, hE, hO, hT, hG⟩ := hv
  have hx := B.exec
  have hb := B.bytes
  have hr := B.returns
  have hts := atoms_spec (ws := wz_c_chkLen_20) B.pre
  have hown : s.vm.findClass RJ7 = some m.cls := findClass_of_methodNamed B.named
  have hlocks := B.notSynchronized
  subst hsz
  have hD := hD0.self (sz := s.heap.size)
  generalize hAe : va_A [] s.heap.size = A at hD hE hT hG ⊢
  have hA : ∀ q : Nat, s.heap.size ≤ q → A q := fun q h => by rw [← hAe]; exact Or.inr h
  have hS : va_S A s.heap s.heap [] := va_S.rf
  have hl := lv_entry ([.int 0, .int 20]) (n := 2) (Nat.le_of_ble_eq_true rfl)
  rw [lg_entry_eq]
  generalize (lg_sl ([.int 0, .int 20]) ++ List.replicate (2 - (lg_sl ([.int 0, .int 20])).length) Slot.unset).toArray = ls at hl ⊢
  have hl : lv_has ls 2 [(0, .int 0), (1, .int 20)] := hl
  refine lv_iload_n hx hb dJ7_checkLength_df160_0 rfl (lv_at hl 1 rfl) ?_
  refine lv_iload_n hx hb dJ7_checkLength_df160_1 rfl (lv_at hl 0 rfl) ?_
  refine lv_icmp_ge (tgt := 37) hx hb dJ7_checkLength_df160_2 (by decide) (fun _ => ?_) (fun c9 => absurd (by decide) c9)
  have hP9 := hP.sub (ws' := []) [] rfl
  have hD9 := hD.sub (ws' := []) [] (by decide) rfl
  refine W.widen (k := 0) (n := 0) (Nat.le_of_ble_eq_true rfl) (Nat.le_of_ble_eq_true rfl) ?_
  exact W.vret hx hb hr (fun t ht hW => ⟨⟨(), rfl, trivial, by rw [ht]; exact hP9, hD9⟩, hS.F ht⟩) hS.2.2 dJ7_checkLength_df160_37
def zk13 : Nat → Int32 := va_cpy zk12 (fun _ => 0) (0 : Int32).toNatClampNeg (0 : Int32).toNatClampNeg (20 : Int32).toNatClampNeg
def wz_c_cRB_b1 : List Cond := .code yJ7_copyOfRangeByte_39247 cJ7_copyOfRangeByte_39247 5 (some (.array .byte)) :: ([.methodLink RJ7 343 yJ7_checkLength_df160, .static yJ7_checkLength_df160, .initialized RJ7, .arrayClass .byte, .methodLink RJ7 304 Lib.Math.min.name, .static Lib.Math.min.name, .initialized "java/lang/Math", .code Lib.Math.min.name Lib.Math.min.code 2 (some .int), .methodLink RJ7 150 arraycopyName, .native arraycopyName, .static arraycopyName, .initialized "java/lang/System"] ++ (wz_c_chkLen_20 ++ ([])))
set_option maxRecDepth 100000 in
theorem gz_c_cRB_b1_c_chkLen_20 : GoodIn wz_c_cRB_b1 wz_c_chkLen_20 := goodIn_sub (fun w h => List.mem_cons_of_mem _ (List.mem_append_right _ (List.mem_append_left _ h))) (by decide +kernel)
set_option maxRecDepth 100000 in
theorem gv_c_cRB_b1_c_chkLen_20_343 : GoodIn wz_c_cRB_b1 (va_wsS RJ7 343 yJ7_checkLength_df160 wz_c_chkLen_20) := goodIn_app (goodIn_of _ (by decide +kernel)) gz_c_cRB_b1_c_chkLen_20
set_option maxHeartbeats 4000000 in
set_option maxRecDepth 100000 in
theorem c_cRB_b1 (l : Launch) (D : va_G) (y : Nat → ClassId) (sz : Nat) (bv : Nat) : Met l yJ7_copyOfRangeByte_39247 wz_c_cRB_b1 ({ frames := 1, cells := 1, slots := 20, locals := 60 }) (va_Pc [.ref bv, .int 0, .int 20] (zB D y [(bv, .inl (y 0, 34, .inl zk12))] sz [] [] [] [])) (va_Qr (fun _ : Unit => True) (fun _ q2 t => va_P D vwCl [(bv, .inl (y 0, 34, .inl zk12)), (q2, .inl (y 0, 20, .inl zk13))] t.heap ∧ va_D (va_A [(bv, .inl (y 0, 34, .inl zk12))] sz) [(bv, .inl (y 0, 34, .inl zk12)), (q2, .inl (y 0, 20, .inl zk13))]) (va_A [(bv, .inl (y 0, 34, .inl zk12))] sz)) 1 20 (va_A [(bv, .inl (y 0, 34, .inl zk12))] sz) := by
  refine Met.ofW (cc := cJ7_copyOfRangeByte_39247) (maxL := 5) (ret := (some (.array .byte))) (by decide) rfl ?_
  intro p e s m args below meth c s₁ B hml hv
  obtain ⟨rfl, hsz, hP, hK, hD0, hN, hE, hO, hT, hG⟩ := hv
  have hx := B.exec
  have hb := B.bytes
  have hr := B.returns
  have hts := atoms_spec (ws := wz_c_cRB_b1) B.pre
  have hown : s.vm.findClass RJ7 = some m.cls := findClass_of_methodNamed B.named
  have hlocks := B.notSynchronized
  subst hsz
  have hD := hD0.self (sz := s.heap.size)
  generalize hAe : va_A [(bv, .inl (y 0, 34, .inl zk12))] s.heap.size = A at hD hE hT hG ⊢
  have hA : ∀ q : Nat, s.heap.size ≤ q → A q := fun q h => by rw [← hAe]; exact Or.inr h
  have hS : va_S A s.heap s.heap [] := va_S.rf
  have hl := lv_entry ([.ref bv, .int 0, .int 20]) (n := 5) (Nat.le_of_ble_eq_true rfl)
  rw [lg_entry_eq]
  generalize (lg_sl ([.ref bv, .int 0, .int 20]) ++ List.replicate (5 - (lg_sl ([.ref bv, .int 0, .int 20])).length) Slot.unset).toArray = ls at hl ⊢
  have hl : lv_has ls 5 [(0, .ref bv), (1, .int 0), (2, .int 20)] := hl
  refine lv_iload_n hx hb dJ7_copyOfRangeByte_39247_0 rfl (lv_at hl 1 rfl) ?_
  refine lv_iload_n hx hb dJ7_copyOfRangeByte_39247_1 rfl (lv_at hl 2 rfl) ?_
  have hPc := hP.sub (ws' := []) [] rfl
  have hDc := hD.sub (ws' := []) [] (by decide) rfl
  have hFc := va_free (wc := []) hD hS hA [] rfl
  refine va_callv (va_runS (As := [.int 0, .int 20]) (rest := []) ⟨hx, hb, hml, hown, hts⟩ (c_chkLen_20 l D y s.heap.size ) (va_cwS 2 hts gv_c_cRB_b1_c_chkLen_20_343 rfl rfl rfl (by decide +kernel) ⟨(Nat.le_of_ble_eq_true rfl), (Nat.le_of_ble_eq_true rfl)⟩) (zB.preS hPc hDc hK hN hE hO hT hG hS hFc (fun _ h => nomatch h) (fun _ h => nomatch h) (fun _ h => nomatch h) (fun _ h => nomatch h)) rfl rfl hl.1 rfl (lv_room (Nat.le_of_ble_eq_true rfl)) dJ7_copyOfRangeByte_39247_2 ⟨(Nat.le_of_ble_eq_true rfl), (Nat.le_of_ble_eq_true rfl)⟩) hS (fun q _ h => hFc q h) hFc (fun u t H1 locs ht hvm hw hB hz1 hk1 hS => ?_)
  obtain ⟨hP1, hD1⟩ := hB
  rw [ht] at hP1
  obtain ⟨hP, hD⟩ := va_join (wr := [(bv, .inl (y 0, 34, .inl zk12))]) (w1 := []) hP hD [] [0] rfl rfl (by decide) (by decide) hk1 hFc hP1 hD1
  generalize H1 = H at hP hS ⊢
  have hP : va_P D vwCl [(bv, .inl (y 0, 34, .inl zk12))] H := hP
  have hD : va_D A [(bv, .inl (y 0, 34, .inl zk12))] := hD
  refine lv_iload_n hx hb dJ7_copyOfRangeByte_39247_5 rfl (lv_at hl 2 rfl) ?_
  refine lv_iload_n hx hb dJ7_copyOfRangeByte_39247_6 rfl (lv_at hl 1 rfl) ?_
  refine lv_isub hx hb dJ7_copyOfRangeByte_39247_7 ?_
  refine lv_topi (fun v1 ev1 => ?_)
  have ev1 : v1 = 20 := ev1.trans (by decide +kernel)
  subst ev1
  refine lv_istore_n (lv' := [(3, .int 20), (0, .ref bv), (1, .int 0), (2, .int 20)]) hx hb dJ7_copyOfRangeByte_39247_8 rfl hl (by decide) rfl (fun ls hl => ?_)
  refine lv_iload_n hx hb dJ7_copyOfRangeByte_39247_9 rfl (lv_at hl 0 rfl) ?_
  refine zz_newa (atype := .byte) (n := 20) (N' := 20) (a0 := (20, .inl (fun _ => 0))) (ty := .byte) hx hb (hts (.arrayClass .byte) (by decide +kernel)) rfl hK 0 rfl hP hD hS hA (zz_aB 20) (by decide +kernel) (by decide +kernel) (by decide +kernel) (Nat.le_of_ble_eq_true rfl) (Nat.le_of_ble_eq_true rfl) dJ7_copyOfRangeByte_39247_10 (fun q2 H hP hD hS => ?_)
  have hP : va_P D vwCl [(bv, .inl (y 0, 34, .inl zk12)), (q2, .inl (y 0, 20, .inl (fun _ => 0)))] H := hP
  have hD : va_D A [(bv, .inl (y 0, 34, .inl zk12)), (q2, .inl (y 0, 20, .inl (fun _ => 0)))] := hD
  refine lv_astore (lv' := [(4, .ref q2), (3, .int 20), (0, .ref bv), (1, .int 0), (2, .int 20)]) hx hb dJ7_copyOfRangeByte_39247_12 hl (by decide) rfl (fun ls hl => ?_)
  refine lv_aload_n hx hb dJ7_copyOfRangeByte_39247_14 rfl (lv_at hl 2 rfl) ?_
  refine lv_iload_n hx hb dJ7_copyOfRangeByte_39247_15 rfl (lv_at hl 3 rfl) ?_
  refine lv_aload hx hb dJ7_copyOfRangeByte_39247_16 (lv_at hl 0 rfl) ?_
  refine lv_iconst (v := 0) hx hb dJ7_copyOfRangeByte_39247_18 (by decide) ?_
  refine lv_aload_n hx hb dJ7_copyOfRangeByte_39247_19 rfl (lv_at hl 2 rfl) ?_
  refine va_alen (v := 34) hx hb hK hP 0 0 rfl rfl (show Int32.ofNat 34 = (34 : Int32) from by decide) dJ7_copyOfRangeByte_39247_20 ?_
  refine lv_iload_n hx hb dJ7_copyOfRangeByte_39247_21 rfl (lv_at hl 3 rfl) ?_
  refine lv_isub hx hb dJ7_copyOfRangeByte_39247_22 ?_
  refine lv_topi (fun v3 ev3 => ?_)
  have ev3 : v3 = 34 := ev3.trans (by decide +kernel)
  subst ev3
  refine lv_iload_n hx hb dJ7_copyOfRangeByte_39247_23 rfl (lv_at hl 1 rfl) ?_
  refine va_mmin hx hb (hml.trans hl.1.symm) hown (hts (.methodLink RJ7 304 Lib.Math.min.name) (by decide +kernel)) (hts (.static Lib.Math.min.name) (by decide +kernel)) (hts (.initialized "java/lang/Math") (by decide +kernel)) (hts (.code Lib.Math.min.name Lib.Math.min.code 2 (some .int)) (by decide +kernel)) (Nat.le_of_ble_eq_true rfl) (Nat.le_of_ble_eq_true rfl) (Nat.le_of_ble_eq_true rfl) (Nat.le_of_ble_eq_true rfl) dJ7_copyOfRangeByte_39247_24 ?_
  refine lv_topi (fun v4 ev4 => ?_)
  have ev4 : v4 = 20 := ev4.trans (by decide +kernel)
  subst ev4
  refine va_copyi (ty := .byte) (sp := 0) (dp := 0) (n := 20) hx hb (hml.trans hl.1.symm) hown (hts (.methodLink RJ7 150 arraycopyName) (by decide +kernel)) (hts (.native arraycopyName) (by decide +kernel)) (hts (.static arraycopyName) (by decide +kernel)) (hts (.initialized "java/lang/System") (by decide +kernel)) hK hP hD hS 0 1 0 0 rfl rfl rfl rfl rfl (by decide +kernel) (by decide +kernel) (by decide +kernel) (by decide +kernel) (by decide +kernel) (by decide +kernel) (Nat.le_of_ble_eq_true rfl) (Nat.le_of_ble_eq_true rfl) dJ7_copyOfRangeByte_39247_27 (fun H locs hP hD hS => ?_)
  have hP : va_P D vwCl [(bv, .inl (y 0, 34, .inl zk12)), (q2, .inl (y 0, 20, .inl zk13))] H := hP
  have hD : va_D A [(bv, .inl (y 0, 34, .inl zk12)), (q2, .inl (y 0, 20, .inl zk13))] := hD
  refine lv_aload hx hb dJ7_copyOfRangeByte_39247_30 (lv_at hl 0 rfl) ?_
  have hP9 := hP.sub (ws' := [(bv, .inl (y 0, 34, .inl zk12)), (q2, .inl (y 0, 20, .inl zk13))]) [0, 1] rfl
  have hD9 := hD.sub (ws' := [(bv, .inl (y 0, 34, .inl zk12)), (q2, .inl (y 0, 20, .inl zk13))]) [0, 1] (by decide) rfl
  refine W.widen (k := 1) (n := 20) (Nat.le_of_ble_eq_true rfl) (Nat.le_of_ble_eq_true rfl) ?_
  exact W.aret (v := .ref q2) hx hb hr (Or.inr ⟨_, rfl⟩) (Or.inr ⟨_, rfl⟩) (fun t ht hW => ⟨⟨(), q2, rfl, trivial, by rw [ht]; exact hP9, hD9⟩, hS.F ht⟩) hS.2.2 dJ7_copyOfRangeByte_39247_32
def wz_c_cR_b1 : List Cond := .code yJ7_copyOfRange_39247 cJ7_copyOfRange_39247 3 (some (.array .byte)) :: ([.methodLink RJ7 339 yJ7_copyOfRangeByte_39247, .static yJ7_copyOfRangeByte_39247, .initialized RJ7] ++ (wz_c_cRB_b1 ++ ([])))
set_option maxRecDepth 100000 in
theorem gz_c_cR_b1_c_cRB_b1 : GoodIn wz_c_cR_b1 wz_c_cRB_b1 := goodIn_sub (fun w h => List.mem_cons_of_mem _ (List.mem_append_right _ (List.mem_append_left _ h))) (by decide +kernel)
set_option maxRecDepth 100000 in
theorem gv_c_cR_b1_c_cRB_b1_339 : GoodIn wz_c_cR_b1 (va_wsS RJ7 339 yJ7_copyOfRangeByte_39247 wz_c_cRB_b1) := goodIn_app (goodIn_of _ (by decide +kernel)) gz_c_cR_b1_c_cRB_b1
set_option maxHeartbeats 4000000 in
set_option maxRecDepth 100000 in
theorem c_cR_b1 (l : Launch) (D : va_G) (y : Nat → ClassId) (sz : Nat) (bv : Nat) : Met l yJ7_copyOfRange_39247 wz_c_cR_b1 ({ frames := 2, cells := 1, slots := 20, locals := 84 }) (va_Pc [.ref bv, .int 0, .int 20] (zB D y [(bv, .inl (y 0, 34, .inl zk12))] sz [] [] [] [])) (va_Qr (fun _ : Unit => True) (fun _ r1 t => va_P D vwCl [(bv, .inl (y 0, 34, .inl zk12)), (r1, .inl (y 0, 20, .inl zk13))] t.heap ∧ va_D (va_A [(bv, .inl (y 0, 34, .inl zk12))] sz) [(bv, .inl (y 0, 34, .inl zk12)), (r1, .inl (y 0, 20, .inl zk13))]) (va_A [(bv, .inl (y 0, 34, .inl zk12))] sz)) 1 20 (va_A [(bv, .inl (y 0, 34, .inl zk12))] sz) := by
  refine Met.ofW (cc := cJ7_copyOfRange_39247) (maxL := 3) (ret := (some (.array .byte))) (by decide) rfl ?_
  intro p e s m args below meth c s₁ B hml hv
  obtain ⟨rfl, hsz, hP, hK, hD0, hN, hE, hO, hT, hG⟩ := hv
  have hx := B.exec
  have hb := B.bytes
  have hr := B.returns
  have hts := atoms_spec (ws := wz_c_cR_b1) B.pre
  have hown : s.vm.findClass RJ7 = some m.cls := findClass_of_methodNamed B.named
  have hlocks := B.notSynchronized
  subst hsz
  have hD := hD0.self (sz := s.heap.size)
  generalize hAe : va_A [(bv, .inl (y 0, 34, .inl zk12))] s.heap.size = A at hD hE hT hG ⊢
  have hA : ∀ q : Nat, s.heap.size ≤ q → A q := fun q h => by rw [← hAe]; exact Or.inr h
  have hS : va_S A s.heap s.heap [] := va_S.rf
  have hl := lv_entry ([.ref bv, .int 0, .int 20]) (n := 3) (Nat.le_of_ble_eq_true rfl)
  rw [lg_entry_eq]
  generalize (lg_sl ([.ref bv, .int 0, .int 20]) ++ List.replicate (3 - (lg_sl ([.ref bv, .int 0, .int 20])).length) Slot.unset).toArray = ls at hl ⊢
  have hl : lv_has ls 3 [(0, .ref bv), (1, .int 0), (2, .int 20)] := hl
  refine lv_iload_n hx hb dJ7_copyOfRange_39247_0 rfl (lv_at hl 1 rfl) ?_
  refine lv_if_ne (tgt := 10) hx hb dJ7_copyOfRange_39247_1 (by decide) (fun c9 => absurd (by decide) c9) (fun _ => ?_)
  refine lv_iload_n hx hb dJ7_copyOfRange_39247_4 rfl (lv_at hl 2 rfl) ?_
  refine lv_aload_n hx hb dJ7_copyOfRange_39247_5 rfl (lv_at hl 0 rfl) ?_
  refine va_alen (v := 34) hx hb hK hP 0 0 rfl rfl (show Int32.ofNat 34 = (34 : Int32) from by decide) dJ7_copyOfRange_39247_6 ?_
  refine lv_icmp_eq (tgt := 17) hx hb dJ7_copyOfRange_39247_7 (by decide) (fun c9 => absurd c9 (by decide)) (fun _ => ?_)
  refine lv_aload_n hx hb dJ7_copyOfRange_39247_10 rfl (lv_at hl 0 rfl) ?_
  refine lv_iload_n hx hb dJ7_copyOfRange_39247_11 rfl (lv_at hl 1 rfl) ?_
  refine lv_iload_n hx hb dJ7_copyOfRange_39247_12 rfl (lv_at hl 2 rfl) ?_
  have hPc := hP.sub (ws' := [(bv, .inl (y 0, 34, .inl zk12))]) [0] rfl
  have hDc := hD.sub (ws' := [(bv, .inl (y 0, 34, .inl zk12))]) [0] (by decide) rfl
  have hFc := va_free (wc := [(bv, .inl (y 0, 34, .inl zk12))]) hD hS hA [0] rfl
  refine va_callr (va_runS (As := [.ref bv, .int 0, .int 20]) (rest := []) ⟨hx, hb, hml, hown, hts⟩ (c_cRB_b1 l D y s.heap.size bv) (va_cwS 3 hts gv_c_cR_b1_c_cRB_b1_339 rfl rfl rfl (by decide +kernel) ⟨(Nat.le_of_ble_eq_true rfl), (Nat.le_of_ble_eq_true rfl)⟩) (zB.preS hPc hDc hK hN hE hO hT hG hS hFc (fun _ h => nomatch h) (fun _ h => nomatch h) (fun _ h => nomatch h) (fun _ h => nomatch h)) rfl rfl hl.1 rfl (lv_room (Nat.le_of_ble_eq_true rfl)) dJ7_copyOfRange_39247_13 ⟨(Nat.le_of_ble_eq_true rfl), (Nat.le_of_ble_eq_true rfl)⟩) hS (fun q _ h => hFc q h) hFc (fun u r1 t H1 locs ht hvm hw hB hz1 hk1 hS => ?_)
  obtain ⟨hP1, hD1⟩ := hB
  rw [ht] at hP1
  obtain ⟨hP, hD⟩ := va_join (wr := []) (w1 := [(bv, .inl (y 0, 34, .inl zk12)), (r1, .inl (y 0, 20, .inl zk13))]) hP hD [0] [] rfl rfl (by decide) (by decide) hk1 hFc hP1 hD1
  generalize H1 = H at hP hS ⊢
  have hP : va_P D vwCl [(bv, .inl (y 0, 34, .inl zk12)), (r1, .inl (y 0, 20, .inl zk13))] H := hP
  have hD : va_D A [(bv, .inl (y 0, 34, .inl zk12)), (r1, .inl (y 0, 20, .inl zk13))] := hD
  have hP9 := hP.sub (ws' := [(bv, .inl (y 0, 34, .inl zk12)), (r1, .inl (y 0, 20, .inl zk13))]) [0, 1] rfl
  have hD9 := hD.sub (ws' := [(bv, .inl (y 0, 34, .inl zk12)), (r1, .inl (y 0, 20, .inl zk13))]) [0, 1] (by decide) rfl
  refine W.widen (k := 1) (n := 20) (Nat.le_of_ble_eq_true rfl) (Nat.le_of_ble_eq_true rfl) ?_
  exact W.aret (v := .ref r1) hx hb hr (Or.inr ⟨_, rfl⟩) (Or.inr ⟨_, rfl⟩) (fun t ht hW => ⟨⟨(), r1, rfl, trivial, by rw [ht]; exact hP9, hD9⟩, hS.F ht⟩) hS.2.2 dJ7_copyOfRange_39247_16
def wz_c_Si1_b1 : List Cond := .code yJ0_init_db425 cJ0_init_db425 5 none :: ([.methodLink RJ0 1 objectInit, .instanceMethod objectInit, .code objectInit ⟨#[0xb1]⟩ 1 none, .methodLink RJ0 552 ⟨"java/lang/AbstractStringBuilder", "getValue", "()[B"⟩, .sameMethod "java/lang/AbstractStringBuilder" "java/lang/AbstractStringBuilder" "getValue" "()[B", .selects RJ4 ⟨"java/lang/AbstractStringBuilder", "getValue", "()[B"⟩ yJ5_getValue_6d5f1, .instanceMethod yJ5_getValue_6d5f1, .initialized RJ5, .methodLink RJ0 549 ⟨"java/lang/AbstractStringBuilder", "length", "()I"⟩, .sameMethod RJ5 RJ5 "length" "()I", .instanceMethod yJ5_length_8abf5, .selects RJ4 ⟨"java/lang/AbstractStringBuilder", "length", "()I"⟩ yJ4_length_8abf5, .instanceMethod yJ4_length_8abf5, .initialized RJ4, .code yJ5_length_8abf5 cJ5_length_8abf5 1 (some .int), .methodLink RJ0 1047 ⟨"java/lang/AbstractStringBuilder", "isLatin1", "()Z"⟩, .sameMethod "java/lang/AbstractStringBuilder" "java/lang/AbstractStringBuilder" "isLatin1" "()Z", .selects RJ4 ⟨"java/lang/AbstractStringBuilder", "isLatin1", "()Z"⟩ yJ5_isLatin1_aae02, .instanceMethod yJ5_isLatin1_aae02, .fieldLink RJ0 15 "java/lang/String" "coder" "B", .methodLink RJ0 54 yJ7_copyOfRange_39247, .static yJ7_copyOfRange_39247, .initialized RJ7, .fieldLink RJ0 9 "java/lang/String" "value" "[B"] ++ (wsJ00 ++ (wz_c_getValue ++ (wz_c_SB_length ++ (wz_c_ASB_isLatin1 ++ (wz_c_cR_b1 ++ ([])))))))
set_option maxRecDepth 100000 in
theorem gz_c_Si1_b1_c_getValue : GoodIn wz_c_Si1_b1 wz_c_getValue := goodIn_sub (fun w h => List.mem_cons_of_mem _ (List.mem_append_right _ (List.mem_append_right _ (List.mem_append_left _ h)))) (by decide +kernel)
set_option maxRecDepth 100000 in
theorem gz_c_Si1_b1_c_SB_length : GoodIn wz_c_Si1_b1 wz_c_SB_length := goodIn_sub (fun w h => List.mem_cons_of_mem _ (List.mem_append_right _ (List.mem_append_right _ (List.mem_append_right _ (List.mem_append_left _ h))))) (by decide +kernel)
set_option maxRecDepth 100000 in
theorem gz_c_Si1_b1_c_ASB_isLatin1 : GoodIn wz_c_Si1_b1 wz_c_ASB_isLatin1 := goodIn_sub (fun w h => List.mem_cons_of_mem _ (List.mem_append_right _ (List.mem_append_right _ (List.mem_append_right _ (List.mem_append_right _ (List.mem_append_left _ h)))))) (by decide +kernel)
set_option maxRecDepth 100000 in
theorem gz_c_Si1_b1_c_cR_b1 : GoodIn wz_c_Si1_b1 wz_c_cR_b1 := goodIn_sub (fun w h => List.mem_cons_of_mem _ (List.mem_append_right _ (List.mem_append_right _ (List.mem_append_right _ (List.mem_append_right _ (List.mem_append_right _ (List.mem_append_left _ h))))))) (by decide +kernel)
set_option maxRecDepth 100000 in
theorem gv_c_Si1_b1_c_getValue_552 : GoodIn wz_c_Si1_b1 (va_wsU RJ0 552 RJ4 "java/lang/AbstractStringBuilder" ⟨"java/lang/AbstractStringBuilder", "getValue", "()[B"⟩ yJ5_getValue_6d5f1 wz_c_getValue) := goodIn_app (goodIn_of _ (by decide +kernel)) gz_c_Si1_b1_c_getValue
set_option maxRecDepth 100000 in
theorem gv_c_Si1_b1_c_SB_length_549 : GoodIn wz_c_Si1_b1 (va_wsO RJ0 549 RJ4 RJ5 ⟨"java/lang/AbstractStringBuilder", "length", "()I"⟩ yJ4_length_8abf5 wz_c_SB_length) := goodIn_app (goodIn_of _ (by decide +kernel)) gz_c_Si1_b1_c_SB_length
set_option maxRecDepth 100000 in
theorem gv_c_Si1_b1_c_ASB_isLatin1_1047 : GoodIn wz_c_Si1_b1 (va_wsU RJ0 1047 RJ4 "java/lang/AbstractStringBuilder" ⟨"java/lang/AbstractStringBuilder", "isLatin1", "()Z"⟩ yJ5_isLatin1_aae02 wz_c_ASB_isLatin1) := goodIn_app (goodIn_of _ (by decide +kernel)) gz_c_Si1_b1_c_ASB_isLatin1
set_option maxRecDepth 100000 in
theorem gv_c_Si1_b1_c_cR_b1_54 : GoodIn wz_c_Si1_b1 (va_wsS RJ0 54 yJ7_copyOfRange_39247 wz_c_cR_b1) := goodIn_app (goodIn_of _ (by decide +kernel)) gz_c_Si1_b1_c_cR_b1
set_option maxHeartbeats 4000000 in
set_option maxRecDepth 100000 in
theorem c_Si1_b1 (l : Launch) (D : va_G) (y : Nat → ClassId) (sz : Nat) (h0 : Nat) (sb : Nat) (bv : Nat) (w1 : Value) : Met l yJ0_init_db425 wz_c_Si1_b1 ({ frames := 3, cells := 1, slots := 20, locals := 106 }) (va_Pc [.ref h0, .ref sb, .null] (zB D y [(h0, .inr (0, [.null, .int 0, .int 0, .int 0])), (sb, .inr (1, [.ref bv, .int 0, w1, .int 20])), (bv, .inl (y 0, 34, .inl zk12))] sz [] [("java/lang/String", "COMPACT_STRINGS", "Z", .int 1)] [] [])) (va_Qv (fun _ : Unit => True) (fun _ t => ∃ r4 : Nat, va_P D vwCl [(h0, .inr (0, [.ref r4, .int 0, .int 0, .int 0])), (sb, .inr (1, [.ref bv, .int 0, w1, .int 20])), (bv, .inl (y 0, 34, .inl zk12)), (r4, .inl (y 0, 20, .inl zk13))] t.heap ∧ va_D (va_A [(h0, .inr (0, [.null, .int 0, .int 0, .int 0])), (sb, .inr (1, [.ref bv, .int 0, w1, .int 20])), (bv, .inl (y 0, 34, .inl zk12))] sz) [(h0, .inr (0, [.ref r4, .int 0, .int 0, .int 0])), (sb, .inr (1, [.ref bv, .int 0, w1, .int 20])), (bv, .inl (y 0, 34, .inl zk12)), (r4, .inl (y 0, 20, .inl zk13))]) (va_A [(h0, .inr (0, [.null, .int 0, .int 0, .int 0])), (sb, .inr (1, [.ref bv, .int 0, w1, .int 20])), (bv, .inl (y 0, 34, .inl zk12))] sz)) 1 20 (va_A [(h0, .inr (0, [.null, .int 0, .int 0, .int 0])), (sb, .inr (1, [.ref bv, .int 0, w1, .int 20])), (bv, .inl (y 0, 34, .inl zk12))] sz) := by
  refine Met.ofW (cc := cJ0_init_db425) (maxL := 5) (ret := none) (by decide) rfl ?_
  intro p e s m args below meth c s₁ B hml hv
  obtain ⟨rfl, hsz, hP, hK, hD0, hN, hE, hO, hT, hG⟩ := hv
  have hx := B.exec
  have hb := B.bytes
  have hr := B.returns
  have hts := atoms_spec (ws := wz_c_Si1_b1) B.pre
  have hown : s.vm.findClass RJ0 = some m.cls := findClass_of_methodNamed B.named
  have hlocks := B.notSynchronized
  have hin : meth.name = "<init>" := (name_of_methodNamed B.named B.method).1
  subst hsz
  have hD := hD0.self (sz := s.heap.size)
  generalize hAe : va_A [(h0, .inr (0, [.null, .int 0, .int 0, .int 0])), (sb, .inr (1, [.ref bv, .int 0, w1, .int 20])), (bv, .inl (y 0, 34, .inl zk12))] s.heap.size = A at hD hE hT hG ⊢
  have hA : ∀ q : Nat, s.heap.size ≤ q → A q := fun q h => by rw [← hAe]; exact Or.inr h
  have hS : va_S A s.heap s.heap [] := va_S.rf
  have hl := lv_entry ([.ref h0, .ref sb, .null]) (n := 5) (Nat.le_of_ble_eq_true rfl)
  rw [lg_entry_eq]
  generalize (lg_sl ([.ref h0, .ref sb, .null]) ++ List.replicate (5 - (lg_sl ([.ref h0, .ref sb, .null])).length) Slot.unset).toArray = ls at hl ⊢
  have hl : lv_has ls 5 [(0, .ref h0), (1, .ref sb), (2, .null)] := hl
  refine lv_aload_n hx hb dJ0_init_db425_0 rfl (lv_at hl 0 rfl) ?_
  refine W.objInit hx hb hown (hts (.methodLink RJ0 1 objectInit) (by decide +kernel)) (hts (.instanceMethod objectInit) (by decide +kernel)) (hts (.code objectInit ⟨#[0xb1]⟩ 1 none) (by decide +kernel)) rfl (by rw [hml]; exact hl.1) rfl dJ0_init_db425_1 (Nat.le_of_ble_eq_true rfl) (Nat.le_of_ble_eq_true rfl) ?_
  refine W.eq (g2 := F0 m 4 ls []) rfl ?_
  refine lv_aload_n hx hb dJ0_init_db425_4 rfl (lv_at hl 1 rfl) ?_
  have hPc := hP.sub (ws' := [(sb, .inr (1, [.ref bv, .int 0, w1, .int 20]))]) [1] rfl
  have hDc := hD.sub (ws' := [(sb, .inr (1, [.ref bv, .int 0, w1, .int 20]))]) [1] (by decide) rfl
  have hFc := va_free (wc := [(sb, .inr (1, [.ref bv, .int 0, w1, .int 20]))]) hD hS hA [1] rfl
  refine va_callq (va_runU (As := []) (rest := []) ⟨hx, hb, hml, hown, hts⟩ (c_getValue l D y s.heap.size sb bv ((.int 0)) w1 ((.int 20))) (va_cwU 0 hts gv_c_Si1_b1_c_getValue_552 rfl rfl rfl rfl (by decide +kernel) ⟨(Nat.le_of_ble_eq_true rfl), (Nat.le_of_ble_eq_true rfl)⟩) (zB.preV hPc hDc hK hN hE hO hT hG hS hFc (fun _ h => nomatch h) (fun _ h => nomatch h) (fun _ h => nomatch h) (fun _ h => nomatch h) (va_recv hK hPc (ci := 1) (q0 := 0) rfl rfl)) rfl rfl hl.1 rfl (lv_room (Nat.le_of_ble_eq_true rfl)) dJ0_init_db425_5 ⟨(Nat.le_of_ble_eq_true rfl), (Nat.le_of_ble_eq_true rfl)⟩) hS (fun q _ h => hFc q h) hFc (fun r1 u t H1 locs ht hvm hw hB hz1 hk1 hS => ?_)
  obtain ⟨hP1, hD1⟩ := hB
  rw [ht] at hP1
  obtain ⟨hP, hD⟩ := va_join (wr := [(h0, .inr (0, [.null, .int 0, .int 0, .int 0])), (bv, .inl (y 0, 34, .inl zk12))]) (w1 := [(sb, .inr (1, [.ref bv, .int 0, w1, .int 20]))]) hP hD [1] [0, 2] rfl rfl (by decide) (by decide) hk1 hFc hP1 hD1
  generalize H1 = H at hP hS ⊢
  have hP : va_P D vwCl [(h0, .inr (0, [.null, .int 0, .int 0, .int 0])), (bv, .inl (y 0, 34, .inl zk12)), (sb, .inr (1, [.ref bv, .int 0, w1, .int 20]))] H := hP
  have hD : va_D A [(h0, .inr (0, [.null, .int 0, .int 0, .int 0])), (bv, .inl (y 0, 34, .inl zk12)), (sb, .inr (1, [.ref bv, .int 0, w1, .int 20]))] := hD
  have hw : r1 = some bv := hw
  subst hw
  refine W.eq (g2 := F0 m 8 ls [.ref bv]) rfl ?_
  refine lv_astore_n (lv' := [(3, .ref bv), (0, .ref h0), (1, .ref sb), (2, .null)]) hx hb dJ0_init_db425_8 rfl hl (by decide) rfl (fun ls hl => ?_)
  refine lv_aload_n hx hb dJ0_init_db425_9 rfl (lv_at hl 2 rfl) ?_
  have hPc := hP.sub (ws' := [(sb, .inr (1, [.ref bv, .int 0, w1, .int 20]))]) [2] rfl
  have hDc := hD.sub (ws' := [(sb, .inr (1, [.ref bv, .int 0, w1, .int 20]))]) [2] (by decide) rfl
  have hFc := va_free (wc := [(sb, .inr (1, [.ref bv, .int 0, w1, .int 20]))]) hD hS hA [2] rfl
  refine va_calli (va_runU (As := []) (rest := []) ⟨hx, hb, hml, hown, hts⟩ (c_SB_length l D y H.size sb ((.ref bv)) ((.int 0)) w1 20) (va_cwO 0 hts gv_c_Si1_b1_c_SB_length_549 rfl rfl rfl (b0 := cJ5_length_8abf5) (m0 := 1) (r0 := (some .int)) (by decide +kernel) (by decide +kernel) ⟨(Nat.le_of_ble_eq_true rfl), (Nat.le_of_ble_eq_true rfl)⟩) (zB.preV hPc hDc hK hN hE hO hT hG hS hFc (fun _ h => nomatch h) (fun _ h => nomatch h) (fun _ h => nomatch h) (fun _ h => nomatch h) (va_recv hK hPc (ci := 1) (q0 := 0) rfl rfl)) rfl rfl hl.1 rfl (lv_room (Nat.le_of_ble_eq_true rfl)) dJ0_init_db425_10 ⟨(Nat.le_of_ble_eq_true rfl), (Nat.le_of_ble_eq_true rfl)⟩) hS (fun q _ h => hFc q h) hFc (fun r2 u t H1 locs ht hvm hw hB hz1 hk1 hS => ?_)
  obtain ⟨hP1, hD1⟩ := hB
  rw [ht] at hP1
  obtain ⟨hP, hD⟩ := va_join (wr := [(h0, .inr (0, [.null, .int 0, .int 0, .int 0])), (bv, .inl (y 0, 34, .inl zk12))]) (w1 := [(sb, .inr (1, [.ref bv, .int 0, w1, .int 20]))]) hP hD [2] [0, 1] rfl rfl (by decide) (by decide) hk1 hFc hP1 hD1
  generalize H1 = H at hP hS ⊢
  have hP : va_P D vwCl [(h0, .inr (0, [.null, .int 0, .int 0, .int 0])), (bv, .inl (y 0, 34, .inl zk12)), (sb, .inr (1, [.ref bv, .int 0, w1, .int 20]))] H := hP
  have hD : va_D A [(h0, .inr (0, [.null, .int 0, .int 0, .int 0])), (bv, .inl (y 0, 34, .inl zk12)), (sb, .inr (1, [.ref bv, .int 0, w1, .int 20]))] := hD
  have hw : r2 = 20 := hw
  subst hw
  refine lv_istore (lv' := [(4, .int 20), (3, .ref bv), (0, .ref h0), (1, .ref sb), (2, .null)]) hx hb dJ0_init_db425_13 hl (by decide) rfl (fun ls hl => ?_)
  refine lv_aload_n hx hb dJ0_init_db425_15 rfl (lv_at hl 3 rfl) ?_
  have hPc := hP.sub (ws' := [(sb, .inr (1, [.ref bv, .int 0, w1, .int 20]))]) [2] rfl
  have hDc := hD.sub (ws' := [(sb, .inr (1, [.ref bv, .int 0, w1, .int 20]))]) [2] (by decide) rfl
  have hFc := va_free (wc := [(sb, .inr (1, [.ref bv, .int 0, w1, .int 20]))]) hD hS hA [2] rfl
  refine va_calli (va_runU (As := []) (rest := []) ⟨hx, hb, hml, hown, hts⟩ (c_ASB_isLatin1 l D y H.size sb ((.ref bv)) w1 ((.int 20))) (va_cwU 0 hts gv_c_Si1_b1_c_ASB_isLatin1_1047 rfl rfl rfl rfl (by decide +kernel) ⟨(Nat.le_of_ble_eq_true rfl), (Nat.le_of_ble_eq_true rfl)⟩) (zB.preV hPc hDc hK hN hE hO hT hG hS hFc (fun _ h => nomatch h) (List.forall_mem_cons.mpr ⟨List.mem_of_getElem? (i := 0) rfl, (fun _ h => nomatch h)⟩) (fun _ h => nomatch h) (fun _ h => nomatch h) (va_recv hK hPc (ci := 1) (q0 := 0) rfl rfl)) rfl rfl hl.1 rfl (lv_room (Nat.le_of_ble_eq_true rfl)) dJ0_init_db425_16 ⟨(Nat.le_of_ble_eq_true rfl), (Nat.le_of_ble_eq_true rfl)⟩) hS (fun q _ h => hFc q h) hFc (fun r3 u t H1 locs ht hvm hw hB hz1 hk1 hS => ?_)
  obtain ⟨hP1, hD1⟩ := hB
  rw [ht] at hP1
  obtain ⟨hP, hD⟩ := va_join (wr := [(h0, .inr (0, [.null, .int 0, .int 0, .int 0])), (bv, .inl (y 0, 34, .inl zk12))]) (w1 := [(sb, .inr (1, [.ref bv, .int 0, w1, .int 20]))]) hP hD [2] [0, 1] rfl rfl (by decide) (by decide) hk1 hFc hP1 hD1
  generalize H1 = H at hP hS ⊢
  have hP : va_P D vwCl [(h0, .inr (0, [.null, .int 0, .int 0, .int 0])), (bv, .inl (y 0, 34, .inl zk12)), (sb, .inr (1, [.ref bv, .int 0, w1, .int 20]))] H := hP
  have hD : va_D A [(h0, .inr (0, [.null, .int 0, .int 0, .int 0])), (bv, .inl (y 0, 34, .inl zk12)), (sb, .inr (1, [.ref bv, .int 0, w1, .int 20]))] := hD
  have hw : r3 = 1 := hw
  subst hw
  refine lv_if_eq (tgt := 41) hx hb dJ0_init_db425_19 (by decide) (fun c9 => absurd c9 (by decide)) (fun _ => ?_)
  refine lv_aload_n hx hb dJ0_init_db425_22 rfl (lv_at hl 2 rfl) ?_
  refine lv_iconst (v := 0) hx hb dJ0_init_db425_23 (by decide) ?_
  refine va_putF (D := D) (ci := 0) (v := .int 0) (ty := .byte) (C := RJ0) (T := TJ0) (N := 4) hx hb hts (by decide +kernel) tyJ0 tyJ0_ok nmJ0 hown hK hP hD hS 0 rfl rfl 1 (by decide) (hts (.fieldLink RJ0 15 "java/lang/String" "coder" "B") (by decide +kernel)) (fun _ h9 => h9) rfl hin rfl (by decide +kernel) rfl rfl (Nat.le_of_ble_eq_true rfl) dJ0_init_db425_24 (fun H locs hP hD hS => ?_)
  have hP : va_P D vwCl [(h0, .inr (0, [.null, .int 0, .int 0, .int 0])), (bv, .inl (y 0, 34, .inl zk12)), (sb, .inr (1, [.ref bv, .int 0, w1, .int 20]))] H := hP
  have hD : va_D A [(h0, .inr (0, [.null, .int 0, .int 0, .int 0])), (bv, .inl (y 0, 34, .inl zk12)), (sb, .inr (1, [.ref bv, .int 0, w1, .int 20]))] := hD
  refine lv_aload_n hx hb dJ0_init_db425_27 rfl (lv_at hl 2 rfl) ?_
  refine lv_aload_n hx hb dJ0_init_db425_28 rfl (lv_at hl 1 rfl) ?_
  refine lv_iconst (v := 0) hx hb dJ0_init_db425_29 (by decide) ?_
  refine lv_iload hx hb dJ0_init_db425_30 (lv_at hl 0 rfl) ?_
  have hPc := hP.sub (ws' := [(bv, .inl (y 0, 34, .inl zk12))]) [1] rfl
  have hDc := hD.sub (ws' := [(bv, .inl (y 0, 34, .inl zk12))]) [1] (by decide) rfl
  have hFc := va_free (wc := [(bv, .inl (y 0, 34, .inl zk12))]) hD hS hA [1] rfl
  refine va_callr (va_runS (As := [.ref bv, .int 0, .int 20]) (rest := [.ref h0]) ⟨hx, hb, hml, hown, hts⟩ (c_cR_b1 l D y H.size bv) (va_cwS 3 hts gv_c_Si1_b1_c_cR_b1_54 rfl rfl rfl (by decide +kernel) ⟨(Nat.le_of_ble_eq_true rfl), (Nat.le_of_ble_eq_true rfl)⟩) (zB.preS hPc hDc hK hN hE hO hT hG hS hFc (fun _ h => nomatch h) (fun _ h => nomatch h) (fun _ h => nomatch h) (fun _ h => nomatch h)) rfl rfl hl.1 rfl (lv_room (Nat.le_of_ble_eq_true rfl)) dJ0_init_db425_32 ⟨(Nat.le_of_ble_eq_true rfl), (Nat.le_of_ble_eq_true rfl)⟩) hS (fun q _ h => hFc q h) hFc (fun u r4 t H1 locs ht hvm hw hB hz1 hk1 hS => ?_)
  obtain ⟨hP1, hD1⟩ := hB
  rw [ht] at hP1
  obtain ⟨hP, hD⟩ := va_join (wr := [(h0, .inr (0, [.null, .int 0, .int 0, .int 0])), (sb, .inr (1, [.ref bv, .int 0, w1, .int 20]))]) (w1 := [(bv, .inl (y 0, 34, .inl zk12)), (r4, .inl (y 0, 20, .inl zk13))]) hP hD [1] [0, 2] rfl rfl (by decide) (by decide) hk1 hFc hP1 hD1
  generalize H1 = H at hP hS ⊢
  have hP : va_P D vwCl [(h0, .inr (0, [.null, .int 0, .int 0, .int 0])), (sb, .inr (1, [.ref bv, .int 0, w1, .int 20])), (bv, .inl (y 0, 34, .inl zk12)), (r4, .inl (y 0, 20, .inl zk13))] H := hP
  have hD : va_D A [(h0, .inr (0, [.null, .int 0, .int 0, .int 0])), (sb, .inr (1, [.ref bv, .int 0, w1, .int 20])), (bv, .inl (y 0, 34, .inl zk12)), (r4, .inl (y 0, 20, .inl zk13))] := hD
  refine va_putF (D := D) (ci := 0) (v := .ref r4) (ty := (.array .byte)) (C := RJ0) (T := TJ0) (N := 4) hx hb hts (by decide +kernel) tyJ0 tyJ0_ok nmJ0 hown hK hP hD hS 0 rfl rfl 0 (by decide) (hts (.fieldLink RJ0 9 "java/lang/String" "value" "[B") (by decide +kernel)) (fun _ h9 => h9) rfl hin rfl (by decide +kernel) rfl rfl (Nat.le_of_ble_eq_true rfl) dJ0_init_db425_35 (fun H locs hP hD hS => ?_)
  have hP : va_P D vwCl [(h0, .inr (0, [.ref r4, .int 0, .int 0, .int 0])), (sb, .inr (1, [.ref bv, .int 0, w1, .int 20])), (bv, .inl (y 0, 34, .inl zk12)), (r4, .inl (y 0, 20, .inl zk13))] H := hP
  have hD : va_D A [(h0, .inr (0, [.ref r4, .int 0, .int 0, .int 0])), (sb, .inr (1, [.ref bv, .int 0, w1, .int 20])), (bv, .inl (y 0, 34, .inl zk12)), (r4, .inl (y 0, 20, .inl zk13))] := hD
  refine lv_goto (tgt := 97) hx hb dJ0_init_db425_38 (by decide) ?_
  have hP9 := hP.sub (ws' := [(h0, .inr (0, [.ref r4, .int 0, .int 0, .int 0])), (sb, .inr (1, [.ref bv, .int 0, w1, .int 20])), (bv, .inl (y 0, 34, .inl zk12)), (r4, .inl (y 0, 20, .inl zk13))]) [0, 1, 2, 3] rfl
  have hD9 := hD.sub (ws' := [(h0, .inr (0, [.ref r4, .int 0, .int 0, .int 0])), (sb, .inr (1, [.ref bv, .int 0, w1, .int 20])), (bv, .inl (y 0, 34, .inl zk12)), (r4, .inl (y 0, 20, .inl zk13))]) [0, 1, 2, 3] (by decide) rfl
  refine W.widen (k := 1) (n := 20) (Nat.le_of_ble_eq_true rfl) (Nat.le_of_ble_eq_true rfl) ?_
  exact W.vret hx hb hr (fun t ht hW => ⟨⟨(), rfl, trivial, r4, by rw [ht]; exact hP9, hD9⟩, hS.F ht⟩) hS.2.2 dJ0_init_db425_97
def wz_c_Si2_b1 : List Cond := .code yJ0_init_81219 cJ0_init_81219 2 none :: ([.initialized RJ0, .methodLink RJ0 489 yJ0_init_db425, .instanceMethod yJ0_init_db425] ++ (wz_c_Si1_b1 ++ ([])))
set_option maxRecDepth 100000 in
theorem gz_c_Si2_b1_c_Si1_b1 : GoodIn wz_c_Si2_b1 wz_c_Si1_b1 := goodIn_sub (fun w h => List.mem_cons_of_mem _ (List.mem_append_right _ (List.mem_append_left _ h))) (by decide +kernel)
set_option maxHeartbeats 4000000 in
set_option maxRecDepth 100000 in
theorem c_Si2_b1 (l : Launch) (D : va_G) (y : Nat → ClassId) (sz : Nat) (h0 : Nat) (sb : Nat) (bv : Nat) (w1 : Value) : Met l yJ0_init_81219 wz_c_Si2_b1 ({ frames := 4, cells := 1, slots := 20, locals := 130 }) (va_Pc [.ref h0, .ref sb] (zB D y [(h0, .inr (0, [.null, .int 0, .int 0, .int 0])), (sb, .inr (1, [.ref bv, .int 0, w1, .int 20])), (bv, .inl (y 0, 34, .inl zk12))] sz [] [("java/lang/String", "COMPACT_STRINGS", "Z", .int 1)] [] [])) (va_Qv (fun _ : Unit => True) (fun _ t => ∃ q1 : Nat, va_P D vwCl [(h0, .inr (0, [.ref q1, .int 0, .int 0, .int 0])), (sb, .inr (1, [.ref bv, .int 0, w1, .int 20])), (bv, .inl (y 0, 34, .inl zk12)), (q1, .inl (y 0, 20, .inl zk13))] t.heap ∧ va_D (va_A [(h0, .inr (0, [.null, .int 0, .int 0, .int 0])), (sb, .inr (1, [.ref bv, .int 0, w1, .int 20])), (bv, .inl (y 0, 34, .inl zk12))] sz) [(h0, .inr (0, [.ref q1, .int 0, .int 0, .int 0])), (sb, .inr (1, [.ref bv, .int 0, w1, .int 20])), (bv, .inl (y 0, 34, .inl zk12)), (q1, .inl (y 0, 20, .inl zk13))]) (va_A [(h0, .inr (0, [.null, .int 0, .int 0, .int 0])), (sb, .inr (1, [.ref bv, .int 0, w1, .int 20])), (bv, .inl (y 0, 34, .inl zk12))] sz)) 1 20 (va_A [(h0, .inr (0, [.null, .int 0, .int 0, .int 0])), (sb, .inr (1, [.ref bv, .int 0, w1, .int 20])), (bv, .inl (y 0, 34, .inl zk12))] sz) := by
  refine Met.ofW (cc := cJ0_init_81219) (maxL := 2) (ret := none) (by decide) rfl ?_
  intro p e s m args below meth c s₁ B hml hv
  obtain ⟨rfl, hsz, hP, hK, hD0, hN, hE, hO, hT, hG⟩ := hv
  have hx := B.exec
  have hb := B.bytes
  have hr := B.returns
  have hts := atoms_spec (ws := wz_c_Si2_b1) B.pre
  have hown : s.vm.findClass RJ0 = some m.cls := findClass_of_methodNamed B.named
  have hlocks := B.notSynchronized
  have hin : meth.name = "<init>" := (name_of_methodNamed B.named B.method).1
  subst hsz
  have hD := hD0.self (sz := s.heap.size)
  generalize hAe : va_A [(h0, .inr (0, [.null, .int 0, .int 0, .int 0])), (sb, .inr (1, [.ref bv, .int 0, w1, .int 20])), (bv, .inl (y 0, 34, .inl zk12))] s.heap.size = A at hD hE hT hG ⊢
  have hA : ∀ q : Nat, s.heap.size ≤ q → A q := fun q h => by rw [← hAe]; exact Or.inr h
  have hS : va_S A s.heap s.heap [] := va_S.rf
  have hl := lv_entry ([.ref h0, .ref sb]) (n := 2) (Nat.le_of_ble_eq_true rfl)
  rw [lg_entry_eq]
  generalize (lg_sl ([.ref h0, .ref sb]) ++ List.replicate (2 - (lg_sl ([.ref h0, .ref sb])).length) Slot.unset).toArray = ls at hl ⊢
  have hl : lv_has ls 2 [(0, .ref h0), (1, .ref sb)] := hl
  refine lv_aload_n hx hb dJ0_init_81219_0 rfl (lv_at hl 0 rfl) ?_
  refine lv_aload_n hx hb dJ0_init_81219_1 rfl (lv_at hl 1 rfl) ?_
  refine lv_null hx hb dJ0_init_81219_2 ?_
  have hPc := hP.sub (ws' := [(h0, .inr (0, [.null, .int 0, .int 0, .int 0])), (sb, .inr (1, [.ref bv, .int 0, w1, .int 20])), (bv, .inl (y 0, 34, .inl zk12))]) [0, 1, 2] rfl
  have hDc := hD.sub (ws' := [(h0, .inr (0, [.null, .int 0, .int 0, .int 0])), (sb, .inr (1, [.ref bv, .int 0, w1, .int 20])), (bv, .inl (y 0, 34, .inl zk12))]) [0, 1, 2] (by decide) rfl
  have hFc := va_free (wc := [(h0, .inr (0, [.null, .int 0, .int 0, .int 0])), (sb, .inr (1, [.ref bv, .int 0, w1, .int 20])), (bv, .inl (y 0, 34, .inl zk12))]) hD hS hA [0, 1, 2] rfl
  refine va_callv (va_runI (As := [.ref sb, .null]) (rest := []) ⟨hx, hb, hml, hown, hts⟩ (c_Si1_b1 l D y s.heap.size h0 sb bv w1) (cwI 2 hts gz_c_Si2_b1_c_Si1_b1 rfl rfl rfl (hts (.initialized RJ0) (by decide +kernel)) (hts (.methodLink RJ0 489 yJ0_init_db425) (by decide +kernel)) (hts (.instanceMethod yJ0_init_db425) (by decide +kernel)) rfl (by decide +kernel) ⟨(Nat.le_of_ble_eq_true rfl), (Nat.le_of_ble_eq_true rfl)⟩) (zB.preS hPc hDc hK hN hE hO hT hG hS hFc (fun _ h => nomatch h) (List.forall_mem_cons.mpr ⟨List.mem_of_getElem? (i := 0) rfl, (fun _ h => nomatch h)⟩) (fun _ h => nomatch h) (fun _ h => nomatch h)) rfl rfl hl.1 rfl (lv_room (Nat.le_of_ble_eq_true rfl)) dJ0_init_81219_3 ⟨(Nat.le_of_ble_eq_true rfl), (Nat.le_of_ble_eq_true rfl)⟩) hS (fun q _ h => hFc q h) hFc (fun u t H1 locs ht hvm hw hB hz1 hk1 hS => ?_)
  obtain ⟨q1, hP1, hD1⟩ := hB
  rw [ht] at hP1
  obtain ⟨hP, hD⟩ := va_join (wr := []) (w1 := [(h0, .inr (0, [.ref q1, .int 0, .int 0, .int 0])), (sb, .inr (1, [.ref bv, .int 0, w1, .int 20])), (bv, .inl (y 0, 34, .inl zk12)), (q1, .inl (y 0, 20, .inl zk13))]) hP hD [0, 1, 2] [] rfl rfl (by decide) (by decide) hk1 hFc hP1 hD1
  generalize H1 = H at hP hS ⊢
  have hP : va_P D vwCl [(h0, .inr (0, [.ref q1, .int 0, .int 0, .int 0])), (sb, .inr (1, [.ref bv, .int 0, w1, .int 20])), (bv, .inl (y 0, 34, .inl zk12)), (q1, .inl (y 0, 20, .inl zk13))] H := hP
  have hD : va_D A [(h0, .inr (0, [.ref q1, .int 0, .int 0, .int 0])), (sb, .inr (1, [.ref bv, .int 0, w1, .int 20])), (bv, .inl (y 0, 34, .inl zk12)), (q1, .inl (y 0, 20, .inl zk13))] := hD
  have hP9 := hP.sub (ws' := [(h0, .inr (0, [.ref q1, .int 0, .int 0, .int 0])), (sb, .inr (1, [.ref bv, .int 0, w1, .int 20])), (bv, .inl (y 0, 34, .inl zk12)), (q1, .inl (y 0, 20, .inl zk13))]) [0, 1, 2, 3] rfl
  have hD9 := hD.sub (ws' := [(h0, .inr (0, [.ref q1, .int 0, .int 0, .int 0])), (sb, .inr (1, [.ref bv, .int 0, w1, .int 20])), (bv, .inl (y 0, 34, .inl zk12)), (q1, .inl (y 0, 20, .inl zk13))]) [0, 1, 2, 3] (by decide) rfl
  refine W.widen (k := 1) (n := 20) (Nat.le_of_ble_eq_true rfl) (Nat.le_of_ble_eq_true rfl) ?_
  exact W.vret hx hb hr (fun t ht hW => ⟨⟨(), rfl, trivial, q1, by rw [ht]; exact hP9, hD9⟩, hS.F ht⟩) hS.2.2 dJ0_init_81219_6
def wz_c_toS_b1 : List Cond := .code yJ4_toString_0e30d cJ4_toString_0e30d 1 (some (.object "java/lang/String")) :: ([.classLink RJ4 18 RJ0, .instantiable RJ0 4, .initialized RJ0, .methodLink RJ4 137 yJ0_init_81219, .instanceMethod yJ0_init_81219] ++ (wsJ00 ++ (wz_c_Si2_b1 ++ ([]))))
set_option maxRecDepth 100000 in
theorem gz_c_toS_b1_c_Si2_b1 : GoodIn wz_c_toS_b1 wz_c_Si2_b1 := goodIn_sub (fun w h => List.mem_cons_of_mem _ (List.mem_append_right _ (List.mem_append_right _ (List.mem_append_left _ h)))) (by decide +kernel)
set_option maxHeartbeats 4000000 in
set_option maxRecDepth 100000 in
theorem c_toS_b1 (l : Launch) (D : va_G) (y : Nat → ClassId) (sz : Nat) (h0 : Nat) (bv : Nat) (w1 : Value) : Met l yJ4_toString_0e30d wz_c_toS_b1 ({ frames := 5, cells := 2, slots := 24, locals := 151 }) (va_Pc [.ref h0] (zB D y [(h0, .inr (1, [.ref bv, .int 0, w1, .int 20])), (bv, .inl (y 0, 34, .inl zk12))] sz [] [("java/lang/String", "COMPACT_STRINGS", "Z", .int 1)] [] [])) (va_Qr (fun _ : Unit => True) (fun _ q1 t => ∃ q2 : Nat, va_P D vwCl [(h0, .inr (1, [.ref bv, .int 0, w1, .int 20])), (bv, .inl (y 0, 34, .inl zk12)), (q1, .inr (0, [.ref q2, .int 0, .int 0, .int 0])), (q2, .inl (y 0, 20, .inl zk13))] t.heap ∧ va_D (va_A [(h0, .inr (1, [.ref bv, .int 0, w1, .int 20])), (bv, .inl (y 0, 34, .inl zk12))] sz) [(h0, .inr (1, [.ref bv, .int 0, w1, .int 20])), (bv, .inl (y 0, 34, .inl zk12)), (q1, .inr (0, [.ref q2, .int 0, .int 0, .int 0])), (q2, .inl (y 0, 20, .inl zk13))]) (va_A [(h0, .inr (1, [.ref bv, .int 0, w1, .int 20])), (bv, .inl (y 0, 34, .inl zk12))] sz)) 2 24 (va_A [(h0, .inr (1, [.ref bv, .int 0, w1, .int 20])), (bv, .inl (y 0, 34, .inl zk12))] sz) := by
  refine Met.ofW (cc := cJ4_toString_0e30d) (maxL := 1) (ret := (some (.object "java/lang/String"))) (by decide) rfl ?_
  intro p e s m args below meth c s₁ B hml hv
  obtain ⟨rfl, hsz, hP, hK, hD0, hN, hE, hO, hT, hG⟩ := hv
  have hx := B.exec
  have hb := B.bytes
  have hr := B.returns
  have hts := atoms_spec (ws := wz_c_toS_b1) B.pre
  have hown : s.vm.findClass RJ4 = some m.cls := findClass_of_methodNamed B.named
  have hlocks := B.notSynchronized
  subst hsz
  have hD := hD0.self (sz := s.heap.size)
  generalize hAe : va_A [(h0, .inr (1, [.ref bv, .int 0, w1, .int 20])), (bv, .inl (y 0, 34, .inl zk12))] s.heap.size = A at hD hE hT hG ⊢
  have hA : ∀ q : Nat, s.heap.size ≤ q → A q := fun q h => by rw [← hAe]; exact Or.inr h
  have hS : va_S A s.heap s.heap [] := va_S.rf
  have hl := lv_entry ([.ref h0]) (n := 1) (Nat.le_of_ble_eq_true rfl)
  rw [lg_entry_eq]
  generalize (lg_sl ([.ref h0]) ++ List.replicate (1 - (lg_sl ([.ref h0])).length) Slot.unset).toArray = ls at hl ⊢
  have hl : lv_has ls 1 [(0, .ref h0)] := hl
  refine va_new (ci := 0) (fs := [.null, .int 0, .int 0, .int 0]) (C := RJ0) (T := TJ0) (N := 4) hx hb hts (by decide +kernel) tyJ0 tyJ0_ok hown (hts (.classLink RJ4 18 RJ0) (by decide +kernel)) (hts (.instantiable RJ0 4) (by decide +kernel)) (hts (.initialized RJ0) (by decide +kernel)) hK hP hD hS hA rfl (by decide) (Nat.le_of_ble_eq_true rfl) (Nat.le_of_ble_eq_true rfl) dJ4_toString_0e30d_0 (fun q1 H hP hD hS => ?_)
  have hP : va_P D vwCl [(h0, .inr (1, [.ref bv, .int 0, w1, .int 20])), (bv, .inl (y 0, 34, .inl zk12)), (q1, .inr (0, [.null, .int 0, .int 0, .int 0]))] H := hP
  have hD : va_D A [(h0, .inr (1, [.ref bv, .int 0, w1, .int 20])), (bv, .inl (y 0, 34, .inl zk12)), (q1, .inr (0, [.null, .int 0, .int 0, .int 0]))] := hD
  refine lv_dup hx hb dJ4_toString_0e30d_3 rfl ?_
  refine lv_aload_n hx hb dJ4_toString_0e30d_4 rfl (lv_at hl 0 rfl) ?_
  have hPc := hP.sub (ws' := [(q1, .inr (0, [.null, .int 0, .int 0, .int 0])), (h0, .inr (1, [.ref bv, .int 0, w1, .int 20])), (bv, .inl (y 0, 34, .inl zk12))]) [2, 0, 1] rfl
  have hDc := hD.sub (ws' := [(q1, .inr (0, [.null, .int 0, .int 0, .int 0])), (h0, .inr (1, [.ref bv, .int 0, w1, .int 20])), (bv, .inl (y 0, 34, .inl zk12))]) [2, 0, 1] (by decide) rfl
  have hFc := va_free (wc := [(q1, .inr (0, [.null, .int 0, .int 0, .int 0])), (h0, .inr (1, [.ref bv, .int 0, w1, .int 20])), (bv, .inl (y 0, 34, .inl zk12))]) hD hS hA [2, 0, 1] rfl
  refine va_callv (va_runI (As := [.ref h0]) (rest := [.ref q1]) ⟨hx, hb, hml, hown, hts⟩ (c_Si2_b1 l D y H.size q1 h0 bv w1) (cwI 1 hts gz_c_toS_b1_c_Si2_b1 rfl rfl rfl (hts (.initialized RJ0) (by decide +kernel)) (hts (.methodLink RJ4 137 yJ0_init_81219) (by decide +kernel)) (hts (.instanceMethod yJ0_init_81219) (by decide +kernel)) rfl (by decide +kernel) ⟨(Nat.le_of_ble_eq_true rfl), (Nat.le_of_ble_eq_true rfl)⟩) (zB.preS hPc hDc hK hN hE hO hT hG hS hFc (fun _ h => nomatch h) (List.forall_mem_cons.mpr ⟨List.mem_of_getElem? (i := 0) rfl, (fun _ h => nomatch h)⟩) (fun _ h => nomatch h) (fun _ h => nomatch h)) rfl rfl hl.1 rfl (lv_room (Nat.le_of_ble_eq_true rfl)) dJ4_toString_0e30d_5 ⟨(Nat.le_of_ble_eq_true rfl), (Nat.le_of_ble_eq_true rfl)⟩) hS (fun q _ h => hFc q h) hFc (fun u t H1 locs ht hvm hw hB hz1 hk1 hS => ?_)
  obtain ⟨q2, hP1, hD1⟩ := hB
  rw [ht] at hP1
  obtain ⟨hP, hD⟩ := va_join (wr := []) (w1 := [(q1, .inr (0, [.ref q2, .int 0, .int 0, .int 0])), (h0, .inr (1, [.ref bv, .int 0, w1, .int 20])), (bv, .inl (y 0, 34, .inl zk12)), (q2, .inl (y 0, 20, .inl zk13))]) hP hD [2, 0, 1] [] rfl rfl (by decide) (by decide) hk1 hFc hP1 hD1
  generalize H1 = H at hP hS ⊢
  have hP : va_P D vwCl [(q1, .inr (0, [.ref q2, .int 0, .int 0, .int 0])), (h0, .inr (1, [.ref bv, .int 0, w1, .int 20])), (bv, .inl (y 0, 34, .inl zk12)), (q2, .inl (y 0, 20, .inl zk13))] H := hP
  have hD : va_D A [(q1, .inr (0, [.ref q2, .int 0, .int 0, .int 0])), (h0, .inr (1, [.ref bv, .int 0, w1, .int 20])), (bv, .inl (y 0, 34, .inl zk12)), (q2, .inl (y 0, 20, .inl zk13))] := hD
  have hP9 := hP.sub (ws' := [(h0, .inr (1, [.ref bv, .int 0, w1, .int 20])), (bv, .inl (y 0, 34, .inl zk12)), (q1, .inr (0, [.ref q2, .int 0, .int 0, .int 0])), (q2, .inl (y 0, 20, .inl zk13))]) [1, 2, 0, 3] rfl
  have hD9 := hD.sub (ws' := [(h0, .inr (1, [.ref bv, .int 0, w1, .int 20])), (bv, .inl (y 0, 34, .inl zk12)), (q1, .inr (0, [.ref q2, .int 0, .int 0, .int 0])), (q2, .inl (y 0, 20, .inl zk13))]) [1, 2, 0, 3] (by decide) rfl
  refine W.widen (k := 2) (n := 24) (Nat.le_of_ble_eq_true rfl) (Nat.le_of_ble_eq_true rfl) ?_
  exact W.aret (v := .ref q1) hx hb hr (Or.inl ⟨_, rfl⟩) (Or.inr ⟨_, rfl⟩) (fun t ht hW => ⟨⟨(), q1, rfl, trivial, q2, by rw [ht]; exact hP9, hD9⟩, hS.F ht⟩) hS.2.2 dJ4_toString_0e30d_8
def wz_c_ens_16_13 : List Cond := .code yJ5_ensureCapacityInternal_d00df cJ5_ensureCapacityInternal_d00df 3 none :: ([.fieldLink RJ5 15 "java/lang/AbstractStringBuilder" "value" "[B", .fieldLink RJ5 22 "java/lang/AbstractStringBuilder" "coder" "B"] ++ (wsJ40 ++ ([])))
set_option maxHeartbeats 4000000 in
set_option maxRecDepth 100000 in
theorem c_ens_16_13 (l : Launch) (D : va_G) (y : Nat → ClassId) (sz : Nat) (h0 : Nat) (bv : Nat) (w1 : Value) (w2 : Value) (g : Nat → Int32) : Met l yJ5_ensureCapacityInternal_d00df wz_c_ens_16_13 ({ frames := 0, cells := 0, slots := 0, locals := 0 }) (va_Pc [.ref h0, .int 13] (zB D y [(h0, .inr (1, [.ref bv, .int 0, w1, w2])), (bv, .inl (y 0, 16, .inl g))] sz [] [] [] [])) (va_Qv (fun _ : Unit => True) (fun _ t => va_P D vwCl [(h0, .inr (1, [.ref bv, .int 0, w1, w2])), (bv, .inl (y 0, 16, .inl g))] t.heap ∧ va_D (va_A [(h0, .inr (1, [.ref bv, .int 0, w1, w2])), (bv, .inl (y 0, 16, .inl g))] sz) [(h0, .inr (1, [.ref bv, .int 0, w1, w2])), (bv, .inl (y 0, 16, .inl g))]) (va_A [(h0, .inr (1, [.ref bv, .int 0, w1, w2])), (bv, .inl (y 0, 16, .inl g))] sz)) 0 0 (va_A [(h0, .inr (1, [.ref bv, .int 0, w1, w2])), (bv, .inl (y 0, 16, .inl g))] sz) := by
  refine Met.ofW (cc := cJ5_ensureCapacityInternal_d00df) (maxL := 3) (ret := none) (by decide) rfl ?_
  intro p e s m args below meth c s₁ B hml hv
  obtain ⟨rfl, hsz, hP, hK, hD0, hN, hE, hO, hT, hG⟩ := hv
  have hx := B.exec
  have hb := B.bytes
  have hr := B.returns
  have hts := atoms_spec (ws := wz_c_ens_16_13) B.pre
  have hown : s.vm.findClass RJ5 = some m.cls := findClass_of_methodNamed B.named
  have hlocks := B.notSynchronized
  subst hsz
  have hD := hD0.self (sz := s.heap.size)
  generalize hAe : va_A [(h0, .inr (1, [.ref bv, .int 0, w1, w2])), (bv, .inl (y 0, 16, .inl g))] s.heap.size = A at hD hE hT hG ⊢
  have hA : ∀ q : Nat, s.heap.size ≤ q → A q := fun q h => by rw [← hAe]; exact Or.inr h
  have hS : va_S A s.heap s.heap [] := va_S.rf
  have hl := lv_entry ([.ref h0, .int 13]) (n := 3) (Nat.le_of_ble_eq_true rfl)
  rw [lg_entry_eq]
  generalize (lg_sl ([.ref h0, .int 13]) ++ List.replicate (3 - (lg_sl ([.ref h0, .int 13])).length) Slot.unset).toArray = ls at hl ⊢
  have hl : lv_has ls 3 [(0, .ref h0), (1, .int 13)] := hl
  refine lv_aload_n hx hb dJ5_ensureCapacityInternal_d00df_0 rfl (lv_at hl 0 rfl) ?_
  refine va_get (D := D) (ci := 1) (v := .ref bv) (C := RJ4) (T := TJ4) (N := 4) hx hb hts (by decide +kernel) hown hK hP 0 rfl rfl 0 (by decide) (hts (.fieldLink RJ5 15 "java/lang/AbstractStringBuilder" "value" "[B") (by decide +kernel)) (fun _ h9 => h9) rfl dJ5_ensureCapacityInternal_d00df_1 ?_
  refine va_alen (v := 16) hx hb hK hP 1 0 rfl rfl (show Int32.ofNat 16 = (16 : Int32) from by decide) dJ5_ensureCapacityInternal_d00df_4 ?_
  refine lv_aload_n hx hb dJ5_ensureCapacityInternal_d00df_5 rfl (lv_at hl 0 rfl) ?_
  refine va_get (D := D) (ci := 1) (v := .int 0) (C := RJ4) (T := TJ4) (N := 4) hx hb hts (by decide +kernel) hown hK hP 0 rfl rfl 1 (by decide) (hts (.fieldLink RJ5 22 "java/lang/AbstractStringBuilder" "coder" "B") (by decide +kernel)) (fun _ h9 => h9) rfl dJ5_ensureCapacityInternal_d00df_6 ?_
  refine lv_ishr hx hb dJ5_ensureCapacityInternal_d00df_9 ?_
  refine lv_topi (fun v1 ev1 => ?_)
  have ev1 : v1 = 16 := ev1.trans (by decide +kernel)
  subst ev1
  refine lv_istore_n (lv' := [(2, .int 16), (0, .ref h0), (1, .int 13)]) hx hb dJ5_ensureCapacityInternal_d00df_10 rfl hl (by decide) rfl (fun ls hl => ?_)
  refine lv_iload_n hx hb dJ5_ensureCapacityInternal_d00df_11 rfl (lv_at hl 2 rfl) ?_
  refine lv_iload_n hx hb dJ5_ensureCapacityInternal_d00df_12 rfl (lv_at hl 0 rfl) ?_
  refine lv_isub hx hb dJ5_ensureCapacityInternal_d00df_13 ?_
  refine lv_topi (fun v2 ev2 => ?_)
  have ev2 : v2 = -3 := ev2.trans (by decide +kernel)
  subst ev2
  refine lv_if_le (tgt := 38) hx hb dJ5_ensureCapacityInternal_d00df_14 (by decide) (fun _ => ?_) (fun c9 => absurd (by decide) c9)
  have hP9 := hP.sub (ws' := [(h0, .inr (1, [.ref bv, .int 0, w1, w2])), (bv, .inl (y 0, 16, .inl g))]) [0, 1] rfl
  have hD9 := hD.sub (ws' := [(h0, .inr (1, [.ref bv, .int 0, w1, w2])), (bv, .inl (y 0, 16, .inl g))]) [0, 1] (by decide) rfl
  refine W.widen (k := 0) (n := 0) (Nat.le_of_ble_eq_true rfl) (Nat.le_of_ble_eq_true rfl) ?_
  exact W.vret hx hb hr (fun t ht hW => ⟨⟨(), rfl, trivial, by rw [ht]; exact hP9, hD9⟩, hS.F ht⟩) hS.2.2 dJ5_ensureCapacityInternal_d00df_38
def wz_c_getBytes_8_9_16 : List Cond := .code yJ0_getBytes_840e7 cJ0_getBytes_840e7 4 none :: ([.methodLink RJ0 335 yJ0_coder_7d493, .instanceMethod yJ0_coder_7d493, .selects RJ0 yJ0_coder_7d493 yJ0_coder_7d493, .initialized RJ0, .fieldLink RJ0 9 "java/lang/String" "value" "[B", .methodLink RJ0 212 arraycopyName, .native arraycopyName, .static arraycopyName, .initialized "java/lang/System"] ++ (wz_c_coder_o ++ ([])))
set_option maxRecDepth 100000 in
theorem gz_c_getBytes_8_9_16_c_coder_o : GoodIn wz_c_getBytes_8_9_16 wz_c_coder_o := goodIn_sub (fun w h => List.mem_cons_of_mem _ (List.mem_append_right _ (List.mem_append_left _ h))) (by decide +kernel)
set_option maxRecDepth 100000 in
theorem gv_c_getBytes_8_9_16_c_coder_o_335 : GoodIn wz_c_getBytes_8_9_16 (wsV RJ0 335 RJ0 yJ0_coder_7d493 wz_c_coder_o) := goodIn_app (goodIn_of _ (by decide +kernel)) gz_c_getBytes_8_9_16_c_coder_o
set_option maxHeartbeats 4000000 in
set_option maxRecDepth 100000 in
theorem c_getBytes_8_9_16 (l : Launch) (D : va_G) (y : Nat → ClassId) (sz : Nat) (bv : Nat) (sx : Nat) (tx : Nat) (g : Nat → Int32) : Met l yJ0_getBytes_840e7 wz_c_getBytes_8_9_16 ({ frames := 1, cells := 0, slots := 0, locals := 60 }) (va_Pc [.ref sx, .ref bv, .int 9, .int 0] (zB D y [(bv, .inl (y 0, 16, .inl g))] sz [] [("java/lang/String", "COMPACT_STRINGS", "Z", .int 1)] [] [.inr (.inl (sx, tx, 4, zs8))])) (va_Qv (fun _ : Unit => True) (fun _ t => va_P D vwCl [(bv, .inl (y 0, 16, .inl (va_cpy zs8 g (0 : Int32).toNatClampNeg (9 : Int32).toNatClampNeg (4 : Int32).toNatClampNeg)))] t.heap ∧ va_D (va_A [(bv, .inl (y 0, 16, .inl g))] sz) [(bv, .inl (y 0, 16, .inl (va_cpy zs8 g (0 : Int32).toNatClampNeg (9 : Int32).toNatClampNeg (4 : Int32).toNatClampNeg)))]) (va_A [(bv, .inl (y 0, 16, .inl g))] sz)) 0 0 (va_A [(bv, .inl (y 0, 16, .inl g))] sz) := by
  refine Met.ofW (cc := cJ0_getBytes_840e7) (maxL := 4) (ret := none) (by decide) rfl ?_
  intro p e s m args below meth c s₁ B hml hv
  obtain ⟨rfl, hsz, hP, hK, hD0, hN, hE, hO, hT, hG⟩ := hv
  have hx := B.exec
  have hb := B.bytes
  have hr := B.returns
  have hts := atoms_spec (ws := wz_c_getBytes_8_9_16) B.pre
  have hown : s.vm.findClass RJ0 = some m.cls := findClass_of_methodNamed B.named
  have hlocks := B.notSynchronized
  subst hsz
  have hD := hD0.self (sz := s.heap.size)
  generalize hAe : va_A [(bv, .inl (y 0, 16, .inl g))] s.heap.size = A at hD hE hT hG ⊢
  have hA : ∀ q : Nat, s.heap.size ≤ q → A q := fun q h => by rw [← hAe]; exact Or.inr h
  have hS : va_S A s.heap s.heap [] := va_S.rf
  have hl := lv_entry ([.ref sx, .ref bv, .int 9, .int 0]) (n := 4) (Nat.le_of_ble_eq_true rfl)
  rw [lg_entry_eq]
  generalize (lg_sl ([.ref sx, .ref bv, .int 9, .int 0]) ++ List.replicate (4 - (lg_sl ([.ref sx, .ref bv, .int 9, .int 0])).length) Slot.unset).toArray = ls at hl ⊢
  have hl : lv_has ls 4 [(0, .ref sx), (1, .ref bv), (2, .int 9), (3, .int 0)] := hl
  refine lv_aload_n hx hb dJ0_getBytes_840e7_0 rfl (lv_at hl 0 rfl) ?_
  have hPc := hP.sub (ws' := []) [] rfl
  have hDc := hD.sub (ws' := []) [] (by decide) rfl
  have hFc := va_free (wc := []) hD hS hA [] rfl
  refine va_calli (va_runV (As := []) (rest := []) ⟨hx, hb, hml, hown, hts⟩ (c_coder_o l D y s.heap.size sx tx 4 zs8) (cwV 0 hts gv_c_getBytes_8_9_16_c_coder_o_335 rfl rfl rfl (by decide +kernel) ⟨(Nat.le_of_ble_eq_true rfl), (Nat.le_of_ble_eq_true rfl)⟩) (zB.preV hPc hDc hK hN hE hO hT hG hS hFc (fun _ h => nomatch h) (List.forall_mem_cons.mpr ⟨List.mem_of_getElem? (i := 0) rfl, (fun _ h => nomatch h)⟩) (fun _ h => nomatch h) (List.forall_mem_cons.mpr ⟨List.mem_of_getElem? (i := 0) rfl, (fun _ h => nomatch h)⟩) (zStr.recv (show zStr sx tx 4 zs8 A s s.heap from (hG (.inr (.inl (sx, tx, 4, zs8))) (List.mem_of_getElem? (i := 0) rfl))) hS)) rfl rfl hl.1 rfl (lv_room (Nat.le_of_ble_eq_true rfl)) dJ0_getBytes_840e7_1 ⟨(Nat.le_of_ble_eq_true rfl), (Nat.le_of_ble_eq_true rfl)⟩) hS (fun q _ h => hFc q h) hFc (fun r1 u t H1 locs ht hvm hw hB hz1 hk1 hS => ?_)
  obtain ⟨hP1, hD1⟩ := hB
  rw [ht] at hP1
  obtain ⟨hP, hD⟩ := va_join (wr := [(bv, .inl (y 0, 16, .inl g))]) (w1 := []) hP hD [] [0] rfl rfl (by decide) (by decide) hk1 hFc hP1 hD1
  generalize H1 = H at hP hS ⊢
  have hP : va_P D vwCl [(bv, .inl (y 0, 16, .inl g))] H := hP
  have hD : va_D A [(bv, .inl (y 0, 16, .inl g))] := hD
  have hw : r1 = 0 := hw
  subst hw
  refine lv_iload_n hx hb dJ0_getBytes_840e7_4 rfl (lv_at hl 3 rfl) ?_
  refine lv_icmp_ne (tgt := 28) hx hb dJ0_getBytes_840e7_5 (by decide) (fun c9 => absurd (by decide) c9) (fun _ => ?_)
  refine lv_aload_n hx hb dJ0_getBytes_840e7_8 rfl (lv_at hl 0 rfl) ?_
  refine vk_getf hx hb (show zStr sx tx 4 zs8 A s s.heap from (hG (.inr (.inl (sx, tx, 4, zs8))) (List.mem_of_getElem? (i := 0) rfl))).2.2.1 hS hown (hts (.fieldLink RJ0 9 "java/lang/String" "value" "[B") (by decide +kernel)) (fun _ h9 => h9) dJ0_getBytes_840e7_9 ?_
  refine lv_iconst (v := 0) hx hb dJ0_getBytes_840e7_12 (by decide) ?_
  refine lv_aload_n hx hb dJ0_getBytes_840e7_13 rfl (lv_at hl 1 rfl) ?_
  refine lv_iload_n hx hb dJ0_getBytes_840e7_14 rfl (lv_at hl 2 rfl) ?_
  refine lv_iload_n hx hb dJ0_getBytes_840e7_15 rfl (lv_at hl 3 rfl) ?_
  refine lv_ishl hx hb dJ0_getBytes_840e7_16 ?_
  refine lv_topi (fun v2 ev2 => ?_)
  have ev2 : v2 = 9 := ev2.trans (by decide +kernel)
  subst ev2
  refine lv_aload_n hx hb dJ0_getBytes_840e7_17 rfl (lv_at hl 0 rfl) ?_
  refine vk_getf hx hb (show zStr sx tx 4 zs8 A s s.heap from (hG (.inr (.inl (sx, tx, 4, zs8))) (List.mem_of_getElem? (i := 0) rfl))).2.2.1 hS hown (hts (.fieldLink RJ0 9 "java/lang/String" "value" "[B") (by decide +kernel)) (fun _ h9 => h9) dJ0_getBytes_840e7_18 ?_
  refine va_tlen (v := 4) hx hb (show zStr sx tx 4 zs8 A s s.heap from (hG (.inr (.inl (sx, tx, 4, zs8))) (List.mem_of_getElem? (i := 0) rfl))).2.2.2 hS (by decide) dJ0_getBytes_840e7_21 ?_
  refine vk_copyt (sp := 0) (dp := 9) (n := 4) (f := zs8) hx hb (hml.trans hl.1.symm) hown (hts (.methodLink RJ0 212 arraycopyName) (by decide +kernel)) (hts (.native arraycopyName) (by decide +kernel)) (hts (.static arraycopyName) (by decide +kernel)) (hts (.initialized "java/lang/System") (by decide +kernel)) hK hP hD hS (show zStr sx tx 4 zs8 A s s.heap from (hG (.inr (.inl (sx, tx, 4, zs8))) (List.mem_of_getElem? (i := 0) rfl))).2.2.2 0 0 rfl rfl (by decide +kernel) (by decide +kernel) (by decide +kernel) (by decide +kernel) (by decide +kernel) (by decide +kernel) (Nat.le_of_ble_eq_true rfl) (Nat.le_of_ble_eq_true rfl) dJ0_getBytes_840e7_22 (fun H locs hP hD hS => ?_)
  have hP : va_P D vwCl [(bv, .inl (y 0, 16, .inl (va_cpy zs8 g (0 : Int32).toNatClampNeg (9 : Int32).toNatClampNeg (4 : Int32).toNatClampNeg)))] H := hP
  have hD : va_D A [(bv, .inl (y 0, 16, .inl (va_cpy zs8 g (0 : Int32).toNatClampNeg (9 : Int32).toNatClampNeg (4 : Int32).toNatClampNeg)))] := hD
  refine lv_goto (tgt := 43) hx hb dJ0_getBytes_840e7_25 (by decide) ?_
  have hP9 := hP.sub (ws' := [(bv, .inl (y 0, 16, .inl (va_cpy zs8 g (0 : Int32).toNatClampNeg (9 : Int32).toNatClampNeg (4 : Int32).toNatClampNeg)))]) [0] rfl
  have hD9 := hD.sub (ws' := [(bv, .inl (y 0, 16, .inl (va_cpy zs8 g (0 : Int32).toNatClampNeg (9 : Int32).toNatClampNeg (4 : Int32).toNatClampNeg)))]) [0] (by decide) rfl
  refine W.widen (k := 0) (n := 0) (Nat.le_of_ble_eq_true rfl) (Nat.le_of_ble_eq_true rfl) ?_
  exact W.vret hx hb hr (fun t ht hW => ⟨⟨(), rfl, trivial, by rw [ht]; exact hP9, hD9⟩, hS.F ht⟩) hS.2.2 dJ0_getBytes_840e7_43
def wz_c_putStr_8_9_16 : List Cond := .code yJ5_putStringAt_47b60 cJ5_putStringAt_47b60 3 none :: ([.methodLink RJ5 397 ⟨"java/lang/AbstractStringBuilder", "inflateIfNeededFor", "(Ljava/lang/String;)V"⟩, .sameMethod "java/lang/AbstractStringBuilder" "java/lang/AbstractStringBuilder" "inflateIfNeededFor" "(Ljava/lang/String;)V", .selects RJ4 ⟨"java/lang/AbstractStringBuilder", "inflateIfNeededFor", "(Ljava/lang/String;)V"⟩ yJ5_inflateIfNeededFor_a7421, .instanceMethod yJ5_inflateIfNeededFor_a7421, .initialized RJ5, .fieldLink RJ5 15 "java/lang/AbstractStringBuilder" "value" "[B", .fieldLink RJ5 22 "java/lang/AbstractStringBuilder" "coder" "B", .methodLink RJ5 399 yJ0_getBytes_840e7, .instanceMethod yJ0_getBytes_840e7, .selects RJ0 yJ0_getBytes_840e7 yJ0_getBytes_840e7, .initialized RJ0] ++ (wsJ40 ++ (wz_c_inflIf ++ (wz_c_getBytes_8_9_16 ++ ([])))))
set_option maxRecDepth 100000 in
theorem gz_c_putStr_8_9_16_c_inflIf : GoodIn wz_c_putStr_8_9_16 wz_c_inflIf := goodIn_sub (fun w h => List.mem_cons_of_mem _ (List.mem_append_right _ (List.mem_append_right _ (List.mem_append_left _ h)))) (by decide +kernel)
set_option maxRecDepth 100000 in
theorem gz_c_putStr_8_9_16_c_getBytes_8_9_16 : GoodIn wz_c_putStr_8_9_16 wz_c_getBytes_8_9_16 := goodIn_sub (fun w h => List.mem_cons_of_mem _ (List.mem_append_right _ (List.mem_append_right _ (List.mem_append_right _ (List.mem_append_left _ h))))) (by decide +kernel)
set_option maxRecDepth 100000 in
theorem gv_c_putStr_8_9_16_c_inflIf_397 : GoodIn wz_c_putStr_8_9_16 (va_wsU RJ5 397 RJ4 "java/lang/AbstractStringBuilder" ⟨"java/lang/AbstractStringBuilder", "inflateIfNeededFor", "(Ljava/lang/String;)V"⟩ yJ5_inflateIfNeededFor_a7421 wz_c_inflIf) := goodIn_app (goodIn_of _ (by decide +kernel)) gz_c_putStr_8_9_16_c_inflIf
set_option maxRecDepth 100000 in
theorem gv_c_putStr_8_9_16_c_getBytes_8_9_16_399 : GoodIn wz_c_putStr_8_9_16 (wsV RJ5 399 RJ0 yJ0_getBytes_840e7 wz_c_getBytes_8_9_16) := goodIn_app (goodIn_of _ (by decide +kernel)) gz_c_putStr_8_9_16_c_getBytes_8_9_16
set_option maxHeartbeats 4000000 in
set_option maxRecDepth 100000 in
theorem c_putStr_8_9_16 (l : Launch) (D : va_G) (y : Nat → ClassId) (sz : Nat) (h0 : Nat) (bv : Nat) (w1 : Value) (w2 : Value) (sx : Nat) (tx : Nat) (g : Nat → Int32) : Met l yJ5_putStringAt_47b60 wz_c_putStr_8_9_16 ({ frames := 2, cells := 0, slots := 0, locals := 83 }) (va_Pc [.ref h0, .int 9, .ref sx] (zB D y [(h0, .inr (1, [.ref bv, .int 0, w1, w2])), (bv, .inl (y 0, 16, .inl g))] sz [] [("java/lang/String", "COMPACT_STRINGS", "Z", .int 1)] [] [.inr (.inl (sx, tx, 4, zs8))])) (va_Qv (fun _ : Unit => True) (fun _ t => va_P D vwCl [(h0, .inr (1, [.ref bv, .int 0, w1, w2])), (bv, .inl (y 0, 16, .inl (va_cpy zs8 g (0 : Int32).toNatClampNeg (9 : Int32).toNatClampNeg (4 : Int32).toNatClampNeg)))] t.heap ∧ va_D (va_A [(h0, .inr (1, [.ref bv, .int 0, w1, w2])), (bv, .inl (y 0, 16, .inl g))] sz) [(h0, .inr (1, [.ref bv, .int 0, w1, w2])), (bv, .inl (y 0, 16, .inl (va_cpy zs8 g (0 : Int32).toNatClampNeg (9 : Int32).toNatClampNeg (4 : Int32).toNatClampNeg)))]) (va_A [(h0, .inr (1, [.ref bv, .int 0, w1, w2])), (bv, .inl (y 0, 16, .inl g))] sz)) 0 0 (va_A [(h0, .inr (1, [.ref bv, .int 0, w1, w2])), (bv, .inl (y 0, 16, .inl g))] sz) := by
  refine Met.ofW (cc := cJ5_putStringAt_47b60) (maxL := 3) (ret := none) (by decide) rfl ?_
  intro p e s m args below meth c s₁ B hml hv
  obtain ⟨rfl, hsz, hP, hK, hD0, hN, hE, hO, hT, hG⟩ := hv
  have hx := B.exec
  have hb := B.bytes
  have hr := B.returns
  have hts := atoms_spec (ws := wz_c_putStr_8_9_16) B.pre
  have hown : s.vm.findClass RJ5 = some m.cls := findClass_of_methodNamed B.named
  have hlocks := B.notSynchronized
  subst hsz
  have hD := hD0.self (sz := s.heap.size)
  generalize hAe : va_A [(h0, .inr (1, [.ref bv, .int 0, w1, w2])), (bv, .inl (y 0, 16, .inl g))] s.heap.size = A at hD hE hT hG ⊢
  have hA : ∀ q : Nat, s.heap.size ≤ q → A q := fun q h => by rw [← hAe]; exact Or.inr h
  have hS : va_S A s.heap s.heap [] := va_S.rf
  have hl := lv_entry ([.ref h0, .int 9, .ref sx]) (n := 3) (Nat.le_of_ble_eq_true rfl)
  rw [lg_entry_eq]
  generalize (lg_sl ([.ref h0, .int 9, .ref sx]) ++ List.replicate (3 - (lg_sl ([.ref h0, .int 9, .ref sx])).length) Slot.unset).toArray = ls at hl ⊢
  have hl : lv_has ls 3 [(0, .ref h0), (1, .int 9), (2, .ref sx)] := hl
  refine lv_aload_n hx hb dJ5_putStringAt_47b60_0 rfl (lv_at hl 0 rfl) ?_
  refine lv_aload_n hx hb dJ5_putStringAt_47b60_1 rfl (lv_at hl 2 rfl) ?_
  have hPc := hP.sub (ws' := [(h0, .inr (1, [.ref bv, .int 0, w1, w2]))]) [0] rfl
  have hDc := hD.sub (ws' := [(h0, .inr (1, [.ref bv, .int 0, w1, w2]))]) [0] (by decide) rfl
  have hFc := va_free (wc := [(h0, .inr (1, [.ref bv, .int 0, w1, w2]))]) hD hS hA [0] rfl
  refine va_callv (va_runU (As := [.ref sx]) (rest := []) ⟨hx, hb, hml, hown, hts⟩ (c_inflIf l D y s.heap.size h0 ((.ref bv)) w1 w2 sx tx 4 zs8) (va_cwU 1 hts gv_c_putStr_8_9_16_c_inflIf_397 rfl rfl rfl rfl (by decide +kernel) ⟨(Nat.le_of_ble_eq_true rfl), (Nat.le_of_ble_eq_true rfl)⟩) (zB.preV hPc hDc hK hN hE hO hT hG hS hFc (fun _ h => nomatch h) (List.forall_mem_cons.mpr ⟨List.mem_of_getElem? (i := 0) rfl, (fun _ h => nomatch h)⟩) (fun _ h => nomatch h) (List.forall_mem_cons.mpr ⟨List.mem_of_getElem? (i := 0) rfl, (fun _ h => nomatch h)⟩) (va_recv hK hPc (ci := 1) (q0 := 0) rfl rfl)) rfl rfl hl.1 rfl (lv_room (Nat.le_of_ble_eq_true rfl)) dJ5_putStringAt_47b60_2 ⟨(Nat.le_of_ble_eq_true rfl), (Nat.le_of_ble_eq_true rfl)⟩) hS (fun q _ h => hFc q h) hFc (fun u t H1 locs ht hvm hw hB hz1 hk1 hS => ?_)
  obtain ⟨hP1, hD1⟩ := hB
  rw [ht] at hP1
  obtain ⟨hP, hD⟩ := va_join (wr := [(bv, .inl (y 0, 16, .inl g))]) (w1 := [(h0, .inr (1, [.ref bv, .int 0, w1, w2]))]) hP hD [0] [1] rfl rfl (by decide) (by decide) hk1 hFc hP1 hD1
  generalize H1 = H at hP hS ⊢
  have hP : va_P D vwCl [(bv, .inl (y 0, 16, .inl g)), (h0, .inr (1, [.ref bv, .int 0, w1, w2]))] H := hP
  have hD : va_D A [(bv, .inl (y 0, 16, .inl g)), (h0, .inr (1, [.ref bv, .int 0, w1, w2]))] := hD
  refine lv_aload_n hx hb dJ5_putStringAt_47b60_5 rfl (lv_at hl 2 rfl) ?_
  refine lv_aload_n hx hb dJ5_putStringAt_47b60_6 rfl (lv_at hl 0 rfl) ?_
  refine va_get (D := D) (ci := 1) (v := .ref bv) (C := RJ4) (T := TJ4) (N := 4) hx hb hts (by decide +kernel) hown hK hP 1 rfl rfl 0 (by decide) (hts (.fieldLink RJ5 15 "java/lang/AbstractStringBuilder" "value" "[B") (by decide +kernel)) (fun _ h9 => h9) rfl dJ5_putStringAt_47b60_7 ?_
  refine lv_iload_n hx hb dJ5_putStringAt_47b60_10 rfl (lv_at hl 1 rfl) ?_
  refine lv_aload_n hx hb dJ5_putStringAt_47b60_11 rfl (lv_at hl 0 rfl) ?_
  refine va_get (D := D) (ci := 1) (v := .int 0) (C := RJ4) (T := TJ4) (N := 4) hx hb hts (by decide +kernel) hown hK hP 1 rfl rfl 1 (by decide) (hts (.fieldLink RJ5 22 "java/lang/AbstractStringBuilder" "coder" "B") (by decide +kernel)) (fun _ h9 => h9) rfl dJ5_putStringAt_47b60_12 ?_
  have hPc := hP.sub (ws' := [(bv, .inl (y 0, 16, .inl g))]) [0] rfl
  have hDc := hD.sub (ws' := [(bv, .inl (y 0, 16, .inl g))]) [0] (by decide) rfl
  have hFc := va_free (wc := [(bv, .inl (y 0, 16, .inl g))]) hD hS hA [0] rfl
  refine va_callv (va_runV (As := [.ref bv, .int 9, .int 0]) (rest := []) ⟨hx, hb, hml, hown, hts⟩ (c_getBytes_8_9_16 l D y H.size bv sx tx g) (cwV 3 hts gv_c_putStr_8_9_16_c_getBytes_8_9_16_399 rfl rfl rfl (by decide +kernel) ⟨(Nat.le_of_ble_eq_true rfl), (Nat.le_of_ble_eq_true rfl)⟩) (zB.preV hPc hDc hK hN hE hO hT hG hS hFc (fun _ h => nomatch h) (List.forall_mem_cons.mpr ⟨List.mem_of_getElem? (i := 0) rfl, (fun _ h => nomatch h)⟩) (fun _ h => nomatch h) (List.forall_mem_cons.mpr ⟨List.mem_of_getElem? (i := 0) rfl, (fun _ h => nomatch h)⟩) (zStr.recv (show zStr sx tx 4 zs8 A s s.heap from (hG (.inr (.inl (sx, tx, 4, zs8))) (List.mem_of_getElem? (i := 0) rfl))) hS)) rfl rfl hl.1 rfl (lv_room (Nat.le_of_ble_eq_true rfl)) dJ5_putStringAt_47b60_15 ⟨(Nat.le_of_ble_eq_true rfl), (Nat.le_of_ble_eq_true rfl)⟩) hS (fun q _ h => hFc q h) hFc (fun u t H1 locs ht hvm hw hB hz1 hk1 hS => ?_)
  obtain ⟨hP1, hD1⟩ := hB
  rw [ht] at hP1
  obtain ⟨hP, hD⟩ := va_join (wr := [(h0, .inr (1, [.ref bv, .int 0, w1, w2]))]) (w1 := [(bv, .inl (y 0, 16, .inl (va_cpy zs8 g (0 : Int32).toNatClampNeg (9 : Int32).toNatClampNeg (4 : Int32).toNatClampNeg)))]) hP hD [0] [1] rfl rfl (by decide) (by decide) hk1 hFc hP1 hD1
  generalize H1 = H at hP hS ⊢
  have hP : va_P D vwCl [(h0, .inr (1, [.ref bv, .int 0, w1, w2])), (bv, .inl (y 0, 16, .inl (va_cpy zs8 g (0 : Int32).toNatClampNeg (9 : Int32).toNatClampNeg (4 : Int32).toNatClampNeg)))] H := hP
  have hD : va_D A [(h0, .inr (1, [.ref bv, .int 0, w1, w2])), (bv, .inl (y 0, 16, .inl (va_cpy zs8 g (0 : Int32).toNatClampNeg (9 : Int32).toNatClampNeg (4 : Int32).toNatClampNeg)))] := hD
  have hP9 := hP.sub (ws' := [(h0, .inr (1, [.ref bv, .int 0, w1, w2])), (bv, .inl (y 0, 16, .inl (va_cpy zs8 g (0 : Int32).toNatClampNeg (9 : Int32).toNatClampNeg (4 : Int32).toNatClampNeg)))]) [0, 1] rfl
  have hD9 := hD.sub (ws' := [(h0, .inr (1, [.ref bv, .int 0, w1, w2])), (bv, .inl (y 0, 16, .inl (va_cpy zs8 g (0 : Int32).toNatClampNeg (9 : Int32).toNatClampNeg (4 : Int32).toNatClampNeg)))]) [0, 1] (by decide) rfl
  refine W.widen (k := 0) (n := 0) (Nat.le_of_ble_eq_true rfl) (Nat.le_of_ble_eq_true rfl) ?_
  exact W.vret hx hb hr (fun t ht hW => ⟨⟨(), rfl, trivial, by rw [ht]; exact hP9, hD9⟩, hS.F ht⟩) hS.2.2 dJ5_putStringAt_47b60_18
def wz_c_ASBapp_8_9_16 : List Cond := .code yJ5_append_cf1ce cJ5_append_cf1ce 3 (some (.object "java/lang/AbstractStringBuilder")) :: ([.methodLink RJ5 32 yJ0_length_8abf5, .instanceMethod yJ0_length_8abf5, .selects RJ0 yJ0_length_8abf5 yJ0_length_8abf5, .initialized RJ0, .fieldLink RJ5 79 "java/lang/AbstractStringBuilder" "count" "I", .methodLink RJ5 100 ⟨"java/lang/AbstractStringBuilder", "ensureCapacityInternal", "(I)V"⟩, .sameMethod "java/lang/AbstractStringBuilder" "java/lang/AbstractStringBuilder" "ensureCapacityInternal" "(I)V", .selects RJ4 ⟨"java/lang/AbstractStringBuilder", "ensureCapacityInternal", "(I)V"⟩ yJ5_ensureCapacityInternal_d00df, .instanceMethod yJ5_ensureCapacityInternal_d00df, .initialized RJ5, .methodLink RJ5 208 ⟨"java/lang/AbstractStringBuilder", "putStringAt", "(ILjava/lang/String;)V"⟩, .sameMethod "java/lang/AbstractStringBuilder" "java/lang/AbstractStringBuilder" "putStringAt" "(ILjava/lang/String;)V", .selects RJ4 ⟨"java/lang/AbstractStringBuilder", "putStringAt", "(ILjava/lang/String;)V"⟩ yJ5_putStringAt_47b60, .instanceMethod yJ5_putStringAt_47b60] ++ (wsJ40 ++ (wz_c_len_o_4 ++ (wz_c_ens_16_13 ++ (wz_c_putStr_8_9_16 ++ ([]))))))
set_option maxRecDepth 100000 in
theorem gz_c_ASBapp_8_9_16_c_len_o_4 : GoodIn wz_c_ASBapp_8_9_16 wz_c_len_o_4 := goodIn_sub (fun w h => List.mem_cons_of_mem _ (List.mem_append_right _ (List.mem_append_right _ (List.mem_append_left _ h)))) (by decide +kernel)
set_option maxRecDepth 100000 in
theorem gz_c_ASBapp_8_9_16_c_ens_16_13 : GoodIn wz_c_ASBapp_8_9_16 wz_c_ens_16_13 := goodIn_sub (fun w h => List.mem_cons_of_mem _ (List.mem_append_right _ (List.mem_append_right _ (List.mem_append_right _ (List.mem_append_left _ h))))) (by decide +kernel)
set_option maxRecDepth 100000 in
theorem gz_c_ASBapp_8_9_16_c_putStr_8_9_16 : GoodIn wz_c_ASBapp_8_9_16 wz_c_putStr_8_9_16 := goodIn_sub (fun w h => List.mem_cons_of_mem _ (List.mem_append_right _ (List.mem_append_right _ (List.mem_append_right _ (List.mem_append_right _ (List.mem_append_left _ h)))))) (by decide +kernel)
set_option maxRecDepth 100000 in
theorem gv_c_ASBapp_8_9_16_c_len_o_4_32 : GoodIn wz_c_ASBapp_8_9_16 (wsV RJ5 32 RJ0 yJ0_length_8abf5 wz_c_len_o_4) := goodIn_app (goodIn_of _ (by decide +kernel)) gz_c_ASBapp_8_9_16_c_len_o_4
set_option maxRecDepth 100000 in
theorem gv_c_ASBapp_8_9_16_c_ens_16_13_100 : GoodIn wz_c_ASBapp_8_9_16 (va_wsU RJ5 100 RJ4 "java/lang/AbstractStringBuilder" ⟨"java/lang/AbstractStringBuilder", "ensureCapacityInternal", "(I)V"⟩ yJ5_ensureCapacityInternal_d00df wz_c_ens_16_13) := goodIn_app (goodIn_of _ (by decide +kernel)) gz_c_ASBapp_8_9_16_c_ens_16_13
set_option maxRecDepth 100000 in
theorem gv_c_ASBapp_8_9_16_c_putStr_8_9_16_208 : GoodIn wz_c_ASBapp_8_9_16 (va_wsU RJ5 208 RJ4 "java/lang/AbstractStringBuilder" ⟨"java/lang/AbstractStringBuilder", "putStringAt", "(ILjava/lang/String;)V"⟩ yJ5_putStringAt_47b60 wz_c_putStr_8_9_16) := goodIn_app (goodIn_of _ (by decide +kernel)) gz_c_ASBapp_8_9_16_c_putStr_8_9_16
set_option maxHeartbeats 4000000 in
set_option maxRecDepth 100000 in
theorem c_ASBapp_8_9_16 (l : Launch) (D : va_G) (y : Nat → ClassId) (sz : Nat) (h0 : Nat) (bv : Nat) (w1 : Value) (sx : Nat) (tx : Nat) (g : Nat → Int32) : Met l yJ5_append_cf1ce wz_c_ASBapp_8_9_16 ({ frames := 3, cells := 0, slots := 0, locals := 105 }) (va_Pc [.ref h0, .ref sx] (zB D y [(h0, .inr (1, [.ref bv, .int 0, w1, .int 9])), (bv, .inl (y 0, 16, .inl g))] sz [] [("java/lang/String", "COMPACT_STRINGS", "Z", .int 1)] [] [.inr (.inl (sx, tx, 4, zs8))])) (va_Qq (fun (r : Option Nat) (_ : Unit) => r = some h0) (fun _ t => va_P D vwCl [(h0, .inr (1, [.ref bv, .int 0, w1, .int 13])), (bv, .inl (y 0, 16, .inl (va_cpy zs8 g (0 : Int32).toNatClampNeg (9 : Int32).toNatClampNeg (4 : Int32).toNatClampNeg)))] t.heap ∧ va_D (va_A [(h0, .inr (1, [.ref bv, .int 0, w1, .int 9])), (bv, .inl (y 0, 16, .inl g))] sz) [(h0, .inr (1, [.ref bv, .int 0, w1, .int 13])), (bv, .inl (y 0, 16, .inl (va_cpy zs8 g (0 : Int32).toNatClampNeg (9 : Int32).toNatClampNeg (4 : Int32).toNatClampNeg)))]) (va_A [(h0, .inr (1, [.ref bv, .int 0, w1, .int 9])), (bv, .inl (y 0, 16, .inl g))] sz)) 0 0 (va_A [(h0, .inr (1, [.ref bv, .int 0, w1, .int 9])), (bv, .inl (y 0, 16, .inl g))] sz) := by
  refine Met.ofW (cc := cJ5_append_cf1ce) (maxL := 3) (ret := (some (.object "java/lang/AbstractStringBuilder"))) (by decide) rfl ?_
  intro p e s m args below meth c s₁ B hml hv
  obtain ⟨rfl, hsz, hP, hK, hD0, hN, hE, hO, hT, hG⟩ := hv
  have hx := B.exec
  have hb := B.bytes
  have hr := B.returns
  have hts := atoms_spec (ws := wz_c_ASBapp_8_9_16) B.pre
  have hown : s.vm.findClass RJ5 = some m.cls := findClass_of_methodNamed B.named
  have hlocks := B.notSynchronized
  subst hsz
  have hD := hD0.self (sz := s.heap.size)
  generalize hAe : va_A [(h0, .inr (1, [.ref bv, .int 0, w1, .int 9])), (bv, .inl (y 0, 16, .inl g))] s.heap.size = A at hD hE hT hG ⊢
  have hA : ∀ q : Nat, s.heap.size ≤ q → A q := fun q h => by rw [← hAe]; exact Or.inr h
  have hS : va_S A s.heap s.heap [] := va_S.rf
  have hl := lv_entry ([.ref h0, .ref sx]) (n := 3) (Nat.le_of_ble_eq_true rfl)
  rw [lg_entry_eq]
  generalize (lg_sl ([.ref h0, .ref sx]) ++ List.replicate (3 - (lg_sl ([.ref h0, .ref sx])).length) Slot.unset).toArray = ls at hl ⊢
  have hl : lv_has ls 3 [(0, .ref h0), (1, .ref sx)] := hl
  refine lv_aload_n hx hb dJ5_append_cf1ce_0 rfl (lv_at hl 1 rfl) ?_
  refine lv_ifnonnull (tgt := 9) hx hb dJ5_append_cf1ce_1 (by decide) ?_
  refine lv_aload_n hx hb dJ5_append_cf1ce_9 rfl (lv_at hl 1 rfl) ?_
  have hPc := hP.sub (ws' := []) [] rfl
  have hDc := hD.sub (ws' := []) [] (by decide) rfl
  have hFc := va_free (wc := []) hD hS hA [] rfl
  refine va_calli (va_runV (As := []) (rest := []) ⟨hx, hb, hml, hown, hts⟩ (c_len_o_4 l D y s.heap.size sx tx zs8) (cwV 0 hts gv_c_ASBapp_8_9_16_c_len_o_4_32 rfl rfl rfl (by decide +kernel) ⟨(Nat.le_of_ble_eq_true rfl), (Nat.le_of_ble_eq_true rfl)⟩) (zB.preV hPc hDc hK hN hE hO hT hG hS hFc (fun _ h => nomatch h) (List.forall_mem_cons.mpr ⟨List.mem_of_getElem? (i := 0) rfl, (fun _ h => nomatch h)⟩) (fun _ h => nomatch h) (List.forall_mem_cons.mpr ⟨List.mem_of_getElem? (i := 0) rfl, (fun _ h => nomatch h)⟩) (zStr.recv (show zStr sx tx 4 zs8 A s s.heap from (hG (.inr (.inl (sx, tx, 4, zs8))) (List.mem_of_getElem? (i := 0) rfl))) hS)) rfl rfl hl.1 rfl (lv_room (Nat.le_of_ble_eq_true rfl)) dJ5_append_cf1ce_10 ⟨(Nat.le_of_ble_eq_true rfl), (Nat.le_of_ble_eq_true rfl)⟩) hS (fun q _ h => hFc q h) hFc (fun r1 u t H1 locs ht hvm hw hB hz1 hk1 hS => ?_)
  obtain ⟨hP1, hD1⟩ := hB
  rw [ht] at hP1
  obtain ⟨hP, hD⟩ := va_join (wr := [(h0, .inr (1, [.ref bv, .int 0, w1, .int 9])), (bv, .inl (y 0, 16, .inl g))]) (w1 := []) hP hD [] [0, 1] rfl rfl (by decide) (by decide) hk1 hFc hP1 hD1
  generalize H1 = H at hP hS ⊢
  have hP : va_P D vwCl [(h0, .inr (1, [.ref bv, .int 0, w1, .int 9])), (bv, .inl (y 0, 16, .inl g))] H := hP
  have hD : va_D A [(h0, .inr (1, [.ref bv, .int 0, w1, .int 9])), (bv, .inl (y 0, 16, .inl g))] := hD
  have hw : r1 = 4 := hw
  subst hw
  refine lv_istore_n (lv' := [(2, .int 4), (0, .ref h0), (1, .ref sx)]) hx hb dJ5_append_cf1ce_13 rfl hl (by decide) rfl (fun ls hl => ?_)
  refine lv_aload_n hx hb dJ5_append_cf1ce_14 rfl (lv_at hl 1 rfl) ?_
  refine lv_aload_n hx hb dJ5_append_cf1ce_15 rfl (lv_at hl 1 rfl) ?_
  refine va_get (D := D) (ci := 1) (v := .int 9) (C := RJ4) (T := TJ4) (N := 4) hx hb hts (by decide +kernel) hown hK hP 0 rfl rfl 3 (by decide) (hts (.fieldLink RJ5 79 "java/lang/AbstractStringBuilder" "count" "I") (by decide +kernel)) (fun _ h9 => h9) rfl dJ5_append_cf1ce_16 ?_
  refine lv_iload_n hx hb dJ5_append_cf1ce_19 rfl (lv_at hl 0 rfl) ?_
  refine lv_iadd hx hb dJ5_append_cf1ce_20 ?_
  refine lv_topi (fun v2 ev2 => ?_)
  have ev2 : v2 = 13 := ev2.trans (by decide +kernel)
  subst ev2
  have hPc := hP.sub (ws' := [(h0, .inr (1, [.ref bv, .int 0, w1, .int 9])), (bv, .inl (y 0, 16, .inl g))]) [0, 1] rfl
  have hDc := hD.sub (ws' := [(h0, .inr (1, [.ref bv, .int 0, w1, .int 9])), (bv, .inl (y 0, 16, .inl g))]) [0, 1] (by decide) rfl
  have hFc := va_free (wc := [(h0, .inr (1, [.ref bv, .int 0, w1, .int 9])), (bv, .inl (y 0, 16, .inl g))]) hD hS hA [0, 1] rfl
  refine va_callv (va_runU (As := [.int 13]) (rest := []) ⟨hx, hb, hml, hown, hts⟩ (c_ens_16_13 l D y H.size h0 bv w1 ((.int 9)) g) (va_cwU 1 hts gv_c_ASBapp_8_9_16_c_ens_16_13_100 rfl rfl rfl rfl (by decide +kernel) ⟨(Nat.le_of_ble_eq_true rfl), (Nat.le_of_ble_eq_true rfl)⟩) (zB.preV hPc hDc hK hN hE hO hT hG hS hFc (fun _ h => nomatch h) (fun _ h => nomatch h) (fun _ h => nomatch h) (fun _ h => nomatch h) (va_recv hK hPc (ci := 1) (q0 := 0) rfl rfl)) rfl rfl hl.1 rfl (lv_room (Nat.le_of_ble_eq_true rfl)) dJ5_append_cf1ce_21 ⟨(Nat.le_of_ble_eq_true rfl), (Nat.le_of_ble_eq_true rfl)⟩) hS (fun q _ h => hFc q h) hFc (fun u t H1 locs ht hvm hw hB hz1 hk1 hS => ?_)
  obtain ⟨hP1, hD1⟩ := hB
  rw [ht] at hP1
  obtain ⟨hP, hD⟩ := va_join (wr := []) (w1 := [(h0, .inr (1, [.ref bv, .int 0, w1, .int 9])), (bv, .inl (y 0, 16, .inl g))]) hP hD [0, 1] [] rfl rfl (by decide) (by decide) hk1 hFc hP1 hD1
  generalize H1 = H at hP hS ⊢
  have hP : va_P D vwCl [(h0, .inr (1, [.ref bv, .int 0, w1, .int 9])), (bv, .inl (y 0, 16, .inl g))] H := hP
  have hD : va_D A [(h0, .inr (1, [.ref bv, .int 0, w1, .int 9])), (bv, .inl (y 0, 16, .inl g))] := hD
  refine lv_aload_n hx hb dJ5_append_cf1ce_24 rfl (lv_at hl 1 rfl) ?_
  refine lv_aload_n hx hb dJ5_append_cf1ce_25 rfl (lv_at hl 1 rfl) ?_
  refine va_get (D := D) (ci := 1) (v := .int 9) (C := RJ4) (T := TJ4) (N := 4) hx hb hts (by decide +kernel) hown hK hP 0 rfl rfl 3 (by decide) (hts (.fieldLink RJ5 79 "java/lang/AbstractStringBuilder" "count" "I") (by decide +kernel)) (fun _ h9 => h9) rfl dJ5_append_cf1ce_26 ?_
  refine lv_aload_n hx hb dJ5_append_cf1ce_29 rfl (lv_at hl 2 rfl) ?_
  have hPc := hP.sub (ws' := [(h0, .inr (1, [.ref bv, .int 0, w1, .int 9])), (bv, .inl (y 0, 16, .inl g))]) [0, 1] rfl
  have hDc := hD.sub (ws' := [(h0, .inr (1, [.ref bv, .int 0, w1, .int 9])), (bv, .inl (y 0, 16, .inl g))]) [0, 1] (by decide) rfl
  have hFc := va_free (wc := [(h0, .inr (1, [.ref bv, .int 0, w1, .int 9])), (bv, .inl (y 0, 16, .inl g))]) hD hS hA [0, 1] rfl
  refine va_callv (va_runU (As := [.int 9, .ref sx]) (rest := []) ⟨hx, hb, hml, hown, hts⟩ (c_putStr_8_9_16 l D y H.size h0 bv w1 ((.int 9)) sx tx g) (va_cwU 2 hts gv_c_ASBapp_8_9_16_c_putStr_8_9_16_208 rfl rfl rfl rfl (by decide +kernel) ⟨(Nat.le_of_ble_eq_true rfl), (Nat.le_of_ble_eq_true rfl)⟩) (zB.preV hPc hDc hK hN hE hO hT hG hS hFc (fun _ h => nomatch h) (List.forall_mem_cons.mpr ⟨List.mem_of_getElem? (i := 0) rfl, (fun _ h => nomatch h)⟩) (fun _ h => nomatch h) (List.forall_mem_cons.mpr ⟨List.mem_of_getElem? (i := 0) rfl, (fun _ h => nomatch h)⟩) (va_recv hK hPc (ci := 1) (q0 := 0) rfl rfl)) rfl rfl hl.1 rfl (lv_room (Nat.le_of_ble_eq_true rfl)) dJ5_append_cf1ce_30 ⟨(Nat.le_of_ble_eq_true rfl), (Nat.le_of_ble_eq_true rfl)⟩) hS (fun q _ h => hFc q h) hFc (fun u t H1 locs ht hvm hw hB hz1 hk1 hS => ?_)
  obtain ⟨hP1, hD1⟩ := hB
  rw [ht] at hP1
  obtain ⟨hP, hD⟩ := va_join (wr := []) (w1 := [(h0, .inr (1, [.ref bv, .int 0, w1, .int 9])), (bv, .inl (y 0, 16, .inl (va_cpy zs8 g (0 : Int32).toNatClampNeg (9 : Int32).toNatClampNeg (4 : Int32).toNatClampNeg)))]) hP hD [0, 1] [] rfl rfl (by decide) (by decide) hk1 hFc hP1 hD1
  generalize H1 = H at hP hS ⊢
  have hP : va_P D vwCl [(h0, .inr (1, [.ref bv, .int 0, w1, .int 9])), (bv, .inl (y 0, 16, .inl (va_cpy zs8 g (0 : Int32).toNatClampNeg (9 : Int32).toNatClampNeg (4 : Int32).toNatClampNeg)))] H := hP
  have hD : va_D A [(h0, .inr (1, [.ref bv, .int 0, w1, .int 9])), (bv, .inl (y 0, 16, .inl (va_cpy zs8 g (0 : Int32).toNatClampNeg (9 : Int32).toNatClampNeg (4 : Int32).toNatClampNeg)))] := hD
  refine lv_aload_n hx hb dJ5_append_cf1ce_33 rfl (lv_at hl 1 rfl) ?_
  refine lv_dup hx hb dJ5_append_cf1ce_34 rfl ?_
  refine va_get (D := D) (ci := 1) (v := .int 9) (C := RJ4) (T := TJ4) (N := 4) hx hb hts (by decide +kernel) hown hK hP 0 rfl rfl 3 (by decide) (hts (.fieldLink RJ5 79 "java/lang/AbstractStringBuilder" "count" "I") (by decide +kernel)) (fun _ h9 => h9) rfl dJ5_append_cf1ce_35 ?_
  refine lv_iload_n hx hb dJ5_append_cf1ce_38 rfl (lv_at hl 0 rfl) ?_
  refine lv_iadd hx hb dJ5_append_cf1ce_39 ?_
  refine lv_topi (fun v3 ev3 => ?_)
  have ev3 : v3 = 13 := ev3.trans (by decide +kernel)
  subst ev3
  refine va_put (D := D) (ci := 1) (v := .int 13) (ty := .int) (C := RJ4) (T := TJ4) (N := 4) hx hb hts (by decide +kernel) tyJ4 tyJ4_ok nmJ4 hown hK hP hD hS 0 rfl rfl 3 (by decide) (hts (.fieldLink RJ5 79 "java/lang/AbstractStringBuilder" "count" "I") (by decide +kernel)) (fun _ h9 => h9) rfl (by decide +kernel) rfl rfl (Nat.le_of_ble_eq_true rfl) dJ5_append_cf1ce_40 (fun H locs hP hD hS => ?_)
  have hP : va_P D vwCl [(h0, .inr (1, [.ref bv, .int 0, w1, .int 13])), (bv, .inl (y 0, 16, .inl (va_cpy zs8 g (0 : Int32).toNatClampNeg (9 : Int32).toNatClampNeg (4 : Int32).toNatClampNeg)))] H := hP
  have hD : va_D A [(h0, .inr (1, [.ref bv, .int 0, w1, .int 13])), (bv, .inl (y 0, 16, .inl (va_cpy zs8 g (0 : Int32).toNatClampNeg (9 : Int32).toNatClampNeg (4 : Int32).toNatClampNeg)))] := hD
  refine lv_aload_n hx hb dJ5_append_cf1ce_43 rfl (lv_at hl 1 rfl) ?_
  have hP9 := hP.sub (ws' := [(h0, .inr (1, [.ref bv, .int 0, w1, .int 13])), (bv, .inl (y 0, 16, .inl (va_cpy zs8 g (0 : Int32).toNatClampNeg (9 : Int32).toNatClampNeg (4 : Int32).toNatClampNeg)))]) [0, 1] rfl
  have hD9 := hD.sub (ws' := [(h0, .inr (1, [.ref bv, .int 0, w1, .int 13])), (bv, .inl (y 0, 16, .inl (va_cpy zs8 g (0 : Int32).toNatClampNeg (9 : Int32).toNatClampNeg (4 : Int32).toNatClampNeg)))]) [0, 1] (by decide) rfl
  refine W.widen (k := 0) (n := 0) (Nat.le_of_ble_eq_true rfl) (Nat.le_of_ble_eq_true rfl) ?_
  exact W.aret (v := .ref h0) hx hb hr (Or.inl ⟨_, rfl⟩) (Or.inr ⟨_, rfl⟩) (fun t ht hW => ⟨⟨(some h0), (), rfl, rfl, by rw [ht]; exact hP9, hD9⟩, hS.F ht⟩) hS.2.2 dJ5_append_cf1ce_44
def wz_c_SBapp_8_9_16 : List Cond := .code yJ4_append_15ec4 cJ4_append_15ec4 2 (some (.object "java/lang/StringBuilder")) :: ([.methodLink RJ4 29 yJ5_append_cf1ce, .sameMethod RJ5 RJ5 "append" "(Ljava/lang/String;)Ljava/lang/AbstractStringBuilder;", .superclass RJ4 RJ5, .instanceMethod yJ5_append_cf1ce, .initialized RJ5] ++ (wz_c_ASBapp_8_9_16 ++ ([])))
set_option maxRecDepth 100000 in
theorem gz_c_SBapp_8_9_16_c_ASBapp_8_9_16 : GoodIn wz_c_SBapp_8_9_16 wz_c_ASBapp_8_9_16 := goodIn_sub (fun w h => List.mem_cons_of_mem _ (List.mem_append_right _ (List.mem_append_left _ h))) (by decide +kernel)
set_option maxRecDepth 100000 in
theorem gv_c_SBapp_8_9_16_c_ASBapp_8_9_16_29 : GoodIn wz_c_SBapp_8_9_16 (va_wsSU RJ4 29 yJ5_append_cf1ce wz_c_ASBapp_8_9_16) := goodIn_app (goodIn_of _ (by decide +kernel)) gz_c_SBapp_8_9_16_c_ASBapp_8_9_16
set_option maxHeartbeats 4000000 in
set_option maxRecDepth 100000 in
theorem c_SBapp_8_9_16 (l : Launch) (D : va_G) (y : Nat → ClassId) (sz : Nat) (h0 : Nat) (bv : Nat) (w1 : Value) (sx : Nat) (tx : Nat) (g : Nat → Int32) : Met l yJ4_append_15ec4 wz_c_SBapp_8_9_16 ({ frames := 4, cells := 0, slots := 0, locals := 127 }) (va_Pc [.ref h0, .ref sx] (zB D y [(h0, .inr (1, [.ref bv, .int 0, w1, .int 9])), (bv, .inl (y 0, 16, .inl g))] sz [] [("java/lang/String", "COMPACT_STRINGS", "Z", .int 1)] [] [.inr (.inl (sx, tx, 4, zs8))])) (va_Qq (fun (r : Option Nat) (_ : Unit) => r = some h0) (fun _ t => va_P D vwCl [(h0, .inr (1, [.ref bv, .int 0, w1, .int 13])), (bv, .inl (y 0, 16, .inl (va_cpy zs8 g (0 : Int32).toNatClampNeg (9 : Int32).toNatClampNeg (4 : Int32).toNatClampNeg)))] t.heap ∧ va_D (va_A [(h0, .inr (1, [.ref bv, .int 0, w1, .int 9])), (bv, .inl (y 0, 16, .inl g))] sz) [(h0, .inr (1, [.ref bv, .int 0, w1, .int 13])), (bv, .inl (y 0, 16, .inl (va_cpy zs8 g (0 : Int32).toNatClampNeg (9 : Int32).toNatClampNeg (4 : Int32).toNatClampNeg)))]) (va_A [(h0, .inr (1, [.ref bv, .int 0, w1, .int 9])), (bv, .inl (y 0, 16, .inl g))] sz)) 0 0 (va_A [(h0, .inr (1, [.ref bv, .int 0, w1, .int 9])), (bv, .inl (y 0, 16, .inl g))] sz) := by
  refine Met.ofW (cc := cJ4_append_15ec4) (maxL := 2) (ret := (some (.object "java/lang/StringBuilder"))) (by decide) rfl ?_
  intro p e s m args below meth c s₁ B hml hv
  obtain ⟨rfl, hsz, hP, hK, hD0, hN, hE, hO, hT, hG⟩ := hv
  have hx := B.exec
  have hb := B.bytes
  have hr := B.returns
  have hts := atoms_spec (ws := wz_c_SBapp_8_9_16) B.pre
  have hown : s.vm.findClass RJ4 = some m.cls := findClass_of_methodNamed B.named
  have hlocks := B.notSynchronized
  subst hsz
  have hD := hD0.self (sz := s.heap.size)
  generalize hAe : va_A [(h0, .inr (1, [.ref bv, .int 0, w1, .int 9])), (bv, .inl (y 0, 16, .inl g))] s.heap.size = A at hD hE hT hG ⊢
  have hA : ∀ q : Nat, s.heap.size ≤ q → A q := fun q h => by rw [← hAe]; exact Or.inr h
  have hS : va_S A s.heap s.heap [] := va_S.rf
  have hl := lv_entry ([.ref h0, .ref sx]) (n := 2) (Nat.le_of_ble_eq_true rfl)
  rw [lg_entry_eq]
  generalize (lg_sl ([.ref h0, .ref sx]) ++ List.replicate (2 - (lg_sl ([.ref h0, .ref sx])).length) Slot.unset).toArray = ls at hl ⊢
  have hl : lv_has ls 2 [(0, .ref h0), (1, .ref sx)] := hl
  refine lv_aload_n hx hb dJ4_append_15ec4_0 rfl (lv_at hl 0 rfl) ?_
  refine lv_aload_n hx hb dJ4_append_15ec4_1 rfl (lv_at hl 1 rfl) ?_
  have hPc := hP.sub (ws' := [(h0, .inr (1, [.ref bv, .int 0, w1, .int 9])), (bv, .inl (y 0, 16, .inl g))]) [0, 1] rfl
  have hDc := hD.sub (ws' := [(h0, .inr (1, [.ref bv, .int 0, w1, .int 9])), (bv, .inl (y 0, 16, .inl g))]) [0, 1] (by decide) rfl
  have hFc := va_free (wc := [(h0, .inr (1, [.ref bv, .int 0, w1, .int 9])), (bv, .inl (y 0, 16, .inl g))]) hD hS hA [0, 1] rfl
  refine va_callq (va_runSU (hK.1 1 _ rfl).2 (As := [.ref sx]) (rest := []) ⟨hx, hb, hml, hown, hts⟩ (c_ASBapp_8_9_16 l D y s.heap.size h0 bv w1 sx tx g) (va_cwSU 1 hts gv_c_SBapp_8_9_16_c_ASBapp_8_9_16_29 rfl rfl rfl (by decide +kernel) ⟨(Nat.le_of_ble_eq_true rfl), (Nat.le_of_ble_eq_true rfl)⟩) (zB.preV hPc hDc hK hN hE hO hT hG hS hFc (fun _ h => nomatch h) (List.forall_mem_cons.mpr ⟨List.mem_of_getElem? (i := 0) rfl, (fun _ h => nomatch h)⟩) (fun _ h => nomatch h) (List.forall_mem_cons.mpr ⟨List.mem_of_getElem? (i := 0) rfl, (fun _ h => nomatch h)⟩) (va_recv hK hPc (ci := 1) (q0 := 0) rfl rfl)) rfl rfl hl.1 rfl (lv_room (Nat.le_of_ble_eq_true rfl)) dJ4_append_15ec4_2 ⟨(Nat.le_of_ble_eq_true rfl), (Nat.le_of_ble_eq_true rfl)⟩) hS (fun q _ h => hFc q h) hFc (fun r1 u t H1 locs ht hvm hw hB hz1 hk1 hS => ?_)
  obtain ⟨hP1, hD1⟩ := hB
  rw [ht] at hP1
  obtain ⟨hP, hD⟩ := va_join (wr := []) (w1 := [(h0, .inr (1, [.ref bv, .int 0, w1, .int 13])), (bv, .inl (y 0, 16, .inl (va_cpy zs8 g (0 : Int32).toNatClampNeg (9 : Int32).toNatClampNeg (4 : Int32).toNatClampNeg)))]) hP hD [0, 1] [] rfl rfl (by decide) (by decide) hk1 hFc hP1 hD1
  generalize H1 = H at hP hS ⊢
  have hP : va_P D vwCl [(h0, .inr (1, [.ref bv, .int 0, w1, .int 13])), (bv, .inl (y 0, 16, .inl (va_cpy zs8 g (0 : Int32).toNatClampNeg (9 : Int32).toNatClampNeg (4 : Int32).toNatClampNeg)))] H := hP
  have hD : va_D A [(h0, .inr (1, [.ref bv, .int 0, w1, .int 13])), (bv, .inl (y 0, 16, .inl (va_cpy zs8 g (0 : Int32).toNatClampNeg (9 : Int32).toNatClampNeg (4 : Int32).toNatClampNeg)))] := hD
  have hw : r1 = some h0 := hw
  subst hw
  refine W.eq (g2 := F0 m 5 ls [.ref h0]) rfl ?_
  refine lv_pop hx hb dJ4_append_15ec4_5 rfl ?_
  refine lv_aload_n hx hb dJ4_append_15ec4_6 rfl (lv_at hl 0 rfl) ?_
  have hP9 := hP.sub (ws' := [(h0, .inr (1, [.ref bv, .int 0, w1, .int 13])), (bv, .inl (y 0, 16, .inl (va_cpy zs8 g (0 : Int32).toNatClampNeg (9 : Int32).toNatClampNeg (4 : Int32).toNatClampNeg)))]) [0, 1] rfl
  have hD9 := hD.sub (ws' := [(h0, .inr (1, [.ref bv, .int 0, w1, .int 13])), (bv, .inl (y 0, 16, .inl (va_cpy zs8 g (0 : Int32).toNatClampNeg (9 : Int32).toNatClampNeg (4 : Int32).toNatClampNeg)))]) [0, 1] (by decide) rfl
  refine W.widen (k := 0) (n := 0) (Nat.le_of_ble_eq_true rfl) (Nat.le_of_ble_eq_true rfl) ?_
  exact W.aret (v := .ref h0) hx hb hr (Or.inl ⟨_, rfl⟩) (Or.inr ⟨_, rfl⟩) (fun t ht hW => ⟨⟨(some h0), (), rfl, rfl, by rw [ht]; exact hP9, hD9⟩, hS.F ht⟩) hS.2.2 dJ4_append_15ec4_7
def zk14 : Nat → Int32 := va_cpy zs8 zk5 (0 : Int32).toNatClampNeg (9 : Int32).toNatClampNeg (4 : Int32).toNatClampNeg
def wz_c_newLen_18 : List Cond := .code yJ8_newLength_cabcc cJ8_newLength_cabcc 4 (some .int) :: ([.methodLink RJ8 194 Lib.Math.max.name, .static Lib.Math.max.name, .initialized "java/lang/Math", .code Lib.Math.max.name Lib.Math.max.code 2 (some .int), .constant RJ8 200 2147483639] ++ ([]))
set_option maxHeartbeats 4000000 in
set_option maxRecDepth 100000 in
theorem c_newLen_18 (l : Launch) (D : va_G) (y : Nat → ClassId) (sz : Nat)  : Met l yJ8_newLength_cabcc wz_c_newLen_18 ({ frames := 1, cells := 0, slots := 0, locals := 14 }) (va_Pc [.int 16, .int 2, .int 18] (zB D y [] sz [] [] [] [])) (va_Qi (fun (r : Int32) (_ : Unit) => r = 34) (fun _ t => va_P D vwCl [] t.heap ∧ va_D (va_A [] sz) []) (va_A [] sz)) 0 0 (va_A [] sz) := by
  refine Met.ofW (cc := cJ8_newLength_cabcc) (maxL := 4) (ret := (some .int)) (by decide) rfl ?_
  intro p e s m args below meth c s₁ B hml hv
  obtain ⟨rfl, hsz, hP, hK, hD0, hN, hE, hO, hT, hG⟩ := hv
  have hx := B.exec
  have hb := B.bytes
  have hr := B.returns
  have hts := atoms_spec (ws := wz_c_newLen_18) B.pre
  have hown : s.vm.findClass RJ8 = some m.cls := findClass_of_methodNamed B.named
  have hlocks := B.notSynchronized
  subst hsz
  have hD := hD0.self (sz := s.heap.size)
  generalize hAe : va_A [] s.heap.size = A at hD hE hT hG ⊢
  have hA : ∀ q : Nat, s.heap.size ≤ q → A q := fun q h => by rw [← hAe]; exact Or.inr h
  have hS : va_S A s.heap s.heap [] := va_S.rf
  have hl := lv_entry ([.int 16, .int 2, .int 18]) (n := 4) (Nat.le_of_ble_eq_true rfl)
  rw [lg_entry_eq]
  generalize (lg_sl ([.int 16, .int 2, .int 18]) ++ List.replicate (4 - (lg_sl ([.int 16, .int 2, .int 18])).length) Slot.unset).toArray = ls at hl ⊢
  have hl : lv_has ls 4 [(0, .int 16), (1, .int 2), (2, .int 18)] := hl
  refine lv_iload_n hx hb dJ8_newLength_cabcc_0 rfl (lv_at hl 0 rfl) ?_
  refine lv_iload_n hx hb dJ8_newLength_cabcc_1 rfl (lv_at hl 1 rfl) ?_
  refine lv_iload_n hx hb dJ8_newLength_cabcc_2 rfl (lv_at hl 2 rfl) ?_
  refine va_mmax hx hb (hml.trans hl.1.symm) hown (hts (.methodLink RJ8 194 Lib.Math.max.name) (by decide +kernel)) (hts (.static Lib.Math.max.name) (by decide +kernel)) (hts (.initialized "java/lang/Math") (by decide +kernel)) (hts (.code Lib.Math.max.name Lib.Math.max.code 2 (some .int)) (by decide +kernel)) (Nat.le_of_ble_eq_true rfl) (Nat.le_of_ble_eq_true rfl) (Nat.le_of_ble_eq_true rfl) (Nat.le_of_ble_eq_true rfl) dJ8_newLength_cabcc_3 ?_
  refine lv_topi (fun v1 ev1 => ?_)
  have ev1 : v1 = 18 := ev1.trans (by decide +kernel)
  subst ev1
  refine lv_iadd hx hb dJ8_newLength_cabcc_6 ?_
  refine lv_topi (fun v2 ev2 => ?_)
  have ev2 : v2 = 34 := ev2.trans (by decide +kernel)
  subst ev2
  refine lv_istore_n (lv' := [(3, .int 34), (0, .int 16), (1, .int 2), (2, .int 18)]) hx hb dJ8_newLength_cabcc_7 rfl hl (by decide) rfl (fun ls hl => ?_)
  refine lv_iconst (v := 0) hx hb dJ8_newLength_cabcc_8 (by decide) ?_
  refine lv_iload_n hx hb dJ8_newLength_cabcc_9 rfl (lv_at hl 0 rfl) ?_
  refine lv_icmp_ge (tgt := 21) hx hb dJ8_newLength_cabcc_10 (by decide) (fun c9 => absurd c9 (by decide)) (fun _ => ?_)
  refine lv_iload_n hx hb dJ8_newLength_cabcc_13 rfl (lv_at hl 0 rfl) ?_
  refine lv_ldc (v := 2147483639) hx hb hown (hts (.constant RJ8 200 2147483639) (by decide +kernel)) dJ8_newLength_cabcc_14 ?_
  refine lv_icmp_gt (tgt := 21) hx hb dJ8_newLength_cabcc_16 (by decide) (fun c9 => absurd c9 (by decide)) (fun _ => ?_)
  refine lv_iload_n hx hb dJ8_newLength_cabcc_19 rfl (lv_at hl 0 rfl) ?_
  have hP9 := hP.sub (ws' := []) [] rfl
  have hD9 := hD.sub (ws' := []) [] (by decide) rfl
  refine W.widen (k := 0) (n := 0) (Nat.le_of_ble_eq_true rfl) (Nat.le_of_ble_eq_true rfl) ?_
  exact W.iret (v := 34) hx hb hr (fun t ht hW => ⟨⟨34, (), rfl, rfl, by rw [ht]; exact hP9, hD9⟩, hS.F ht⟩) hS.2.2 dJ8_newLength_cabcc_20
def wz_c_newCap_18 : List Cond := .code yJ5_newCapacity_0f7a4 cJ5_newCapacity_0f7a4 6 (some .int) :: ([.fieldLink RJ5 15 "java/lang/AbstractStringBuilder" "value" "[B", .fieldLink RJ5 22 "java/lang/AbstractStringBuilder" "coder" "B", .methodLink RJ5 114 yJ8_newLength_cabcc, .static yJ8_newLength_cabcc, .initialized RJ8, .constant RJ5 39 2147483647] ++ (wsJ40 ++ (wz_c_newLen_18 ++ ([]))))
set_option maxRecDepth 100000 in
theorem gz_c_newCap_18_c_newLen_18 : GoodIn wz_c_newCap_18 wz_c_newLen_18 := goodIn_sub (fun w h => List.mem_cons_of_mem _ (List.mem_append_right _ (List.mem_append_right _ (List.mem_append_left _ h)))) (by decide +kernel)
set_option maxRecDepth 100000 in
theorem gv_c_newCap_18_c_newLen_18_114 : GoodIn wz_c_newCap_18 (va_wsS RJ5 114 yJ8_newLength_cabcc wz_c_newLen_18) := goodIn_app (goodIn_of _ (by decide +kernel)) gz_c_newCap_18_c_newLen_18
set_option maxHeartbeats 4000000 in
set_option maxRecDepth 100000 in
theorem c_newCap_18 (l : Launch) (D : va_G) (y : Nat → ClassId) (sz : Nat) (h0 : Nat) (bv : Nat) (w1 : Value) (w2 : Value) (g : Nat → Int32) : Met l yJ5_newCapacity_0f7a4 wz_c_newCap_18 ({ frames := 2, cells := 0, slots := 0, locals := 37 }) (va_Pc [.ref h0, .int 18] (zB D y [(h0, .inr (1, [.ref bv, .int 0, w1, w2])), (bv, .inl (y 0, 16, .inl g))] sz [] [] [] [])) (va_Qi (fun (r : Int32) (_ : Unit) => r = 34) (fun _ t => va_P D vwCl [(h0, .inr (1, [.ref bv, .int 0, w1, w2])), (bv, .inl (y 0, 16, .inl g))] t.heap ∧ va_D (va_A [(h0, .inr (1, [.ref bv, .int 0, w1, w2])), (bv, .inl (y 0, 16, .inl g))] sz) [(h0, .inr (1, [.ref bv, .int 0, w1, w2])), (bv, .inl (y 0, 16, .inl g))]) (va_A [(h0, .inr (1, [.ref bv, .int 0, w1, w2])), (bv, .inl (y 0, 16, .inl g))] sz)) 0 0 (va_A [(h0, .inr (1, [.ref bv, .int 0, w1, w2])), (bv, .inl (y 0, 16, .inl g))] sz) := by
  refine Met.ofW (cc := cJ5_newCapacity_0f7a4) (maxL := 6) (ret := (some .int)) (by decide) rfl ?_
  intro p e s m args below meth c s₁ B hml hv
  obtain ⟨rfl, hsz, hP, hK, hD0, hN, hE, hO, hT, hG⟩ := hv
  have hx := B.exec
  have hb := B.bytes
  have hr := B.returns
  have hts := atoms_spec (ws := wz_c_newCap_18) B.pre
  have hown : s.vm.findClass RJ5 = some m.cls := findClass_of_methodNamed B.named
  have hlocks := B.notSynchronized
  subst hsz
  have hD := hD0.self (sz := s.heap.size)
  generalize hAe : va_A [(h0, .inr (1, [.ref bv, .int 0, w1, w2])), (bv, .inl (y 0, 16, .inl g))] s.heap.size = A at hD hE hT hG ⊢
  have hA : ∀ q : Nat, s.heap.size ≤ q → A q := fun q h => by rw [← hAe]; exact Or.inr h
  have hS : va_S A s.heap s.heap [] := va_S.rf
  have hl := lv_entry ([.ref h0, .int 18]) (n := 6) (Nat.le_of_ble_eq_true rfl)
  rw [lg_entry_eq]
  generalize (lg_sl ([.ref h0, .int 18]) ++ List.replicate (6 - (lg_sl ([.ref h0, .int 18])).length) Slot.unset).toArray = ls at hl ⊢
  have hl : lv_has ls 6 [(0, .ref h0), (1, .int 18)] := hl
  refine lv_aload_n hx hb dJ5_newCapacity_0f7a4_0 rfl (lv_at hl 0 rfl) ?_
  refine va_get (D := D) (ci := 1) (v := .ref bv) (C := RJ4) (T := TJ4) (N := 4) hx hb hts (by decide +kernel) hown hK hP 0 rfl rfl 0 (by decide) (hts (.fieldLink RJ5 15 "java/lang/AbstractStringBuilder" "value" "[B") (by decide +kernel)) (fun _ h9 => h9) rfl dJ5_newCapacity_0f7a4_1 ?_
  refine va_alen (v := 16) hx hb hK hP 1 0 rfl rfl (show Int32.ofNat 16 = (16 : Int32) from by decide) dJ5_newCapacity_0f7a4_4 ?_
  refine lv_istore_n (lv' := [(2, .int 16), (0, .ref h0), (1, .int 18)]) hx hb dJ5_newCapacity_0f7a4_5 rfl hl (by decide) rfl (fun ls hl => ?_)
  refine lv_iload_n hx hb dJ5_newCapacity_0f7a4_6 rfl (lv_at hl 2 rfl) ?_
  refine lv_aload_n hx hb dJ5_newCapacity_0f7a4_7 rfl (lv_at hl 1 rfl) ?_
  refine va_get (D := D) (ci := 1) (v := .int 0) (C := RJ4) (T := TJ4) (N := 4) hx hb hts (by decide +kernel) hown hK hP 0 rfl rfl 1 (by decide) (hts (.fieldLink RJ5 22 "java/lang/AbstractStringBuilder" "coder" "B") (by decide +kernel)) (fun _ h9 => h9) rfl dJ5_newCapacity_0f7a4_8 ?_
  refine lv_ishl hx hb dJ5_newCapacity_0f7a4_11 ?_
  refine lv_topi (fun v1 ev1 => ?_)
  have ev1 : v1 = 18 := ev1.trans (by decide +kernel)
  subst ev1
  refine lv_istore_n (lv' := [(3, .int 18), (2, .int 16), (0, .ref h0), (1, .int 18)]) hx hb dJ5_newCapacity_0f7a4_12 rfl hl (by decide) rfl (fun ls hl => ?_)
  refine lv_iload_n hx hb dJ5_newCapacity_0f7a4_13 rfl (lv_at hl 0 rfl) ?_
  refine lv_iload_n hx hb dJ5_newCapacity_0f7a4_14 rfl (lv_at hl 1 rfl) ?_
  refine lv_isub hx hb dJ5_newCapacity_0f7a4_15 ?_
  refine lv_topi (fun v2 ev2 => ?_)
  have ev2 : v2 = 2 := ev2.trans (by decide +kernel)
  subst ev2
  refine lv_istore (lv' := [(4, .int 2), (3, .int 18), (2, .int 16), (0, .ref h0), (1, .int 18)]) hx hb dJ5_newCapacity_0f7a4_16 hl (by decide) rfl (fun ls hl => ?_)
  refine lv_iload_n hx hb dJ5_newCapacity_0f7a4_18 rfl (lv_at hl 2 rfl) ?_
  refine lv_iload hx hb dJ5_newCapacity_0f7a4_19 (lv_at hl 0 rfl) ?_
  refine lv_iload_n hx hb dJ5_newCapacity_0f7a4_21 rfl (lv_at hl 2 rfl) ?_
  refine lv_iconst (v := 2) hx hb dJ5_newCapacity_0f7a4_22 (by decide) ?_
  refine lv_aload_n hx hb dJ5_newCapacity_0f7a4_23 rfl (lv_at hl 3 rfl) ?_
  refine va_get (D := D) (ci := 1) (v := .int 0) (C := RJ4) (T := TJ4) (N := 4) hx hb hts (by decide +kernel) hown hK hP 0 rfl rfl 1 (by decide) (hts (.fieldLink RJ5 22 "java/lang/AbstractStringBuilder" "coder" "B") (by decide +kernel)) (fun _ h9 => h9) rfl dJ5_newCapacity_0f7a4_24 ?_
  refine lv_ishl hx hb dJ5_newCapacity_0f7a4_27 ?_
  refine lv_topi (fun v3 ev3 => ?_)
  have ev3 : v3 = 2 := ev3.trans (by decide +kernel)
  subst ev3
  refine lv_iadd hx hb dJ5_newCapacity_0f7a4_28 ?_
  refine lv_topi (fun v4 ev4 => ?_)
  have ev4 : v4 = 18 := ev4.trans (by decide +kernel)
  subst ev4
  have hPc := hP.sub (ws' := []) [] rfl
  have hDc := hD.sub (ws' := []) [] (by decide) rfl
  have hFc := va_free (wc := []) hD hS hA [] rfl
  refine va_calli (va_runS (As := [.int 16, .int 2, .int 18]) (rest := []) ⟨hx, hb, hml, hown, hts⟩ (c_newLen_18 l D y s.heap.size ) (va_cwS 3 hts gv_c_newCap_18_c_newLen_18_114 rfl rfl rfl (by decide +kernel) ⟨(Nat.le_of_ble_eq_true rfl), (Nat.le_of_ble_eq_true rfl)⟩) (zB.preS hPc hDc hK hN hE hO hT hG hS hFc (fun _ h => nomatch h) (fun _ h => nomatch h) (fun _ h => nomatch h) (fun _ h => nomatch h)) rfl rfl hl.1 rfl (lv_room (Nat.le_of_ble_eq_true rfl)) dJ5_newCapacity_0f7a4_29 ⟨(Nat.le_of_ble_eq_true rfl), (Nat.le_of_ble_eq_true rfl)⟩) hS (fun q _ h => hFc q h) hFc (fun r5 u t H1 locs ht hvm hw hB hz1 hk1 hS => ?_)
  obtain ⟨hP1, hD1⟩ := hB
  rw [ht] at hP1
  obtain ⟨hP, hD⟩ := va_join (wr := [(h0, .inr (1, [.ref bv, .int 0, w1, w2])), (bv, .inl (y 0, 16, .inl g))]) (w1 := []) hP hD [] [0, 1] rfl rfl (by decide) (by decide) hk1 hFc hP1 hD1
  generalize H1 = H at hP hS ⊢
  have hP : va_P D vwCl [(h0, .inr (1, [.ref bv, .int 0, w1, w2])), (bv, .inl (y 0, 16, .inl g))] H := hP
  have hD : va_D A [(h0, .inr (1, [.ref bv, .int 0, w1, w2])), (bv, .inl (y 0, 16, .inl g))] := hD
  have hw : r5 = 34 := hw
  subst hw
  refine lv_istore (lv' := [(5, .int 34), (4, .int 2), (3, .int 18), (2, .int 16), (0, .ref h0), (1, .int 18)]) hx hb dJ5_newCapacity_0f7a4_32 hl (by decide) rfl (fun ls hl => ?_)
  refine lv_iload hx hb dJ5_newCapacity_0f7a4_34 (lv_at hl 0 rfl) ?_
  refine lv_ldc (v := 2147483647) hx hb hown (hts (.constant RJ5 39 2147483647) (by decide +kernel)) dJ5_newCapacity_0f7a4_36 ?_
  refine lv_icmp_ne (tgt := 51) hx hb dJ5_newCapacity_0f7a4_38 (by decide) (fun _ => ?_) (fun c9 => absurd c9 (by decide))
  refine lv_iload hx hb dJ5_newCapacity_0f7a4_51 (lv_at hl 0 rfl) ?_
  refine lv_aload_n hx hb dJ5_newCapacity_0f7a4_53 rfl (lv_at hl 4 rfl) ?_
  refine va_get (D := D) (ci := 1) (v := .int 0) (C := RJ4) (T := TJ4) (N := 4) hx hb hts (by decide +kernel) hown hK hP 0 rfl rfl 1 (by decide) (hts (.fieldLink RJ5 22 "java/lang/AbstractStringBuilder" "coder" "B") (by decide +kernel)) (fun _ h9 => h9) rfl dJ5_newCapacity_0f7a4_54 ?_
  refine lv_ishr hx hb dJ5_newCapacity_0f7a4_57 ?_
  refine lv_topi (fun v6 ev6 => ?_)
  have ev6 : v6 = 34 := ev6.trans (by decide +kernel)
  subst ev6
  have hP9 := hP.sub (ws' := [(h0, .inr (1, [.ref bv, .int 0, w1, w2])), (bv, .inl (y 0, 16, .inl g))]) [0, 1] rfl
  have hD9 := hD.sub (ws' := [(h0, .inr (1, [.ref bv, .int 0, w1, w2])), (bv, .inl (y 0, 16, .inl g))]) [0, 1] (by decide) rfl
  refine W.widen (k := 0) (n := 0) (Nat.le_of_ble_eq_true rfl) (Nat.le_of_ble_eq_true rfl) ?_
  exact W.iret (v := 34) hx hb hr (fun t ht hW => ⟨⟨34, (), rfl, rfl, by rw [ht]; exact hP9, hD9⟩, hS.F ht⟩) hS.2.2 dJ5_newCapacity_0f7a4_58
def zk15 : Nat → Int32 := va_cpy zk14 (fun _ => 0) (0 : Int32).toNatClampNeg (0 : Int32).toNatClampNeg (16 : Int32).toNatClampNeg
def wz_c_copyOf_e1 : List Cond := .code yJ7_copyOf_9075b cJ7_copyOf_9075b 3 (some (.array .byte)) :: ([.arrayClass .byte, .methodLink RJ7 304 Lib.Math.min.name, .static Lib.Math.min.name, .initialized "java/lang/Math", .code Lib.Math.min.name Lib.Math.min.code 2 (some .int), .methodLink RJ7 150 arraycopyName, .native arraycopyName, .static arraycopyName, .initialized "java/lang/System"] ++ ([]))
set_option maxHeartbeats 4000000 in
set_option maxRecDepth 100000 in
theorem c_copyOf_e1 (l : Launch) (D : va_G) (y : Nat → ClassId) (sz : Nat) (bv : Nat) : Met l yJ7_copyOf_9075b wz_c_copyOf_e1 ({ frames := 1, cells := 1, slots := 34, locals := 60 }) (va_Pc [.ref bv, .int 34] (zB D y [(bv, .inl (y 0, 16, .inl zk14))] sz [] [] [] [])) (va_Qr (fun _ : Unit => True) (fun _ q1 t => va_P D vwCl [(bv, .inl (y 0, 16, .inl zk14)), (q1, .inl (y 0, 34, .inl zk15))] t.heap ∧ va_D (va_A [(bv, .inl (y 0, 16, .inl zk14))] sz) [(bv, .inl (y 0, 16, .inl zk14)), (q1, .inl (y 0, 34, .inl zk15))]) (va_A [(bv, .inl (y 0, 16, .inl zk14))] sz)) 1 34 (va_A [(bv, .inl (y 0, 16, .inl zk14))] sz) := by
  refine Met.ofW (cc := cJ7_copyOf_9075b) (maxL := 3) (ret := (some (.array .byte))) (by decide) rfl ?_
  intro p e s m args below meth c s₁ B hml hv
  obtain ⟨rfl, hsz, hP, hK, hD0, hN, hE, hO, hT, hG⟩ := hv
  have hx := B.exec
  have hb := B.bytes
  have hr := B.returns
  have hts := atoms_spec (ws := wz_c_copyOf_e1) B.pre
  have hown : s.vm.findClass RJ7 = some m.cls := findClass_of_methodNamed B.named
  have hlocks := B.notSynchronized
  subst hsz
  have hD := hD0.self (sz := s.heap.size)
  generalize hAe : va_A [(bv, .inl (y 0, 16, .inl zk14))] s.heap.size = A at hD hE hT hG ⊢
  have hA : ∀ q : Nat, s.heap.size ≤ q → A q := fun q h => by rw [← hAe]; exact Or.inr h
  have hS : va_S A s.heap s.heap [] := va_S.rf
  have hl := lv_entry ([.ref bv, .int 34]) (n := 3) (Nat.le_of_ble_eq_true rfl)
  rw [lg_entry_eq]
  generalize (lg_sl ([.ref bv, .int 34]) ++ List.replicate (3 - (lg_sl ([.ref bv, .int 34])).length) Slot.unset).toArray = ls at hl ⊢
  have hl : lv_has ls 3 [(0, .ref bv), (1, .int 34)] := hl
  refine lv_iload_n hx hb dJ7_copyOf_9075b_0 rfl (lv_at hl 1 rfl) ?_
  refine lv_aload_n hx hb dJ7_copyOf_9075b_1 rfl (lv_at hl 0 rfl) ?_
  refine va_alen (v := 16) hx hb hK hP 0 0 rfl rfl (show Int32.ofNat 16 = (16 : Int32) from by decide) dJ7_copyOf_9075b_2 ?_
  refine lv_icmp_ne (tgt := 14) hx hb dJ7_copyOf_9075b_3 (by decide) (fun _ => ?_) (fun c9 => absurd c9 (by decide))
  refine lv_iload_n hx hb dJ7_copyOf_9075b_14 rfl (lv_at hl 1 rfl) ?_
  refine zz_newa (atype := .byte) (n := 34) (N' := 34) (a0 := (34, .inl (fun _ => 0))) (ty := .byte) hx hb (hts (.arrayClass .byte) (by decide +kernel)) rfl hK 0 rfl hP hD hS hA (zz_aB 34) (by decide +kernel) (by decide +kernel) (by decide +kernel) (Nat.le_of_ble_eq_true rfl) (Nat.le_of_ble_eq_true rfl) dJ7_copyOf_9075b_15 (fun q1 H hP hD hS => ?_)
  have hP : va_P D vwCl [(bv, .inl (y 0, 16, .inl zk14)), (q1, .inl (y 0, 34, .inl (fun _ => 0)))] H := hP
  have hD : va_D A [(bv, .inl (y 0, 16, .inl zk14)), (q1, .inl (y 0, 34, .inl (fun _ => 0)))] := hD
  refine lv_astore_n (lv' := [(2, .ref q1), (0, .ref bv), (1, .int 34)]) hx hb dJ7_copyOf_9075b_17 rfl hl (by decide) rfl (fun ls hl => ?_)
  refine lv_aload_n hx hb dJ7_copyOf_9075b_18 rfl (lv_at hl 1 rfl) ?_
  refine lv_iconst (v := 0) hx hb dJ7_copyOf_9075b_19 (by decide) ?_
  refine lv_aload_n hx hb dJ7_copyOf_9075b_20 rfl (lv_at hl 0 rfl) ?_
  refine lv_iconst (v := 0) hx hb dJ7_copyOf_9075b_21 (by decide) ?_
  refine lv_aload_n hx hb dJ7_copyOf_9075b_22 rfl (lv_at hl 1 rfl) ?_
  refine va_alen (v := 16) hx hb hK hP 0 0 rfl rfl (show Int32.ofNat 16 = (16 : Int32) from by decide) dJ7_copyOf_9075b_23 ?_
  refine lv_iload_n hx hb dJ7_copyOf_9075b_24 rfl (lv_at hl 2 rfl) ?_
  refine va_mmin hx hb (hml.trans hl.1.symm) hown (hts (.methodLink RJ7 304 Lib.Math.min.name) (by decide +kernel)) (hts (.static Lib.Math.min.name) (by decide +kernel)) (hts (.initialized "java/lang/Math") (by decide +kernel)) (hts (.code Lib.Math.min.name Lib.Math.min.code 2 (some .int)) (by decide +kernel)) (Nat.le_of_ble_eq_true rfl) (Nat.le_of_ble_eq_true rfl) (Nat.le_of_ble_eq_true rfl) (Nat.le_of_ble_eq_true rfl) dJ7_copyOf_9075b_25 ?_
  refine lv_topi (fun v2 ev2 => ?_)
  have ev2 : v2 = 16 := ev2.trans (by decide +kernel)
  subst ev2
  refine va_copyi (ty := .byte) (sp := 0) (dp := 0) (n := 16) hx hb (hml.trans hl.1.symm) hown (hts (.methodLink RJ7 150 arraycopyName) (by decide +kernel)) (hts (.native arraycopyName) (by decide +kernel)) (hts (.static arraycopyName) (by decide +kernel)) (hts (.initialized "java/lang/System") (by decide +kernel)) hK hP hD hS 0 1 0 0 rfl rfl rfl rfl rfl (by decide +kernel) (by decide +kernel) (by decide +kernel) (by decide +kernel) (by decide +kernel) (by decide +kernel) (Nat.le_of_ble_eq_true rfl) (Nat.le_of_ble_eq_true rfl) dJ7_copyOf_9075b_28 (fun H locs hP hD hS => ?_)
  have hP : va_P D vwCl [(bv, .inl (y 0, 16, .inl zk14)), (q1, .inl (y 0, 34, .inl zk15))] H := hP
  have hD : va_D A [(bv, .inl (y 0, 16, .inl zk14)), (q1, .inl (y 0, 34, .inl zk15))] := hD
  refine lv_aload_n hx hb dJ7_copyOf_9075b_31 rfl (lv_at hl 0 rfl) ?_
  have hP9 := hP.sub (ws' := [(bv, .inl (y 0, 16, .inl zk14)), (q1, .inl (y 0, 34, .inl zk15))]) [0, 1] rfl
  have hD9 := hD.sub (ws' := [(bv, .inl (y 0, 16, .inl zk14)), (q1, .inl (y 0, 34, .inl zk15))]) [0, 1] (by decide) rfl
  refine W.widen (k := 1) (n := 34) (Nat.le_of_ble_eq_true rfl) (Nat.le_of_ble_eq_true rfl) ?_
  exact W.aret (v := .ref q1) hx hb hr (Or.inr ⟨_, rfl⟩) (Or.inr ⟨_, rfl⟩) (fun t ht hW => ⟨⟨(), q1, rfl, trivial, by rw [ht]; exact hP9, hD9⟩, hS.F ht⟩) hS.2.2 dJ7_copyOf_9075b_32
def wz_c_ens_e1 : List Cond := .code yJ5_ensureCapacityInternal_d00df cJ5_ensureCapacityInternal_d00df 3 none :: ([.fieldLink RJ5 15 "java/lang/AbstractStringBuilder" "value" "[B", .fieldLink RJ5 22 "java/lang/AbstractStringBuilder" "coder" "B", .methodLink RJ5 104 ⟨"java/lang/AbstractStringBuilder", "newCapacity", "(I)I"⟩, .sameMethod "java/lang/AbstractStringBuilder" "java/lang/AbstractStringBuilder" "newCapacity" "(I)I", .selects RJ4 ⟨"java/lang/AbstractStringBuilder", "newCapacity", "(I)I"⟩ yJ5_newCapacity_0f7a4, .instanceMethod yJ5_newCapacity_0f7a4, .initialized RJ5, .methodLink RJ5 108 yJ7_copyOf_9075b, .static yJ7_copyOf_9075b, .initialized RJ7] ++ (wsJ40 ++ (wz_c_newCap_18 ++ (wz_c_copyOf_e1 ++ ([])))))
set_option maxRecDepth 100000 in
theorem gz_c_ens_e1_c_newCap_18 : GoodIn wz_c_ens_e1 wz_c_newCap_18 := goodIn_sub (fun w h => List.mem_cons_of_mem _ (List.mem_append_right _ (List.mem_append_right _ (List.mem_append_left _ h)))) (by decide +kernel)
set_option maxRecDepth 100000 in
theorem gz_c_ens_e1_c_copyOf_e1 : GoodIn wz_c_ens_e1 wz_c_copyOf_e1 := goodIn_sub (fun w h => List.mem_cons_of_mem _ (List.mem_append_right _ (List.mem_append_right _ (List.mem_append_right _ (List.mem_append_left _ h))))) (by decide +kernel)
set_option maxRecDepth 100000 in
theorem gv_c_ens_e1_c_newCap_18_104 : GoodIn wz_c_ens_e1 (va_wsU RJ5 104 RJ4 "java/lang/AbstractStringBuilder" ⟨"java/lang/AbstractStringBuilder", "newCapacity", "(I)I"⟩ yJ5_newCapacity_0f7a4 wz_c_newCap_18) := goodIn_app (goodIn_of _ (by decide +kernel)) gz_c_ens_e1_c_newCap_18
set_option maxRecDepth 100000 in
theorem gv_c_ens_e1_c_copyOf_e1_108 : GoodIn wz_c_ens_e1 (va_wsS RJ5 108 yJ7_copyOf_9075b wz_c_copyOf_e1) := goodIn_app (goodIn_of _ (by decide +kernel)) gz_c_ens_e1_c_copyOf_e1
set_option maxHeartbeats 4000000 in
set_option maxRecDepth 100000 in
theorem c_ens_e1 (l : Launch) (D : va_G) (y : Nat → ClassId) (sz : Nat) (h0 : Nat) (bv : Nat) (w1 : Value) (w2 : Value) : Met l yJ5_ensureCapacityInternal_d00df wz_c_ens_e1 ({ frames := 3, cells := 1, slots := 34, locals := 82 }) (va_Pc [.ref h0, .int 18] (zB D y [(h0, .inr (1, [.ref bv, .int 0, w1, w2])), (bv, .inl (y 0, 16, .inl zk14))] sz [] [] [] [])) (va_Qv (fun _ : Unit => True) (fun _ t => ∃ r5 : Nat, va_P D vwCl [(h0, .inr (1, [.ref r5, .int 0, w1, w2])), (bv, .inl (y 0, 16, .inl zk14)), (r5, .inl (y 0, 34, .inl zk15))] t.heap ∧ va_D (va_A [(h0, .inr (1, [.ref bv, .int 0, w1, w2])), (bv, .inl (y 0, 16, .inl zk14))] sz) [(h0, .inr (1, [.ref r5, .int 0, w1, w2])), (bv, .inl (y 0, 16, .inl zk14)), (r5, .inl (y 0, 34, .inl zk15))]) (va_A [(h0, .inr (1, [.ref bv, .int 0, w1, w2])), (bv, .inl (y 0, 16, .inl zk14))] sz)) 1 34 (va_A [(h0, .inr (1, [.ref bv, .int 0, w1, w2])), (bv, .inl (y 0, 16, .inl zk14))] sz) := by
  refine Met.ofW (cc := cJ5_ensureCapacityInternal_d00df) (maxL := 3) (ret := none) (by decide) rfl ?_
  intro p e s m args below meth c s₁ B hml hv
  obtain ⟨rfl, hsz, hP, hK, hD0, hN, hE, hO, hT, hG⟩ := hv
  have hx := B.exec
  have hb := B.bytes
  have hr := B.returns
  have hts := atoms_spec (ws := wz_c_ens_e1) B.pre
  have hown : s.vm.findClass RJ5 = some m.cls := findClass_of_methodNamed B.named
  have hlocks := B.notSynchronized
  subst hsz
  have hD := hD0.self (sz := s.heap.size)
  generalize hAe : va_A [(h0, .inr (1, [.ref bv, .int 0, w1, w2])), (bv, .inl (y 0, 16, .inl zk14))] s.heap.size = A at hD hE hT hG ⊢
  have hA : ∀ q : Nat, s.heap.size ≤ q → A q := fun q h => by rw [← hAe]; exact Or.inr h
  have hS : va_S A s.heap s.heap [] := va_S.rf
  have hl := lv_entry ([.ref h0, .int 18]) (n := 3) (Nat.le_of_ble_eq_true rfl)
  rw [lg_entry_eq]
  generalize (lg_sl ([.ref h0, .int 18]) ++ List.replicate (3 - (lg_sl ([.ref h0, .int 18])).length) Slot.unset).toArray = ls at hl ⊢
  have hl : lv_has ls 3 [(0, .ref h0), (1, .int 18)] := hl
  refine lv_aload_n hx hb dJ5_ensureCapacityInternal_d00df_0 rfl (lv_at hl 0 rfl) ?_
  refine va_get (D := D) (ci := 1) (v := .ref bv) (C := RJ4) (T := TJ4) (N := 4) hx hb hts (by decide +kernel) hown hK hP 0 rfl rfl 0 (by decide) (hts (.fieldLink RJ5 15 "java/lang/AbstractStringBuilder" "value" "[B") (by decide +kernel)) (fun _ h9 => h9) rfl dJ5_ensureCapacityInternal_d00df_1 ?_
  refine va_alen (v := 16) hx hb hK hP 1 0 rfl rfl (show Int32.ofNat 16 = (16 : Int32) from by decide) dJ5_ensureCapacityInternal_d00df_4 ?_
  refine lv_aload_n hx hb dJ5_ensureCapacityInternal_d00df_5 rfl (lv_at hl 0 rfl) ?_
  refine va_get (D := D) (ci := 1) (v := .int 0) (C := RJ4) (T := TJ4) (N := 4) hx hb hts (by decide +kernel) hown hK hP 0 rfl rfl 1 (by decide) (hts (.fieldLink RJ5 22 "java/lang/AbstractStringBuilder" "coder" "B") (by decide +kernel)) (fun _ h9 => h9) rfl dJ5_ensureCapacityInternal_d00df_6 ?_
  refine lv_ishr hx hb dJ5_ensureCapacityInternal_d00df_9 ?_
  refine lv_topi (fun v1 ev1 => ?_)
  have ev1 : v1 = 16 := ev1.trans (by decide +kernel)
  subst ev1
  refine lv_istore_n (lv' := [(2, .int 16), (0, .ref h0), (1, .int 18)]) hx hb dJ5_ensureCapacityInternal_d00df_10 rfl hl (by decide) rfl (fun ls hl => ?_)
  refine lv_iload_n hx hb dJ5_ensureCapacityInternal_d00df_11 rfl (lv_at hl 2 rfl) ?_
  refine lv_iload_n hx hb dJ5_ensureCapacityInternal_d00df_12 rfl (lv_at hl 0 rfl) ?_
  refine lv_isub hx hb dJ5_ensureCapacityInternal_d00df_13 ?_
  refine lv_topi (fun v2 ev2 => ?_)
  have ev2 : v2 = 2 := ev2.trans (by decide +kernel)
  subst ev2
  refine lv_if_le (tgt := 38) hx hb dJ5_ensureCapacityInternal_d00df_14 (by decide) (fun c9 => absurd c9 (by decide)) (fun _ => ?_)
  refine lv_aload_n hx hb dJ5_ensureCapacityInternal_d00df_17 rfl (lv_at hl 1 rfl) ?_
  refine lv_aload_n hx hb dJ5_ensureCapacityInternal_d00df_18 rfl (lv_at hl 1 rfl) ?_
  refine va_get (D := D) (ci := 1) (v := .ref bv) (C := RJ4) (T := TJ4) (N := 4) hx hb hts (by decide +kernel) hown hK hP 0 rfl rfl 0 (by decide) (hts (.fieldLink RJ5 15 "java/lang/AbstractStringBuilder" "value" "[B") (by decide +kernel)) (fun _ h9 => h9) rfl dJ5_ensureCapacityInternal_d00df_19 ?_
  refine lv_aload_n hx hb dJ5_ensureCapacityInternal_d00df_22 rfl (lv_at hl 1 rfl) ?_
  refine lv_iload_n hx hb dJ5_ensureCapacityInternal_d00df_23 rfl (lv_at hl 2 rfl) ?_
  have hPc := hP.sub (ws' := [(h0, .inr (1, [.ref bv, .int 0, w1, w2])), (bv, .inl (y 0, 16, .inl zk14))]) [0, 1] rfl
  have hDc := hD.sub (ws' := [(h0, .inr (1, [.ref bv, .int 0, w1, w2])), (bv, .inl (y 0, 16, .inl zk14))]) [0, 1] (by decide) rfl
  have hFc := va_free (wc := [(h0, .inr (1, [.ref bv, .int 0, w1, w2])), (bv, .inl (y 0, 16, .inl zk14))]) hD hS hA [0, 1] rfl
  refine va_calli (va_runU (As := [.int 18]) (rest := [.ref bv, .ref h0]) ⟨hx, hb, hml, hown, hts⟩ (c_newCap_18 l D y s.heap.size h0 bv w1 w2 zk14) (va_cwU 1 hts gv_c_ens_e1_c_newCap_18_104 rfl rfl rfl rfl (by decide +kernel) ⟨(Nat.le_of_ble_eq_true rfl), (Nat.le_of_ble_eq_true rfl)⟩) (zB.preV hPc hDc hK hN hE hO hT hG hS hFc (fun _ h => nomatch h) (fun _ h => nomatch h) (fun _ h => nomatch h) (fun _ h => nomatch h) (va_recv hK hPc (ci := 1) (q0 := 0) rfl rfl)) rfl rfl hl.1 rfl (lv_room (Nat.le_of_ble_eq_true rfl)) dJ5_ensureCapacityInternal_d00df_24 ⟨(Nat.le_of_ble_eq_true rfl), (Nat.le_of_ble_eq_true rfl)⟩) hS (fun q _ h => hFc q h) hFc (fun r3 u t H1 locs ht hvm hw hB hz1 hk1 hS => ?_)
  obtain ⟨hP1, hD1⟩ := hB
  rw [ht] at hP1
  obtain ⟨hP, hD⟩ := va_join (wr := []) (w1 := [(h0, .inr (1, [.ref bv, .int 0, w1, w2])), (bv, .inl (y 0, 16, .inl zk14))]) hP hD [0, 1] [] rfl rfl (by decide) (by decide) hk1 hFc hP1 hD1
  generalize H1 = H at hP hS ⊢
  have hP : va_P D vwCl [(h0, .inr (1, [.ref bv, .int 0, w1, w2])), (bv, .inl (y 0, 16, .inl zk14))] H := hP
  have hD : va_D A [(h0, .inr (1, [.ref bv, .int 0, w1, w2])), (bv, .inl (y 0, 16, .inl zk14))] := hD
  have hw : r3 = 34 := hw
  subst hw
  refine lv_aload_n hx hb dJ5_ensureCapacityInternal_d00df_27 rfl (lv_at hl 1 rfl) ?_
  refine va_get (D := D) (ci := 1) (v := .int 0) (C := RJ4) (T := TJ4) (N := 4) hx hb hts (by decide +kernel) hown hK hP 0 rfl rfl 1 (by decide) (hts (.fieldLink RJ5 22 "java/lang/AbstractStringBuilder" "coder" "B") (by decide +kernel)) (fun _ h9 => h9) rfl dJ5_ensureCapacityInternal_d00df_28 ?_
  refine lv_ishl hx hb dJ5_ensureCapacityInternal_d00df_31 ?_
  refine lv_topi (fun v4 ev4 => ?_)
  have ev4 : v4 = 34 := ev4.trans (by decide +kernel)
  subst ev4
  have hPc := hP.sub (ws' := [(bv, .inl (y 0, 16, .inl zk14))]) [1] rfl
  have hDc := hD.sub (ws' := [(bv, .inl (y 0, 16, .inl zk14))]) [1] (by decide) rfl
  have hFc := va_free (wc := [(bv, .inl (y 0, 16, .inl zk14))]) hD hS hA [1] rfl
  refine va_callr (va_runS (As := [.ref bv, .int 34]) (rest := [.ref h0]) ⟨hx, hb, hml, hown, hts⟩ (c_copyOf_e1 l D y H.size bv) (va_cwS 2 hts gv_c_ens_e1_c_copyOf_e1_108 rfl rfl rfl (by decide +kernel) ⟨(Nat.le_of_ble_eq_true rfl), (Nat.le_of_ble_eq_true rfl)⟩) (zB.preS hPc hDc hK hN hE hO hT hG hS hFc (fun _ h => nomatch h) (fun _ h => nomatch h) (fun _ h => nomatch h) (fun _ h => nomatch h)) rfl rfl hl.1 rfl (lv_room (Nat.le_of_ble_eq_true rfl)) dJ5_ensureCapacityInternal_d00df_32 ⟨(Nat.le_of_ble_eq_true rfl), (Nat.le_of_ble_eq_true rfl)⟩) hS (fun q _ h => hFc q h) hFc (fun u r5 t H1 locs ht hvm hw hB hz1 hk1 hS => ?_)
  obtain ⟨hP1, hD1⟩ := hB
  rw [ht] at hP1
  obtain ⟨hP, hD⟩ := va_join (wr := [(h0, .inr (1, [.ref bv, .int 0, w1, w2]))]) (w1 := [(bv, .inl (y 0, 16, .inl zk14)), (r5, .inl (y 0, 34, .inl zk15))]) hP hD [1] [0] rfl rfl (by decide) (by decide) hk1 hFc hP1 hD1
  generalize H1 = H at hP hS ⊢
  have hP : va_P D vwCl [(h0, .inr (1, [.ref bv, .int 0, w1, w2])), (bv, .inl (y 0, 16, .inl zk14)), (r5, .inl (y 0, 34, .inl zk15))] H := hP
  have hD : va_D A [(h0, .inr (1, [.ref bv, .int 0, w1, w2])), (bv, .inl (y 0, 16, .inl zk14)), (r5, .inl (y 0, 34, .inl zk15))] := hD
  refine va_put (D := D) (ci := 1) (v := .ref r5) (ty := (.array .byte)) (C := RJ4) (T := TJ4) (N := 4) hx hb hts (by decide +kernel) tyJ4 tyJ4_ok nmJ4 hown hK hP hD hS 0 rfl rfl 0 (by decide) (hts (.fieldLink RJ5 15 "java/lang/AbstractStringBuilder" "value" "[B") (by decide +kernel)) (fun _ h9 => h9) rfl (by decide +kernel) rfl rfl (Nat.le_of_ble_eq_true rfl) dJ5_ensureCapacityInternal_d00df_35 (fun H locs hP hD hS => ?_)
  have hP : va_P D vwCl [(h0, .inr (1, [.ref r5, .int 0, w1, w2])), (bv, .inl (y 0, 16, .inl zk14)), (r5, .inl (y 0, 34, .inl zk15))] H := hP
  have hD : va_D A [(h0, .inr (1, [.ref r5, .int 0, w1, w2])), (bv, .inl (y 0, 16, .inl zk14)), (r5, .inl (y 0, 34, .inl zk15))] := hD
  have hP9 := hP.sub (ws' := [(h0, .inr (1, [.ref r5, .int 0, w1, w2])), (bv, .inl (y 0, 16, .inl zk14)), (r5, .inl (y 0, 34, .inl zk15))]) [0, 1, 2] rfl
  have hD9 := hD.sub (ws' := [(h0, .inr (1, [.ref r5, .int 0, w1, w2])), (bv, .inl (y 0, 16, .inl zk14)), (r5, .inl (y 0, 34, .inl zk15))]) [0, 1, 2] (by decide) rfl
  refine W.widen (k := 1) (n := 34) (Nat.le_of_ble_eq_true rfl) (Nat.le_of_ble_eq_true rfl) ?_
  exact W.vret hx hb hr (fun t ht hW => ⟨⟨(), rfl, trivial, r5, by rw [ht]; exact hP9, hD9⟩, hS.F ht⟩) hS.2.2 dJ5_ensureCapacityInternal_d00df_38
def wz_c_getBytes_10_13_34 : List Cond := .code yJ0_getBytes_840e7 cJ0_getBytes_840e7 4 none :: ([.methodLink RJ0 335 yJ0_coder_7d493, .instanceMethod yJ0_coder_7d493, .selects RJ0 yJ0_coder_7d493 yJ0_coder_7d493, .initialized RJ0, .fieldLink RJ0 9 "java/lang/String" "value" "[B", .methodLink RJ0 212 arraycopyName, .native arraycopyName, .static arraycopyName, .initialized "java/lang/System"] ++ (wz_c_coder_o ++ ([])))
set_option maxRecDepth 100000 in
theorem gz_c_getBytes_10_13_34_c_coder_o : GoodIn wz_c_getBytes_10_13_34 wz_c_coder_o := goodIn_sub (fun w h => List.mem_cons_of_mem _ (List.mem_append_right _ (List.mem_append_left _ h))) (by decide +kernel)
set_option maxRecDepth 100000 in
theorem gv_c_getBytes_10_13_34_c_coder_o_335 : GoodIn wz_c_getBytes_10_13_34 (wsV RJ0 335 RJ0 yJ0_coder_7d493 wz_c_coder_o) := goodIn_app (goodIn_of _ (by decide +kernel)) gz_c_getBytes_10_13_34_c_coder_o
set_option maxHeartbeats 4000000 in
set_option maxRecDepth 100000 in
theorem c_getBytes_10_13_34 (l : Launch) (D : va_G) (y : Nat → ClassId) (sz : Nat) (bv : Nat) (sx : Nat) (tx : Nat) (g : Nat → Int32) : Met l yJ0_getBytes_840e7 wz_c_getBytes_10_13_34 ({ frames := 1, cells := 0, slots := 0, locals := 60 }) (va_Pc [.ref sx, .ref bv, .int 13, .int 0] (zB D y [(bv, .inl (y 0, 34, .inl g))] sz [] [("java/lang/String", "COMPACT_STRINGS", "Z", .int 1)] [] [.inr (.inl (sx, tx, 5, zs10))])) (va_Qv (fun _ : Unit => True) (fun _ t => va_P D vwCl [(bv, .inl (y 0, 34, .inl (va_cpy zs10 g (0 : Int32).toNatClampNeg (13 : Int32).toNatClampNeg (5 : Int32).toNatClampNeg)))] t.heap ∧ va_D (va_A [(bv, .inl (y 0, 34, .inl g))] sz) [(bv, .inl (y 0, 34, .inl (va_cpy zs10 g (0 : Int32).toNatClampNeg (13 : Int32).toNatClampNeg (5 : Int32).toNatClampNeg)))]) (va_A [(bv, .inl (y 0, 34, .inl g))] sz)) 0 0 (va_A [(bv, .inl (y 0, 34, .inl g))] sz) := by
  refine Met.ofW (cc := cJ0_getBytes_840e7) (maxL := 4) (ret := none) (by decide) rfl ?_
  intro p e s m args below meth c s₁ B hml hv
  obtain ⟨rfl, hsz, hP, hK, hD0, hN, hE, hO, hT, hG⟩ := hv
  have hx := B.exec
  have hb := B.bytes
  have hr := B.returns
  have hts := atoms_spec (ws := wz_c_getBytes_10_13_34) B.pre
  have hown : s.vm.findClass RJ0 = some m.cls := findClass_of_methodNamed B.named
  have hlocks := B.notSynchronized
  subst hsz
  have hD := hD0.self (sz := s.heap.size)
  generalize hAe : va_A [(bv, .inl (y 0, 34, .inl g))] s.heap.size = A at hD hE hT hG ⊢
  have hA : ∀ q : Nat, s.heap.size ≤ q → A q := fun q h => by rw [← hAe]; exact Or.inr h
  have hS : va_S A s.heap s.heap [] := va_S.rf
  have hl := lv_entry ([.ref sx, .ref bv, .int 13, .int 0]) (n := 4) (Nat.le_of_ble_eq_true rfl)
  rw [lg_entry_eq]
  generalize (lg_sl ([.ref sx, .ref bv, .int 13, .int 0]) ++ List.replicate (4 - (lg_sl ([.ref sx, .ref bv, .int 13, .int 0])).length) Slot.unset).toArray = ls at hl ⊢
  have hl : lv_has ls 4 [(0, .ref sx), (1, .ref bv), (2, .int 13), (3, .int 0)] := hl
  refine lv_aload_n hx hb dJ0_getBytes_840e7_0 rfl (lv_at hl 0 rfl) ?_
  have hPc := hP.sub (ws' := []) [] rfl
  have hDc := hD.sub (ws' := []) [] (by decide) rfl
  have hFc := va_free (wc := []) hD hS hA [] rfl
  refine va_calli (va_runV (As := []) (rest := []) ⟨hx, hb, hml, hown, hts⟩ (c_coder_o l D y s.heap.size sx tx 5 zs10) (cwV 0 hts gv_c_getBytes_10_13_34_c_coder_o_335 rfl rfl rfl (by decide +kernel) ⟨(Nat.le_of_ble_eq_true rfl), (Nat.le_of_ble_eq_true rfl)⟩) (zB.preV hPc hDc hK hN hE hO hT hG hS hFc (fun _ h => nomatch h) (List.forall_mem_cons.mpr ⟨List.mem_of_getElem? (i := 0) rfl, (fun _ h => nomatch h)⟩) (fun _ h => nomatch h) (List.forall_mem_cons.mpr ⟨List.mem_of_getElem? (i := 0) rfl, (fun _ h => nomatch h)⟩) (zStr.recv (show zStr sx tx 5 zs10 A s s.heap from (hG (.inr (.inl (sx, tx, 5, zs10))) (List.mem_of_getElem? (i := 0) rfl))) hS)) rfl rfl hl.1 rfl (lv_room (Nat.le_of_ble_eq_true rfl)) dJ0_getBytes_840e7_1 ⟨(Nat.le_of_ble_eq_true rfl), (Nat.le_of_ble_eq_true rfl)⟩) hS (fun q _ h => hFc q h) hFc (fun r1 u t H1 locs ht hvm hw hB hz1 hk1 hS => ?_)
  obtain ⟨hP1, hD1⟩ := hB
  rw [ht] at hP1
  obtain ⟨hP, hD⟩ := va_join (wr := [(bv, .inl (y 0, 34, .inl g))]) (w1 := []) hP hD [] [0] rfl rfl (by decide) (by decide) hk1 hFc hP1 hD1
  generalize H1 = H at hP hS ⊢
  have hP : va_P D vwCl [(bv, .inl (y 0, 34, .inl g))] H := hP
  have hD : va_D A [(bv, .inl (y 0, 34, .inl g))] := hD
  have hw : r1 = 0 := hw
  subst hw
  refine lv_iload_n hx hb dJ0_getBytes_840e7_4 rfl (lv_at hl 3 rfl) ?_
  refine lv_icmp_ne (tgt := 28) hx hb dJ0_getBytes_840e7_5 (by decide) (fun c9 => absurd (by decide) c9) (fun _ => ?_)
  refine lv_aload_n hx hb dJ0_getBytes_840e7_8 rfl (lv_at hl 0 rfl) ?_
  refine vk_getf hx hb (show zStr sx tx 5 zs10 A s s.heap from (hG (.inr (.inl (sx, tx, 5, zs10))) (List.mem_of_getElem? (i := 0) rfl))).2.2.1 hS hown (hts (.fieldLink RJ0 9 "java/lang/String" "value" "[B") (by decide +kernel)) (fun _ h9 => h9) dJ0_getBytes_840e7_9 ?_
  refine lv_iconst (v := 0) hx hb dJ0_getBytes_840e7_12 (by decide) ?_
  refine lv_aload_n hx hb dJ0_getBytes_840e7_13 rfl (lv_at hl 1 rfl) ?_
  refine lv_iload_n hx hb dJ0_getBytes_840e7_14 rfl (lv_at hl 2 rfl) ?_
  refine lv_iload_n hx hb dJ0_getBytes_840e7_15 rfl (lv_at hl 3 rfl) ?_
  refine lv_ishl hx hb dJ0_getBytes_840e7_16 ?_
  refine lv_topi (fun v2 ev2 => ?_)
  have ev2 : v2 = 13 := ev2.trans (by decide +kernel)
  subst ev2
  refine lv_aload_n hx hb dJ0_getBytes_840e7_17 rfl (lv_at hl 0 rfl) ?_
  refine vk_getf hx hb (show zStr sx tx 5 zs10 A s s.heap from (hG (.inr (.inl (sx, tx, 5, zs10))) (List.mem_of_getElem? (i := 0) rfl))).2.2.1 hS hown (hts (.fieldLink RJ0 9 "java/lang/String" "value" "[B") (by decide +kernel)) (fun _ h9 => h9) dJ0_getBytes_840e7_18 ?_
  refine va_tlen (v := 5) hx hb (show zStr sx tx 5 zs10 A s s.heap from (hG (.inr (.inl (sx, tx, 5, zs10))) (List.mem_of_getElem? (i := 0) rfl))).2.2.2 hS (by decide) dJ0_getBytes_840e7_21 ?_
  refine vk_copyt (sp := 0) (dp := 13) (n := 5) (f := zs10) hx hb (hml.trans hl.1.symm) hown (hts (.methodLink RJ0 212 arraycopyName) (by decide +kernel)) (hts (.native arraycopyName) (by decide +kernel)) (hts (.static arraycopyName) (by decide +kernel)) (hts (.initialized "java/lang/System") (by decide +kernel)) hK hP hD hS (show zStr sx tx 5 zs10 A s s.heap from (hG (.inr (.inl (sx, tx, 5, zs10))) (List.mem_of_getElem? (i := 0) rfl))).2.2.2 0 0 rfl rfl (by decide +kernel) (by decide +kernel) (by decide +kernel) (by decide +kernel) (by decide +kernel) (by decide +kernel) (Nat.le_of_ble_eq_true rfl) (Nat.le_of_ble_eq_true rfl) dJ0_getBytes_840e7_22 (fun H locs hP hD hS => ?_)
  have hP : va_P D vwCl [(bv, .inl (y 0, 34, .inl (va_cpy zs10 g (0 : Int32).toNatClampNeg (13 : Int32).toNatClampNeg (5 : Int32).toNatClampNeg)))] H := hP
  have hD : va_D A [(bv, .inl (y 0, 34, .inl (va_cpy zs10 g (0 : Int32).toNatClampNeg (13 : Int32).toNatClampNeg (5 : Int32).toNatClampNeg)))] := hD
  refine lv_goto (tgt := 43) hx hb dJ0_getBytes_840e7_25 (by decide) ?_
  have hP9 := hP.sub (ws' := [(bv, .inl (y 0, 34, .inl (va_cpy zs10 g (0 : Int32).toNatClampNeg (13 : Int32).toNatClampNeg (5 : Int32).toNatClampNeg)))]) [0] rfl
  have hD9 := hD.sub (ws' := [(bv, .inl (y 0, 34, .inl (va_cpy zs10 g (0 : Int32).toNatClampNeg (13 : Int32).toNatClampNeg (5 : Int32).toNatClampNeg)))]) [0] (by decide) rfl
  refine W.widen (k := 0) (n := 0) (Nat.le_of_ble_eq_true rfl) (Nat.le_of_ble_eq_true rfl) ?_
  exact W.vret hx hb hr (fun t ht hW => ⟨⟨(), rfl, trivial, by rw [ht]; exact hP9, hD9⟩, hS.F ht⟩) hS.2.2 dJ0_getBytes_840e7_43
def wz_c_putStr_10_13_34 : List Cond := .code yJ5_putStringAt_47b60 cJ5_putStringAt_47b60 3 none :: ([.methodLink RJ5 397 ⟨"java/lang/AbstractStringBuilder", "inflateIfNeededFor", "(Ljava/lang/String;)V"⟩, .sameMethod "java/lang/AbstractStringBuilder" "java/lang/AbstractStringBuilder" "inflateIfNeededFor" "(Ljava/lang/String;)V", .selects RJ4 ⟨"java/lang/AbstractStringBuilder", "inflateIfNeededFor", "(Ljava/lang/String;)V"⟩ yJ5_inflateIfNeededFor_a7421, .instanceMethod yJ5_inflateIfNeededFor_a7421, .initialized RJ5, .fieldLink RJ5 15 "java/lang/AbstractStringBuilder" "value" "[B", .fieldLink RJ5 22 "java/lang/AbstractStringBuilder" "coder" "B", .methodLink RJ5 399 yJ0_getBytes_840e7, .instanceMethod yJ0_getBytes_840e7, .selects RJ0 yJ0_getBytes_840e7 yJ0_getBytes_840e7, .initialized RJ0] ++ (wsJ40 ++ (wz_c_inflIf ++ (wz_c_getBytes_10_13_34 ++ ([])))))
set_option maxRecDepth 100000 in
theorem gz_c_putStr_10_13_34_c_inflIf : GoodIn wz_c_putStr_10_13_34 wz_c_inflIf := goodIn_sub (fun w h => List.mem_cons_of_mem _ (List.mem_append_right _ (List.mem_append_right _ (List.mem_append_left _ h)))) (by decide +kernel)
set_option maxRecDepth 100000 in
theorem gz_c_putStr_10_13_34_c_getBytes_10_13_34 : GoodIn wz_c_putStr_10_13_34 wz_c_getBytes_10_13_34 := goodIn_sub (fun w h => List.mem_cons_of_mem _ (List.mem_append_right _ (List.mem_append_right _ (List.mem_append_right _ (List.mem_append_left _ h))))) (by decide +kernel)
set_option maxRecDepth 100000 in
theorem gv_c_putStr_10_13_34_c_inflIf_397 : GoodIn wz_c_putStr_10_13_34 (va_wsU RJ5 397 RJ4 "java/lang/AbstractStringBuilder" ⟨"java/lang/AbstractStringBuilder", "inflateIfNeededFor", "(Ljava/lang/String;)V"⟩ yJ5_inflateIfNeededFor_a7421 wz_c_inflIf) := goodIn_app (goodIn_of _ (by decide +kernel)) gz_c_putStr_10_13_34_c_inflIf
set_option maxRecDepth 100000 in
theorem gv_c_putStr_10_13_34_c_getBytes_10_13_34_399 : GoodIn wz_c_putStr_10_13_34 (wsV RJ5 399 RJ0 yJ0_getBytes_840e7 wz_c_getBytes_10_13_34) := goodIn_app (goodIn_of _ (by decide +kernel)) gz_c_putStr_10_13_34_c_getBytes_10_13_34
set_option maxHeartbeats 4000000 in
set_option maxRecDepth 100000 in
theorem c_putStr_10_13_34 (l : Launch) (D : va_G) (y : Nat → ClassId) (sz : Nat) (h0 : Nat) (bv : Nat) (w1 : Value) (w2 : Value) (sx : Nat) (tx : Nat) (g : Nat → Int32) : Met l yJ5_putStringAt_47b60 wz_c_putStr_10_13_34 ({ frames := 2, cells := 0, slots := 0, locals := 83 }) (va_Pc [.ref h0, .int 13, .ref sx] (zB D y [(h0, .inr (1, [.ref bv, .int 0, w1, w2])), (bv, .inl (y 0, 34, .inl g))] sz [] [("java/lang/String", "COMPACT_STRINGS", "Z", .int 1)] [] [.inr (.inl (sx, tx, 5, zs10))])) (va_Qv (fun _ : Unit => True) (fun _ t => va_P D vwCl [(h0, .inr (1, [.ref bv, .int 0, w1, w2])), (bv, .inl (y 0, 34, .inl (va_cpy zs10 g (0 : Int32).toNatClampNeg (13 : Int32).toNatClampNeg (5 : Int32).toNatClampNeg)))] t.heap ∧ va_D (va_A [(h0, .inr (1, [.ref bv, .int 0, w1, w2])), (bv, .inl (y 0, 34, .inl g))] sz) [(h0, .inr (1, [.ref bv, .int 0, w1, w2])), (bv, .inl (y 0, 34, .inl (va_cpy zs10 g (0 : Int32).toNatClampNeg (13 : Int32).toNatClampNeg (5 : Int32).toNatClampNeg)))]) (va_A [(h0, .inr (1, [.ref bv, .int 0, w1, w2])), (bv, .inl (y 0, 34, .inl g))] sz)) 0 0 (va_A [(h0, .inr (1, [.ref bv, .int 0, w1, w2])), (bv, .inl (y 0, 34, .inl g))] sz) := by
  refine Met.ofW (cc := cJ5_putStringAt_47b60) (maxL := 3) (ret := none) (by decide) rfl ?_
  intro p e s m args below meth c s₁ B hml hv
  obtain ⟨rfl, hsz, hP, hK, hD0, hN, hE, hO, hT, hG⟩ := hv
  have hx := B.exec
  have hb := B.bytes
  have hr := B.returns
  have hts := atoms_spec (ws := wz_c_putStr_10_13_34) B.pre
  have hown : s.vm.findClass RJ5 = some m.cls := findClass_of_methodNamed B.named
  have hlocks := B.notSynchronized
  subst hsz
  have hD := hD0.self (sz := s.heap.size)
  generalize hAe : va_A [(h0, .inr (1, [.ref bv, .int 0, w1, w2])), (bv, .inl (y 0, 34, .inl g))] s.heap.size = A at hD hE hT hG ⊢
  have hA : ∀ q : Nat, s.heap.size ≤ q → A q := fun q h => by rw [← hAe]; exact Or.inr h
  have hS : va_S A s.heap s.heap [] := va_S.rf
  have hl := lv_entry ([.ref h0, .int 13, .ref sx]) (n := 3) (Nat.le_of_ble_eq_true rfl)
  rw [lg_entry_eq]
  generalize (lg_sl ([.ref h0, .int 13, .ref sx]) ++ List.replicate (3 - (lg_sl ([.ref h0, .int 13, .ref sx])).length) Slot.unset).toArray = ls at hl ⊢
  have hl : lv_has ls 3 [(0, .ref h0), (1, .int 13), (2, .ref sx)] := hl
  refine lv_aload_n hx hb dJ5_putStringAt_47b60_0 rfl (lv_at hl 0 rfl) ?_
  refine lv_aload_n hx hb dJ5_putStringAt_47b60_1 rfl (lv_at hl 2 rfl) ?_
  have hPc := hP.sub (ws' := [(h0, .inr (1, [.ref bv, .int 0, w1, w2]))]) [0] rfl
  have hDc := hD.sub (ws' := [(h0, .inr (1, [.ref bv, .int 0, w1, w2]))]) [0] (by decide) rfl
  have hFc := va_free (wc := [(h0, .inr (1, [.ref bv, .int 0, w1, w2]))]) hD hS hA [0] rfl
  refine va_callv (va_runU (As := [.ref sx]) (rest := []) ⟨hx, hb, hml, hown, hts⟩ (c_inflIf l D y s.heap.size h0 ((.ref bv)) w1 w2 sx tx 5 zs10) (va_cwU 1 hts gv_c_putStr_10_13_34_c_inflIf_397 rfl rfl rfl rfl (by decide +kernel) ⟨(Nat.le_of_ble_eq_true rfl), (Nat.le_of_ble_eq_true rfl)⟩) (zB.preV hPc hDc hK hN hE hO hT hG hS hFc (fun _ h => nomatch h) (List.forall_mem_cons.mpr ⟨List.mem_of_getElem? (i := 0) rfl, (fun _ h => nomatch h)⟩) (fun _ h => nomatch h) (List.forall_mem_cons.mpr ⟨List.mem_of_getElem? (i := 0) rfl, (fun _ h => nomatch h)⟩) (va_recv hK hPc (ci := 1) (q0 := 0) rfl rfl)) rfl rfl hl.1 rfl (lv_room (Nat.le_of_ble_eq_true rfl)) dJ5_putStringAt_47b60_2 ⟨(Nat.le_of_ble_eq_true rfl), (Nat.le_of_ble_eq_true rfl)⟩) hS (fun q _ h => hFc q h) hFc (fun u t H1 locs ht hvm hw hB hz1 hk1 hS => ?_)
  obtain ⟨hP1, hD1⟩ := hB
  rw [ht] at hP1
  obtain ⟨hP, hD⟩ := va_join (wr := [(bv, .inl (y 0, 34, .inl g))]) (w1 := [(h0, .inr (1, [.ref bv, .int 0, w1, w2]))]) hP hD [0] [1] rfl rfl (by decide) (by decide) hk1 hFc hP1 hD1
  generalize H1 = H at hP hS ⊢
  have hP : va_P D vwCl [(bv, .inl (y 0, 34, .inl g)), (h0, .inr (1, [.ref bv, .int 0, w1, w2]))] H := hP
  have hD : va_D A [(bv, .inl (y 0, 34, .inl g)), (h0, .inr (1, [.ref bv, .int 0, w1, w2]))] := hD
  refine lv_aload_n hx hb dJ5_putStringAt_47b60_5 rfl (lv_at hl 2 rfl) ?_
  refine lv_aload_n hx hb dJ5_putStringAt_47b60_6 rfl (lv_at hl 0 rfl) ?_
  refine va_get (D := D) (ci := 1) (v := .ref bv) (C := RJ4) (T := TJ4) (N := 4) hx hb hts (by decide +kernel) hown hK hP 1 rfl rfl 0 (by decide) (hts (.fieldLink RJ5 15 "java/lang/AbstractStringBuilder" "value" "[B") (by decide +kernel)) (fun _ h9 => h9) rfl dJ5_putStringAt_47b60_7 ?_
  refine lv_iload_n hx hb dJ5_putStringAt_47b60_10 rfl (lv_at hl 1 rfl) ?_
  refine lv_aload_n hx hb dJ5_putStringAt_47b60_11 rfl (lv_at hl 0 rfl) ?_
  refine va_get (D := D) (ci := 1) (v := .int 0) (C := RJ4) (T := TJ4) (N := 4) hx hb hts (by decide +kernel) hown hK hP 1 rfl rfl 1 (by decide) (hts (.fieldLink RJ5 22 "java/lang/AbstractStringBuilder" "coder" "B") (by decide +kernel)) (fun _ h9 => h9) rfl dJ5_putStringAt_47b60_12 ?_
  have hPc := hP.sub (ws' := [(bv, .inl (y 0, 34, .inl g))]) [0] rfl
  have hDc := hD.sub (ws' := [(bv, .inl (y 0, 34, .inl g))]) [0] (by decide) rfl
  have hFc := va_free (wc := [(bv, .inl (y 0, 34, .inl g))]) hD hS hA [0] rfl
  refine va_callv (va_runV (As := [.ref bv, .int 13, .int 0]) (rest := []) ⟨hx, hb, hml, hown, hts⟩ (c_getBytes_10_13_34 l D y H.size bv sx tx g) (cwV 3 hts gv_c_putStr_10_13_34_c_getBytes_10_13_34_399 rfl rfl rfl (by decide +kernel) ⟨(Nat.le_of_ble_eq_true rfl), (Nat.le_of_ble_eq_true rfl)⟩) (zB.preV hPc hDc hK hN hE hO hT hG hS hFc (fun _ h => nomatch h) (List.forall_mem_cons.mpr ⟨List.mem_of_getElem? (i := 0) rfl, (fun _ h => nomatch h)⟩) (fun _ h => nomatch h) (List.forall_mem_cons.mpr ⟨List.mem_of_getElem? (i := 0) rfl, (fun _ h => nomatch h)⟩) (zStr.recv (show zStr sx tx 5 zs10 A s s.heap from (hG (.inr (.inl (sx, tx, 5, zs10))) (List.mem_of_getElem? (i := 0) rfl))) hS)) rfl rfl hl.1 rfl (lv_room (Nat.le_of_ble_eq_true rfl)) dJ5_putStringAt_47b60_15 ⟨(Nat.le_of_ble_eq_true rfl), (Nat.le_of_ble_eq_true rfl)⟩) hS (fun q _ h => hFc q h) hFc (fun u t H1 locs ht hvm hw hB hz1 hk1 hS => ?_)
  obtain ⟨hP1, hD1⟩ := hB
  rw [ht] at hP1
  obtain ⟨hP, hD⟩ := va_join (wr := [(h0, .inr (1, [.ref bv, .int 0, w1, w2]))]) (w1 := [(bv, .inl (y 0, 34, .inl (va_cpy zs10 g (0 : Int32).toNatClampNeg (13 : Int32).toNatClampNeg (5 : Int32).toNatClampNeg)))]) hP hD [0] [1] rfl rfl (by decide) (by decide) hk1 hFc hP1 hD1
  generalize H1 = H at hP hS ⊢
  have hP : va_P D vwCl [(h0, .inr (1, [.ref bv, .int 0, w1, w2])), (bv, .inl (y 0, 34, .inl (va_cpy zs10 g (0 : Int32).toNatClampNeg (13 : Int32).toNatClampNeg (5 : Int32).toNatClampNeg)))] H := hP
  have hD : va_D A [(h0, .inr (1, [.ref bv, .int 0, w1, w2])), (bv, .inl (y 0, 34, .inl (va_cpy zs10 g (0 : Int32).toNatClampNeg (13 : Int32).toNatClampNeg (5 : Int32).toNatClampNeg)))] := hD
  have hP9 := hP.sub (ws' := [(h0, .inr (1, [.ref bv, .int 0, w1, w2])), (bv, .inl (y 0, 34, .inl (va_cpy zs10 g (0 : Int32).toNatClampNeg (13 : Int32).toNatClampNeg (5 : Int32).toNatClampNeg)))]) [0, 1] rfl
  have hD9 := hD.sub (ws' := [(h0, .inr (1, [.ref bv, .int 0, w1, w2])), (bv, .inl (y 0, 34, .inl (va_cpy zs10 g (0 : Int32).toNatClampNeg (13 : Int32).toNatClampNeg (5 : Int32).toNatClampNeg)))]) [0, 1] (by decide) rfl
  refine W.widen (k := 0) (n := 0) (Nat.le_of_ble_eq_true rfl) (Nat.le_of_ble_eq_true rfl) ?_
  exact W.vret hx hb hr (fun t ht hW => ⟨⟨(), rfl, trivial, by rw [ht]; exact hP9, hD9⟩, hS.F ht⟩) hS.2.2 dJ5_putStringAt_47b60_18
def zk16 : Nat → Int32 := va_cpy zs10 zk15 (0 : Int32).toNatClampNeg (13 : Int32).toNatClampNeg (5 : Int32).toNatClampNeg
def wz_c_ASBapp_e1 : List Cond := .code yJ5_append_cf1ce cJ5_append_cf1ce 3 (some (.object "java/lang/AbstractStringBuilder")) :: ([.methodLink RJ5 32 yJ0_length_8abf5, .instanceMethod yJ0_length_8abf5, .selects RJ0 yJ0_length_8abf5 yJ0_length_8abf5, .initialized RJ0, .fieldLink RJ5 79 "java/lang/AbstractStringBuilder" "count" "I", .methodLink RJ5 100 ⟨"java/lang/AbstractStringBuilder", "ensureCapacityInternal", "(I)V"⟩, .sameMethod "java/lang/AbstractStringBuilder" "java/lang/AbstractStringBuilder" "ensureCapacityInternal" "(I)V", .selects RJ4 ⟨"java/lang/AbstractStringBuilder", "ensureCapacityInternal", "(I)V"⟩ yJ5_ensureCapacityInternal_d00df, .instanceMethod yJ5_ensureCapacityInternal_d00df, .initialized RJ5, .methodLink RJ5 208 ⟨"java/lang/AbstractStringBuilder", "putStringAt", "(ILjava/lang/String;)V"⟩, .sameMethod "java/lang/AbstractStringBuilder" "java/lang/AbstractStringBuilder" "putStringAt" "(ILjava/lang/String;)V", .selects RJ4 ⟨"java/lang/AbstractStringBuilder", "putStringAt", "(ILjava/lang/String;)V"⟩ yJ5_putStringAt_47b60, .instanceMethod yJ5_putStringAt_47b60] ++ (wsJ40 ++ (wz_c_len_o_5 ++ (wz_c_ens_e1 ++ (wz_c_putStr_10_13_34 ++ ([]))))))
set_option maxRecDepth 100000 in
theorem gz_c_ASBapp_e1_c_len_o_5 : GoodIn wz_c_ASBapp_e1 wz_c_len_o_5 := goodIn_sub (fun w h => List.mem_cons_of_mem _ (List.mem_append_right _ (List.mem_append_right _ (List.mem_append_left _ h)))) (by decide +kernel)
set_option maxRecDepth 100000 in
theorem gz_c_ASBapp_e1_c_ens_e1 : GoodIn wz_c_ASBapp_e1 wz_c_ens_e1 := goodIn_sub (fun w h => List.mem_cons_of_mem _ (List.mem_append_right _ (List.mem_append_right _ (List.mem_append_right _ (List.mem_append_left _ h))))) (by decide +kernel)
set_option maxRecDepth 100000 in
theorem gz_c_ASBapp_e1_c_putStr_10_13_34 : GoodIn wz_c_ASBapp_e1 wz_c_putStr_10_13_34 := goodIn_sub (fun w h => List.mem_cons_of_mem _ (List.mem_append_right _ (List.mem_append_right _ (List.mem_append_right _ (List.mem_append_right _ (List.mem_append_left _ h)))))) (by decide +kernel)
set_option maxRecDepth 100000 in
theorem gv_c_ASBapp_e1_c_len_o_5_32 : GoodIn wz_c_ASBapp_e1 (wsV RJ5 32 RJ0 yJ0_length_8abf5 wz_c_len_o_5) := goodIn_app (goodIn_of _ (by decide +kernel)) gz_c_ASBapp_e1_c_len_o_5
set_option maxRecDepth 100000 in
theorem gv_c_ASBapp_e1_c_ens_e1_100 : GoodIn wz_c_ASBapp_e1 (va_wsU RJ5 100 RJ4 "java/lang/AbstractStringBuilder" ⟨"java/lang/AbstractStringBuilder", "ensureCapacityInternal", "(I)V"⟩ yJ5_ensureCapacityInternal_d00df wz_c_ens_e1) := goodIn_app (goodIn_of _ (by decide +kernel)) gz_c_ASBapp_e1_c_ens_e1
set_option maxRecDepth 100000 in
theorem gv_c_ASBapp_e1_c_putStr_10_13_34_208 : GoodIn wz_c_ASBapp_e1 (va_wsU RJ5 208 RJ4 "java/lang/AbstractStringBuilder" ⟨"java/lang/AbstractStringBuilder", "putStringAt", "(ILjava/lang/String;)V"⟩ yJ5_putStringAt_47b60 wz_c_putStr_10_13_34) := goodIn_app (goodIn_of _ (by decide +kernel)) gz_c_ASBapp_e1_c_putStr_10_13_34
set_option maxHeartbeats 4000000 in
set_option maxRecDepth 100000 in
theorem c_ASBapp_e1 (l : Launch) (D : va_G) (y : Nat → ClassId) (sz : Nat) (h0 : Nat) (bv : Nat) (w1 : Value) (sx : Nat) (tx : Nat) : Met l yJ5_append_cf1ce wz_c_ASBapp_e1 ({ frames := 4, cells := 1, slots := 34, locals := 105 }) (va_Pc [.ref h0, .ref sx] (zB D y [(h0, .inr (1, [.ref bv, .int 0, w1, .int 13])), (bv, .inl (y 0, 16, .inl zk14))] sz [] [("java/lang/String", "COMPACT_STRINGS", "Z", .int 1)] [] [.inr (.inl (sx, tx, 5, zs10))])) (va_Qq (fun (r : Option Nat) (_ : Unit) => r = some h0) (fun _ t => ∃ q3 : Nat, va_P D vwCl [(h0, .inr (1, [.ref q3, .int 0, w1, .int 18])), (bv, .inl (y 0, 16, .inl zk14)), (q3, .inl (y 0, 34, .inl zk16))] t.heap ∧ va_D (va_A [(h0, .inr (1, [.ref bv, .int 0, w1, .int 13])), (bv, .inl (y 0, 16, .inl zk14))] sz) [(h0, .inr (1, [.ref q3, .int 0, w1, .int 18])), (bv, .inl (y 0, 16, .inl zk14)), (q3, .inl (y 0, 34, .inl zk16))]) (va_A [(h0, .inr (1, [.ref bv, .int 0, w1, .int 13])), (bv, .inl (y 0, 16, .inl zk14))] sz)) 1 34 (va_A [(h0, .inr (1, [.ref bv, .int 0, w1, .int 13])), (bv, .inl (y 0, 16, .inl zk14))] sz) := by
  refine Met.ofW (cc := cJ5_append_cf1ce) (maxL := 3) (ret := (some (.object "java/lang/AbstractStringBuilder"))) (by decide) rfl ?_
  intro p e s m args below meth c s₁ B hml hv
  obtain ⟨rfl, hsz, hP, hK, hD0, hN, hE, hO, hT, hG⟩ := hv
  have hx := B.exec
  have hb := B.bytes
  have hr := B.returns
  have hts := atoms_spec (ws := wz_c_ASBapp_e1) B.pre
  have hown : s.vm.findClass RJ5 = some m.cls := findClass_of_methodNamed B.named
  have hlocks := B.notSynchronized
  subst hsz
  have hD := hD0.self (sz := s.heap.size)
  generalize hAe : va_A [(h0, .inr (1, [.ref bv, .int 0, w1, .int 13])), (bv, .inl (y 0, 16, .inl zk14))] s.heap.size = A at hD hE hT hG ⊢
  have hA : ∀ q : Nat, s.heap.size ≤ q → A q := fun q h => by rw [← hAe]; exact Or.inr h
  have hS : va_S A s.heap s.heap [] := va_S.rf
  have hl := lv_entry ([.ref h0, .ref sx]) (n := 3) (Nat.le_of_ble_eq_true rfl)
  rw [lg_entry_eq]
  generalize (lg_sl ([.ref h0, .ref sx]) ++ List.replicate (3 - (lg_sl ([.ref h0, .ref sx])).length) Slot.unset).toArray = ls at hl ⊢
  have hl : lv_has ls 3 [(0, .ref h0), (1, .ref sx)] := hl
  refine lv_aload_n hx hb dJ5_append_cf1ce_0 rfl (lv_at hl 1 rfl) ?_
  refine lv_ifnonnull (tgt := 9) hx hb dJ5_append_cf1ce_1 (by decide) ?_
  refine lv_aload_n hx hb dJ5_append_cf1ce_9 rfl (lv_at hl 1 rfl) ?_
  have hPc := hP.sub (ws' := []) [] rfl
  have hDc := hD.sub (ws' := []) [] (by decide) rfl
  have hFc := va_free (wc := []) hD hS hA [] rfl
  refine va_calli (va_runV (As := []) (rest := []) ⟨hx, hb, hml, hown, hts⟩ (c_len_o_5 l D y s.heap.size sx tx zs10) (cwV 0 hts gv_c_ASBapp_e1_c_len_o_5_32 rfl rfl rfl (by decide +kernel) ⟨(Nat.le_of_ble_eq_true rfl), (Nat.le_of_ble_eq_true rfl)⟩) (zB.preV hPc hDc hK hN hE hO hT hG hS hFc (fun _ h => nomatch h) (List.forall_mem_cons.mpr ⟨List.mem_of_getElem? (i := 0) rfl, (fun _ h => nomatch h)⟩) (fun _ h => nomatch h) (List.forall_mem_cons.mpr ⟨List.mem_of_getElem? (i := 0) rfl, (fun _ h => nomatch h)⟩) (zStr.recv (show zStr sx tx 5 zs10 A s s.heap from (hG (.inr (.inl (sx, tx, 5, zs10))) (List.mem_of_getElem? (i := 0) rfl))) hS)) rfl rfl hl.1 rfl (lv_room (Nat.le_of_ble_eq_true rfl)) dJ5_append_cf1ce_10 ⟨(Nat.le_of_ble_eq_true rfl), (Nat.le_of_ble_eq_true rfl)⟩) hS (fun q _ h => hFc q h) hFc (fun r1 u t H1 locs ht hvm hw hB hz1 hk1 hS => ?_)
  obtain ⟨hP1, hD1⟩ := hB
  rw [ht] at hP1
  obtain ⟨hP, hD⟩ := va_join (wr := [(h0, .inr (1, [.ref bv, .int 0, w1, .int 13])), (bv, .inl (y 0, 16, .inl zk14))]) (w1 := []) hP hD [] [0, 1] rfl rfl (by decide) (by decide) hk1 hFc hP1 hD1
  generalize H1 = H at hP hS ⊢
  have hP : va_P D vwCl [(h0, .inr (1, [.ref bv, .int 0, w1, .int 13])), (bv, .inl (y 0, 16, .inl zk14))] H := hP
  have hD : va_D A [(h0, .inr (1, [.ref bv, .int 0, w1, .int 13])), (bv, .inl (y 0, 16, .inl zk14))] := hD
  have hw : r1 = 5 := hw
  subst hw
  refine lv_istore_n (lv' := [(2, .int 5), (0, .ref h0), (1, .ref sx)]) hx hb dJ5_append_cf1ce_13 rfl hl (by decide) rfl (fun ls hl => ?_)
  refine lv_aload_n hx hb dJ5_append_cf1ce_14 rfl (lv_at hl 1 rfl) ?_
  refine lv_aload_n hx hb dJ5_append_cf1ce_15 rfl (lv_at hl 1 rfl) ?_
  refine va_get (D := D) (ci := 1) (v := .int 13) (C := RJ4) (T := TJ4) (N := 4) hx hb hts (by decide +kernel) hown hK hP 0 rfl rfl 3 (by decide) (hts (.fieldLink RJ5 79 "java/lang/AbstractStringBuilder" "count" "I") (by decide +kernel)) (fun _ h9 => h9) rfl dJ5_append_cf1ce_16 ?_
  refine lv_iload_n hx hb dJ5_append_cf1ce_19 rfl (lv_at hl 0 rfl) ?_
  refine lv_iadd hx hb dJ5_append_cf1ce_20 ?_
  refine lv_topi (fun v2 ev2 => ?_)
  have ev2 : v2 = 18 := ev2.trans (by decide +kernel)
  subst ev2
  have hPc := hP.sub (ws' := [(h0, .inr (1, [.ref bv, .int 0, w1, .int 13])), (bv, .inl (y 0, 16, .inl zk14))]) [0, 1] rfl
  have hDc := hD.sub (ws' := [(h0, .inr (1, [.ref bv, .int 0, w1, .int 13])), (bv, .inl (y 0, 16, .inl zk14))]) [0, 1] (by decide) rfl
  have hFc := va_free (wc := [(h0, .inr (1, [.ref bv, .int 0, w1, .int 13])), (bv, .inl (y 0, 16, .inl zk14))]) hD hS hA [0, 1] rfl
  refine va_callv (va_runU (As := [.int 18]) (rest := []) ⟨hx, hb, hml, hown, hts⟩ (c_ens_e1 l D y H.size h0 bv w1 ((.int 13))) (va_cwU 1 hts gv_c_ASBapp_e1_c_ens_e1_100 rfl rfl rfl rfl (by decide +kernel) ⟨(Nat.le_of_ble_eq_true rfl), (Nat.le_of_ble_eq_true rfl)⟩) (zB.preV hPc hDc hK hN hE hO hT hG hS hFc (fun _ h => nomatch h) (fun _ h => nomatch h) (fun _ h => nomatch h) (fun _ h => nomatch h) (va_recv hK hPc (ci := 1) (q0 := 0) rfl rfl)) rfl rfl hl.1 rfl (lv_room (Nat.le_of_ble_eq_true rfl)) dJ5_append_cf1ce_21 ⟨(Nat.le_of_ble_eq_true rfl), (Nat.le_of_ble_eq_true rfl)⟩) hS (fun q _ h => hFc q h) hFc (fun u t H1 locs ht hvm hw hB hz1 hk1 hS => ?_)
  obtain ⟨q3, hP1, hD1⟩ := hB
  rw [ht] at hP1
  obtain ⟨hP, hD⟩ := va_join (wr := []) (w1 := [(h0, .inr (1, [.ref q3, .int 0, w1, .int 13])), (bv, .inl (y 0, 16, .inl zk14)), (q3, .inl (y 0, 34, .inl zk15))]) hP hD [0, 1] [] rfl rfl (by decide) (by decide) hk1 hFc hP1 hD1
  generalize H1 = H at hP hS ⊢
  have hP : va_P D vwCl [(h0, .inr (1, [.ref q3, .int 0, w1, .int 13])), (bv, .inl (y 0, 16, .inl zk14)), (q3, .inl (y 0, 34, .inl zk15))] H := hP
  have hD : va_D A [(h0, .inr (1, [.ref q3, .int 0, w1, .int 13])), (bv, .inl (y 0, 16, .inl zk14)), (q3, .inl (y 0, 34, .inl zk15))] := hD
  refine lv_aload_n hx hb dJ5_append_cf1ce_24 rfl (lv_at hl 1 rfl) ?_
  refine lv_aload_n hx hb dJ5_append_cf1ce_25 rfl (lv_at hl 1 rfl) ?_
  refine va_get (D := D) (ci := 1) (v := .int 13) (C := RJ4) (T := TJ4) (N := 4) hx hb hts (by decide +kernel) hown hK hP 0 rfl rfl 3 (by decide) (hts (.fieldLink RJ5 79 "java/lang/AbstractStringBuilder" "count" "I") (by decide +kernel)) (fun _ h9 => h9) rfl dJ5_append_cf1ce_26 ?_
  refine lv_aload_n hx hb dJ5_append_cf1ce_29 rfl (lv_at hl 2 rfl) ?_
  have hPc := hP.sub (ws' := [(h0, .inr (1, [.ref q3, .int 0, w1, .int 13])), (q3, .inl (y 0, 34, .inl zk15))]) [0, 2] rfl
  have hDc := hD.sub (ws' := [(h0, .inr (1, [.ref q3, .int 0, w1, .int 13])), (q3, .inl (y 0, 34, .inl zk15))]) [0, 2] (by decide) rfl
  have hFc := va_free (wc := [(h0, .inr (1, [.ref q3, .int 0, w1, .int 13])), (q3, .inl (y 0, 34, .inl zk15))]) hD hS hA [0, 2] rfl
  refine va_callv (va_runU (As := [.int 13, .ref sx]) (rest := []) ⟨hx, hb, hml, hown, hts⟩ (c_putStr_10_13_34 l D y H.size h0 q3 w1 ((.int 13)) sx tx zk15) (va_cwU 2 hts gv_c_ASBapp_e1_c_putStr_10_13_34_208 rfl rfl rfl rfl (by decide +kernel) ⟨(Nat.le_of_ble_eq_true rfl), (Nat.le_of_ble_eq_true rfl)⟩) (zB.preV hPc hDc hK hN hE hO hT hG hS hFc (fun _ h => nomatch h) (List.forall_mem_cons.mpr ⟨List.mem_of_getElem? (i := 0) rfl, (fun _ h => nomatch h)⟩) (fun _ h => nomatch h) (List.forall_mem_cons.mpr ⟨List.mem_of_getElem? (i := 0) rfl, (fun _ h => nomatch h)⟩) (va_recv hK hPc (ci := 1) (q0 := 0) rfl rfl)) rfl rfl hl.1 rfl (lv_room (Nat.le_of_ble_eq_true rfl)) dJ5_append_cf1ce_30 ⟨(Nat.le_of_ble_eq_true rfl), (Nat.le_of_ble_eq_true rfl)⟩) hS (fun q _ h => hFc q h) hFc (fun u t H1 locs ht hvm hw hB hz1 hk1 hS => ?_)
  obtain ⟨hP1, hD1⟩ := hB
  rw [ht] at hP1
  obtain ⟨hP, hD⟩ := va_join (wr := [(bv, .inl (y 0, 16, .inl zk14))]) (w1 := [(h0, .inr (1, [.ref q3, .int 0, w1, .int 13])), (q3, .inl (y 0, 34, .inl zk16))]) hP hD [0, 2] [1] rfl rfl (by decide) (by decide) hk1 hFc hP1 hD1
  generalize H1 = H at hP hS ⊢
  have hP : va_P D vwCl [(bv, .inl (y 0, 16, .inl zk14)), (h0, .inr (1, [.ref q3, .int 0, w1, .int 13])), (q3, .inl (y 0, 34, .inl zk16))] H := hP
  have hD : va_D A [(bv, .inl (y 0, 16, .inl zk14)), (h0, .inr (1, [.ref q3, .int 0, w1, .int 13])), (q3, .inl (y 0, 34, .inl zk16))] := hD
  refine lv_aload_n hx hb dJ5_append_cf1ce_33 rfl (lv_at hl 1 rfl) ?_
  refine lv_dup hx hb dJ5_append_cf1ce_34 rfl ?_
  refine va_get (D := D) (ci := 1) (v := .int 13) (C := RJ4) (T := TJ4) (N := 4) hx hb hts (by decide +kernel) hown hK hP 1 rfl rfl 3 (by decide) (hts (.fieldLink RJ5 79 "java/lang/AbstractStringBuilder" "count" "I") (by decide +kernel)) (fun _ h9 => h9) rfl dJ5_append_cf1ce_35 ?_
  refine lv_iload_n hx hb dJ5_append_cf1ce_38 rfl (lv_at hl 0 rfl) ?_
  refine lv_iadd hx hb dJ5_append_cf1ce_39 ?_
  refine lv_topi (fun v4 ev4 => ?_)
  have ev4 : v4 = 18 := ev4.trans (by decide +kernel)
  subst ev4
  refine va_put (D := D) (ci := 1) (v := .int 18) (ty := .int) (C := RJ4) (T := TJ4) (N := 4) hx hb hts (by decide +kernel) tyJ4 tyJ4_ok nmJ4 hown hK hP hD hS 1 rfl rfl 3 (by decide) (hts (.fieldLink RJ5 79 "java/lang/AbstractStringBuilder" "count" "I") (by decide +kernel)) (fun _ h9 => h9) rfl (by decide +kernel) rfl rfl (Nat.le_of_ble_eq_true rfl) dJ5_append_cf1ce_40 (fun H locs hP hD hS => ?_)
  have hP : va_P D vwCl [(bv, .inl (y 0, 16, .inl zk14)), (h0, .inr (1, [.ref q3, .int 0, w1, .int 18])), (q3, .inl (y 0, 34, .inl zk16))] H := hP
  have hD : va_D A [(bv, .inl (y 0, 16, .inl zk14)), (h0, .inr (1, [.ref q3, .int 0, w1, .int 18])), (q3, .inl (y 0, 34, .inl zk16))] := hD
  refine lv_aload_n hx hb dJ5_append_cf1ce_43 rfl (lv_at hl 1 rfl) ?_
  have hP9 := hP.sub (ws' := [(h0, .inr (1, [.ref q3, .int 0, w1, .int 18])), (bv, .inl (y 0, 16, .inl zk14)), (q3, .inl (y 0, 34, .inl zk16))]) [1, 0, 2] rfl
  have hD9 := hD.sub (ws' := [(h0, .inr (1, [.ref q3, .int 0, w1, .int 18])), (bv, .inl (y 0, 16, .inl zk14)), (q3, .inl (y 0, 34, .inl zk16))]) [1, 0, 2] (by decide) rfl
  refine W.widen (k := 1) (n := 34) (Nat.le_of_ble_eq_true rfl) (Nat.le_of_ble_eq_true rfl) ?_
  exact W.aret (v := .ref h0) hx hb hr (Or.inl ⟨_, rfl⟩) (Or.inr ⟨_, rfl⟩) (fun t ht hW => ⟨⟨(some h0), (), rfl, rfl, q3, by rw [ht]; exact hP9, hD9⟩, hS.F ht⟩) hS.2.2 dJ5_append_cf1ce_44
def wz_c_SBapp_e1 : List Cond := .code yJ4_append_15ec4 cJ4_append_15ec4 2 (some (.object "java/lang/StringBuilder")) :: ([.methodLink RJ4 29 yJ5_append_cf1ce, .sameMethod RJ5 RJ5 "append" "(Ljava/lang/String;)Ljava/lang/AbstractStringBuilder;", .superclass RJ4 RJ5, .instanceMethod yJ5_append_cf1ce, .initialized RJ5] ++ (wz_c_ASBapp_e1 ++ ([])))
set_option maxRecDepth 100000 in
theorem gz_c_SBapp_e1_c_ASBapp_e1 : GoodIn wz_c_SBapp_e1 wz_c_ASBapp_e1 := goodIn_sub (fun w h => List.mem_cons_of_mem _ (List.mem_append_right _ (List.mem_append_left _ h))) (by decide +kernel)
set_option maxRecDepth 100000 in
theorem gv_c_SBapp_e1_c_ASBapp_e1_29 : GoodIn wz_c_SBapp_e1 (va_wsSU RJ4 29 yJ5_append_cf1ce wz_c_ASBapp_e1) := goodIn_app (goodIn_of _ (by decide +kernel)) gz_c_SBapp_e1_c_ASBapp_e1
set_option maxHeartbeats 4000000 in
set_option maxRecDepth 100000 in
theorem c_SBapp_e1 (l : Launch) (D : va_G) (y : Nat → ClassId) (sz : Nat) (h0 : Nat) (bv : Nat) (w1 : Value) (sx : Nat) (tx : Nat) : Met l yJ4_append_15ec4 wz_c_SBapp_e1 ({ frames := 5, cells := 1, slots := 34, locals := 127 }) (va_Pc [.ref h0, .ref sx] (zB D y [(h0, .inr (1, [.ref bv, .int 0, w1, .int 13])), (bv, .inl (y 0, 16, .inl zk14))] sz [] [("java/lang/String", "COMPACT_STRINGS", "Z", .int 1)] [] [.inr (.inl (sx, tx, 5, zs10))])) (va_Qq (fun (r : Option Nat) (_ : Unit) => r = some h0) (fun _ t => ∃ q2 : Nat, va_P D vwCl [(h0, .inr (1, [.ref q2, .int 0, w1, .int 18])), (bv, .inl (y 0, 16, .inl zk14)), (q2, .inl (y 0, 34, .inl zk16))] t.heap ∧ va_D (va_A [(h0, .inr (1, [.ref bv, .int 0, w1, .int 13])), (bv, .inl (y 0, 16, .inl zk14))] sz) [(h0, .inr (1, [.ref q2, .int 0, w1, .int 18])), (bv, .inl (y 0, 16, .inl zk14)), (q2, .inl (y 0, 34, .inl zk16))]) (va_A [(h0, .inr (1, [.ref bv, .int 0, w1, .int 13])), (bv, .inl (y 0, 16, .inl zk14))] sz)) 1 34 (va_A [(h0, .inr (1, [.ref bv, .int 0, w1, .int 13])), (bv, .inl (y 0, 16, .inl zk14))] sz) := by
  refine Met.ofW (cc := cJ4_append_15ec4) (maxL := 2) (ret := (some (.object "java/lang/StringBuilder"))) (by decide) rfl ?_
  intro p e s m args below meth c s₁ B hml hv
  obtain ⟨rfl, hsz, hP, hK, hD0, hN, hE, hO, hT, hG⟩ := hv
  have hx := B.exec
  have hb := B.bytes
  have hr := B.returns
  have hts := atoms_spec (ws := wz_c_SBapp_e1) B.pre
  have hown : s.vm.findClass RJ4 = some m.cls := findClass_of_methodNamed B.named
  have hlocks := B.notSynchronized
  subst hsz
  have hD := hD0.self (sz := s.heap.size)
  generalize hAe : va_A [(h0, .inr (1, [.ref bv, .int 0, w1, .int 13])), (bv, .inl (y 0, 16, .inl zk14))] s.heap.size = A at hD hE hT hG ⊢
  have hA : ∀ q : Nat, s.heap.size ≤ q → A q := fun q h => by rw [← hAe]; exact Or.inr h
  have hS : va_S A s.heap s.heap [] := va_S.rf
  have hl := lv_entry ([.ref h0, .ref sx]) (n := 2) (Nat.le_of_ble_eq_true rfl)
  rw [lg_entry_eq]
  generalize (lg_sl ([.ref h0, .ref sx]) ++ List.replicate (2 - (lg_sl ([.ref h0, .ref sx])).length) Slot.unset).toArray = ls at hl ⊢
  have hl : lv_has ls 2 [(0, .ref h0), (1, .ref sx)] := hl
  refine lv_aload_n hx hb dJ4_append_15ec4_0 rfl (lv_at hl 0 rfl) ?_
  refine lv_aload_n hx hb dJ4_append_15ec4_1 rfl (lv_at hl 1 rfl) ?_
  have hPc := hP.sub (ws' := [(h0, .inr (1, [.ref bv, .int 0, w1, .int 13])), (bv, .inl (y 0, 16, .inl zk14))]) [0, 1] rfl
  have hDc := hD.sub (ws' := [(h0, .inr (1, [.ref bv, .int 0, w1, .int 13])), (bv, .inl (y 0, 16, .inl zk14))]) [0, 1] (by decide) rfl
  have hFc := va_free (wc := [(h0, .inr (1, [.ref bv, .int 0, w1, .int 13])), (bv, .inl (y 0, 16, .inl zk14))]) hD hS hA [0, 1] rfl
  refine va_callq (va_runSU (hK.1 1 _ rfl).2 (As := [.ref sx]) (rest := []) ⟨hx, hb, hml, hown, hts⟩ (c_ASBapp_e1 l D y s.heap.size h0 bv w1 sx tx) (va_cwSU 1 hts gv_c_SBapp_e1_c_ASBapp_e1_29 rfl rfl rfl (by decide +kernel) ⟨(Nat.le_of_ble_eq_true rfl), (Nat.le_of_ble_eq_true rfl)⟩) (zB.preV hPc hDc hK hN hE hO hT hG hS hFc (fun _ h => nomatch h) (List.forall_mem_cons.mpr ⟨List.mem_of_getElem? (i := 0) rfl, (fun _ h => nomatch h)⟩) (fun _ h => nomatch h) (List.forall_mem_cons.mpr ⟨List.mem_of_getElem? (i := 0) rfl, (fun _ h => nomatch h)⟩) (va_recv hK hPc (ci := 1) (q0 := 0) rfl rfl)) rfl rfl hl.1 rfl (lv_room (Nat.le_of_ble_eq_true rfl)) dJ4_append_15ec4_2 ⟨(Nat.le_of_ble_eq_true rfl), (Nat.le_of_ble_eq_true rfl)⟩) hS (fun q _ h => hFc q h) hFc (fun r1 u t H1 locs ht hvm hw hB hz1 hk1 hS => ?_)
  obtain ⟨q2, hP1, hD1⟩ := hB
  rw [ht] at hP1
  obtain ⟨hP, hD⟩ := va_join (wr := []) (w1 := [(h0, .inr (1, [.ref q2, .int 0, w1, .int 18])), (bv, .inl (y 0, 16, .inl zk14)), (q2, .inl (y 0, 34, .inl zk16))]) hP hD [0, 1] [] rfl rfl (by decide) (by decide) hk1 hFc hP1 hD1
  generalize H1 = H at hP hS ⊢
  have hP : va_P D vwCl [(h0, .inr (1, [.ref q2, .int 0, w1, .int 18])), (bv, .inl (y 0, 16, .inl zk14)), (q2, .inl (y 0, 34, .inl zk16))] H := hP
  have hD : va_D A [(h0, .inr (1, [.ref q2, .int 0, w1, .int 18])), (bv, .inl (y 0, 16, .inl zk14)), (q2, .inl (y 0, 34, .inl zk16))] := hD
  have hw : r1 = some h0 := hw
  subst hw
  refine W.eq (g2 := F0 m 5 ls [.ref h0]) rfl ?_
  refine lv_pop hx hb dJ4_append_15ec4_5 rfl ?_
  refine lv_aload_n hx hb dJ4_append_15ec4_6 rfl (lv_at hl 0 rfl) ?_
  have hP9 := hP.sub (ws' := [(h0, .inr (1, [.ref q2, .int 0, w1, .int 18])), (bv, .inl (y 0, 16, .inl zk14)), (q2, .inl (y 0, 34, .inl zk16))]) [0, 1, 2] rfl
  have hD9 := hD.sub (ws' := [(h0, .inr (1, [.ref q2, .int 0, w1, .int 18])), (bv, .inl (y 0, 16, .inl zk14)), (q2, .inl (y 0, 34, .inl zk16))]) [0, 1, 2] (by decide) rfl
  refine W.widen (k := 1) (n := 34) (Nat.le_of_ble_eq_true rfl) (Nat.le_of_ble_eq_true rfl) ?_
  exact W.aret (v := .ref h0) hx hb hr (Or.inl ⟨_, rfl⟩) (Or.inr ⟨_, rfl⟩) (fun t ht hW => ⟨⟨(some h0), (), rfl, rfl, q2, by rw [ht]; exact hP9, hD9⟩, hS.F ht⟩) hS.2.2 dJ4_append_15ec4_7
def wz_c_chkLen_18 : List Cond := .code yJ7_checkLength_df160 cJ7_checkLength_df160 2 none :: ([] ++ ([]))
set_option maxHeartbeats 4000000 in
set_option maxRecDepth 100000 in
theorem c_chkLen_18 (l : Launch) (D : va_G) (y : Nat → ClassId) (sz : Nat)  : Met l yJ7_checkLength_df160 wz_c_chkLen_18 ({ frames := 0, cells := 0, slots := 0, locals := 0 }) (va_Pc [.int 0, .int 18] (zB D y [] sz [] [] [] [])) (va_Qv (fun _ : Unit => True) (fun _ t => va_P D vwCl [] t.heap ∧ va_D (va_A [] sz) []) (va_A [] sz)) 0 0 (va_A [] sz) := by
  refine Met.ofW (cc := cJ7_checkLength_df160) (maxL := 2) (ret := none) (by decide) rfl ?_
  intro p e s m args below meth c s₁ B hml hv
  obtain ⟨rfl, hsz, hP, hK, hD0, hN, hE, hO, hT, hG⟩ := hv
  have hx := B.exec
  have hb := B.bytes
  have hr := B.returns
  have hts := atoms_spec (ws := wz_c_chkLen_18) B.pre
  have hown : s.vm.findClass RJ7 = some m.cls := findClass_of_methodNamed B.named
  have hlocks := B.notSynchronized
  subst hsz
  have hD := hD0.self (sz := s.heap.size)
  generalize hAe : va_A [] s.heap.size = A at hD hE hT hG ⊢
  have hA : ∀ q : Nat, s.heap.size ≤ q → A q := fun q h => by rw [← hAe]; exact Or.inr h
  have hS : va_S A s.heap s.heap [] := va_S.rf
  have hl := lv_entry ([.int 0, .int 18]) (n := 2) (Nat.le_of_ble_eq_true rfl)
  rw [lg_entry_eq]
  generalize (lg_sl ([.int 0, .int 18]) ++ List.replicate (2 - (lg_sl ([.int 0, .int 18])).length) Slot.unset).toArray = ls at hl ⊢
  have hl : lv_has ls 2 [(0, .int 0), (1, .int 18)] := hl
  refine lv_iload_n hx hb dJ7_checkLength_df160_0 rfl (lv_at hl 1 rfl) ?_
  refine lv_iload_n hx hb dJ7_checkLength_df160_1 rfl (lv_at hl 0 rfl) ?_
  refine lv_icmp_ge (tgt := 37) hx hb dJ7_checkLength_df160_2 (by decide) (fun _ => ?_) (fun c9 => absurd (by decide) c9)
  have hP9 := hP.sub (ws' := []) [] rfl
  have hD9 := hD.sub (ws' := []) [] (by decide) rfl
  refine W.widen (k := 0) (n := 0) (Nat.le_of_ble_eq_true rfl) (Nat.le_of_ble_eq_true rfl) ?_
  exact W.vret hx hb hr (fun t ht hW => ⟨⟨(), rfl, trivial, by rw [ht]; exact hP9, hD9⟩, hS.F ht⟩) hS.2.2 dJ7_checkLength_df160_37
def zk17 : Nat → Int32 := va_cpy zk16 (fun _ => 0) (0 : Int32).toNatClampNeg (0 : Int32).toNatClampNeg (18 : Int32).toNatClampNeg
def wz_c_cRB_e1 : List Cond := .code yJ7_copyOfRangeByte_39247 cJ7_copyOfRangeByte_39247 5 (some (.array .byte)) :: ([.methodLink RJ7 343 yJ7_checkLength_df160, .static yJ7_checkLength_df160, .initialized RJ7, .arrayClass .byte, .methodLink RJ7 304 Lib.Math.min.name, .static Lib.Math.min.name, .initialized "java/lang/Math", .code Lib.Math.min.name Lib.Math.min.code 2 (some .int), .methodLink RJ7 150 arraycopyName, .native arraycopyName, .static arraycopyName, .initialized "java/lang/System"] ++ (wz_c_chkLen_18 ++ ([])))
set_option maxRecDepth 100000 in
theorem gz_c_cRB_e1_c_chkLen_18 : GoodIn wz_c_cRB_e1 wz_c_chkLen_18 := goodIn_sub (fun w h => List.mem_cons_of_mem _ (List.mem_append_right _ (List.mem_append_left _ h))) (by decide +kernel)
set_option maxRecDepth 100000 in
theorem gv_c_cRB_e1_c_chkLen_18_343 : GoodIn wz_c_cRB_e1 (va_wsS RJ7 343 yJ7_checkLength_df160 wz_c_chkLen_18) := goodIn_app (goodIn_of _ (by decide +kernel)) gz_c_cRB_e1_c_chkLen_18
set_option maxHeartbeats 4000000 in
set_option maxRecDepth 100000 in
theorem c_cRB_e1 (l : Launch) (D : va_G) (y : Nat → ClassId) (sz : Nat) (bv : Nat) : Met l yJ7_copyOfRangeByte_39247 wz_c_cRB_e1 ({ frames := 1, cells := 1, slots := 18, locals := 60 }) (va_Pc [.ref bv, .int 0, .int 18] (zB D y [(bv, .inl (y 0, 34, .inl zk16))] sz [] [] [] [])) (va_Qr (fun _ : Unit => True) (fun _ q2 t => va_P D vwCl [(bv, .inl (y 0, 34, .inl zk16)), (q2, .inl (y 0, 18, .inl zk17))] t.heap ∧ va_D (va_A [(bv, .inl (y 0, 34, .inl zk16))] sz) [(bv, .inl (y 0, 34, .inl zk16)), (q2, .inl (y 0, 18, .inl zk17))]) (va_A [(bv, .inl (y 0, 34, .inl zk16))] sz)) 1 18 (va_A [(bv, .inl (y 0, 34, .inl zk16))] sz) := by
  refine Met.ofW (cc := cJ7_copyOfRangeByte_39247) (maxL := 5) (ret := (some (.array .byte))) (by decide) rfl ?_
  intro p e s m args below meth c s₁ B hml hv
  obtain ⟨rfl, hsz, hP, hK, hD0, hN, hE, hO, hT, hG⟩ := hv
  have hx := B.exec
  have hb := B.bytes
  have hr := B.returns
  have hts := atoms_spec (ws := wz_c_cRB_e1) B.pre
  have hown : s.vm.findClass RJ7 = some m.cls := findClass_of_methodNamed B.named
  have hlocks := B.notSynchronized
  subst hsz
  have hD := hD0.self (sz := s.heap.size)
  generalize hAe : va_A [(bv, .inl (y 0, 34, .inl zk16))] s.heap.size = A at hD hE hT hG ⊢
  have hA : ∀ q : Nat, s.heap.size ≤ q → A q := fun q h => by rw [← hAe]; exact Or.inr h
  have hS : va_S A s.heap s.heap [] := va_S.rf
  have hl := lv_entry ([.ref bv, .int 0, .int 18]) (n := 5) (Nat.le_of_ble_eq_true rfl)
  rw [lg_entry_eq]
  generalize (lg_sl ([.ref bv, .int 0, .int 18]) ++ List.replicate (5 - (lg_sl ([.ref bv, .int 0, .int 18])).length) Slot.unset).toArray = ls at hl ⊢
  have hl : lv_has ls 5 [(0, .ref bv), (1, .int 0), (2, .int 18)] := hl
  refine lv_iload_n hx hb dJ7_copyOfRangeByte_39247_0 rfl (lv_at hl 1 rfl) ?_
  refine lv_iload_n hx hb dJ7_copyOfRangeByte_39247_1 rfl (lv_at hl 2 rfl) ?_
  have hPc := hP.sub (ws' := []) [] rfl
  have hDc := hD.sub (ws' := []) [] (by decide) rfl
  have hFc := va_free (wc := []) hD hS hA [] rfl
  refine va_callv (va_runS (As := [.int 0, .int 18]) (rest := []) ⟨hx, hb, hml, hown, hts⟩ (c_chkLen_18 l D y s.heap.size ) (va_cwS 2 hts gv_c_cRB_e1_c_chkLen_18_343 rfl rfl rfl (by decide +kernel) ⟨(Nat.le_of_ble_eq_true rfl), (Nat.le_of_ble_eq_true rfl)⟩) (zB.preS hPc hDc hK hN hE hO hT hG hS hFc (fun _ h => nomatch h) (fun _ h => nomatch h) (fun _ h => nomatch h) (fun _ h => nomatch h)) rfl rfl hl.1 rfl (lv_room (Nat.le_of_ble_eq_true rfl)) dJ7_copyOfRangeByte_39247_2 ⟨(Nat.le_of_ble_eq_true rfl), (Nat.le_of_ble_eq_true rfl)⟩) hS (fun q _ h => hFc q h) hFc (fun u t H1 locs ht hvm hw hB hz1 hk1 hS => ?_)
  obtain ⟨hP1, hD1⟩ := hB
  rw [ht] at hP1
  obtain ⟨hP, hD⟩ := va_join (wr := [(bv, .inl (y 0, 34, .inl zk16))]) (w1 := []) hP hD [] [0] rfl rfl (by decide) (by decide) hk1 hFc hP1 hD1
  generalize H1 = H at hP hS ⊢
  have hP : va_P D vwCl [(bv, .inl (y 0, 34, .inl zk16))] H := hP
  have hD : va_D A [(bv, .inl (y 0, 34, .inl zk16))] := hD
  refine lv_iload_n hx hb dJ7_copyOfRangeByte_39247_5 rfl (lv_at hl 2 rfl) ?_
  refine lv_iload_n hx hb dJ7_copyOfRangeByte_39247_6 rfl (lv_at hl 1 rfl) ?_
  refine lv_isub hx hb dJ7_copyOfRangeByte_39247_7 ?_
  refine lv_topi (fun v1 ev1 => ?_)
  have ev1 : v1 = 18 := ev1.trans (by decide +kernel)
  subst ev1
  refine lv_istore_n (lv' := [(3, .int 18), (0, .ref bv), (1, .int 0), (2, .int 18)]) hx hb dJ7_copyOfRangeByte_39247_8 rfl hl (by decide) rfl (fun ls hl => ?_)
  refine lv_iload_n hx hb dJ7_copyOfRangeByte_39247_9 rfl (lv_at hl 0 rfl) ?_
  refine zz_newa (atype := .byte) (n := 18) (N' := 18) (a0 := (18, .inl (fun _ => 0))) (ty := .byte) hx hb (hts (.arrayClass .byte) (by decide +kernel)) rfl hK 0 rfl hP hD hS hA (zz_aB 18) (by decide +kernel) (by decide +kernel) (by decide +kernel) (Nat.le_of_ble_eq_true rfl) (Nat.le_of_ble_eq_true rfl) dJ7_copyOfRangeByte_39247_10 (fun q2 H hP hD hS => ?_)
  have hP : va_P D vwCl [(bv, .inl (y 0, 34, .inl zk16)), (q2, .inl (y 0, 18, .inl (fun _ => 0)))] H := hP
  have hD : va_D A [(bv, .inl (y 0, 34, .inl zk16)), (q2, .inl (y 0, 18, .inl (fun _ => 0)))] := hD
  refine lv_astore (lv' := [(4, .ref q2), (3, .int 18), (0, .ref bv), (1, .int 0), (2, .int 18)]) hx hb dJ7_copyOfRangeByte_39247_12 hl (by decide) rfl (fun ls hl => ?_)
  refine lv_aload_n hx hb dJ7_copyOfRangeByte_39247_14 rfl (lv_at hl 2 rfl) ?_
  refine lv_iload_n hx hb dJ7_copyOfRangeByte_39247_15 rfl (lv_at hl 3 rfl) ?_
  refine lv_aload hx hb dJ7_copyOfRangeByte_39247_16 (lv_at hl 0 rfl) ?_
  refine lv_iconst (v := 0) hx hb dJ7_copyOfRangeByte_39247_18 (by decide) ?_
  refine lv_aload_n hx hb dJ7_copyOfRangeByte_39247_19 rfl (lv_at hl 2 rfl) ?_
  refine va_alen (v := 34) hx hb hK hP 0 0 rfl rfl (show Int32.ofNat 34 = (34 : Int32) from by decide) dJ7_copyOfRangeByte_39247_20 ?_
  refine lv_iload_n hx hb dJ7_copyOfRangeByte_39247_21 rfl (lv_at hl 3 rfl) ?_
  refine lv_isub hx hb dJ7_copyOfRangeByte_39247_22 ?_
  refine lv_topi (fun v3 ev3 => ?_)
  have ev3 : v3 = 34 := ev3.trans (by decide +kernel)
  subst ev3
  refine lv_iload_n hx hb dJ7_copyOfRangeByte_39247_23 rfl (lv_at hl 1 rfl) ?_
  refine va_mmin hx hb (hml.trans hl.1.symm) hown (hts (.methodLink RJ7 304 Lib.Math.min.name) (by decide +kernel)) (hts (.static Lib.Math.min.name) (by decide +kernel)) (hts (.initialized "java/lang/Math") (by decide +kernel)) (hts (.code Lib.Math.min.name Lib.Math.min.code 2 (some .int)) (by decide +kernel)) (Nat.le_of_ble_eq_true rfl) (Nat.le_of_ble_eq_true rfl) (Nat.le_of_ble_eq_true rfl) (Nat.le_of_ble_eq_true rfl) dJ7_copyOfRangeByte_39247_24 ?_
  refine lv_topi (fun v4 ev4 => ?_)
  have ev4 : v4 = 18 := ev4.trans (by decide +kernel)
  subst ev4
  refine va_copyi (ty := .byte) (sp := 0) (dp := 0) (n := 18) hx hb (hml.trans hl.1.symm) hown (hts (.methodLink RJ7 150 arraycopyName) (by decide +kernel)) (hts (.native arraycopyName) (by decide +kernel)) (hts (.static arraycopyName) (by decide +kernel)) (hts (.initialized "java/lang/System") (by decide +kernel)) hK hP hD hS 0 1 0 0 rfl rfl rfl rfl rfl (by decide +kernel) (by decide +kernel) (by decide +kernel) (by decide +kernel) (by decide +kernel) (by decide +kernel) (Nat.le_of_ble_eq_true rfl) (Nat.le_of_ble_eq_true rfl) dJ7_copyOfRangeByte_39247_27 (fun H locs hP hD hS => ?_)
  have hP : va_P D vwCl [(bv, .inl (y 0, 34, .inl zk16)), (q2, .inl (y 0, 18, .inl zk17))] H := hP
  have hD : va_D A [(bv, .inl (y 0, 34, .inl zk16)), (q2, .inl (y 0, 18, .inl zk17))] := hD
  refine lv_aload hx hb dJ7_copyOfRangeByte_39247_30 (lv_at hl 0 rfl) ?_
  have hP9 := hP.sub (ws' := [(bv, .inl (y 0, 34, .inl zk16)), (q2, .inl (y 0, 18, .inl zk17))]) [0, 1] rfl
  have hD9 := hD.sub (ws' := [(bv, .inl (y 0, 34, .inl zk16)), (q2, .inl (y 0, 18, .inl zk17))]) [0, 1] (by decide) rfl
  refine W.widen (k := 1) (n := 18) (Nat.le_of_ble_eq_true rfl) (Nat.le_of_ble_eq_true rfl) ?_
  exact W.aret (v := .ref q2) hx hb hr (Or.inr ⟨_, rfl⟩) (Or.inr ⟨_, rfl⟩) (fun t ht hW => ⟨⟨(), q2, rfl, trivial, by rw [ht]; exact hP9, hD9⟩, hS.F ht⟩) hS.2.2 dJ7_copyOfRangeByte_39247_32
def wz_c_cR_e1 : List Cond := .code yJ7_copyOfRange_39247 cJ7_copyOfRange_39247 3 (some (.array .byte)) :: ([.methodLink RJ7 339 yJ7_copyOfRangeByte_39247, .static yJ7_copyOfRangeByte_39247, .initialized RJ7] ++ (wz_c_cRB_e1 ++ ([])))
set_option maxRecDepth 100000 in
theorem gz_c_cR_e1_c_cRB_e1 : GoodIn wz_c_cR_e1 wz_c_cRB_e1 := goodIn_sub (fun w h => List.mem_cons_of_mem _ (List.mem_append_right _ (List.mem_append_left _ h))) (by decide +kernel)
set_option maxRecDepth 100000 in
theorem gv_c_cR_e1_c_cRB_e1_339 : GoodIn wz_c_cR_e1 (va_wsS RJ7 339 yJ7_copyOfRangeByte_39247 wz_c_cRB_e1) := goodIn_app (goodIn_of _ (by decide +kernel)) gz_c_cR_e1_c_cRB_e1
set_option maxHeartbeats 4000000 in
set_option maxRecDepth 100000 in
theorem c_cR_e1 (l : Launch) (D : va_G) (y : Nat → ClassId) (sz : Nat) (bv : Nat) : Met l yJ7_copyOfRange_39247 wz_c_cR_e1 ({ frames := 2, cells := 1, slots := 18, locals := 84 }) (va_Pc [.ref bv, .int 0, .int 18] (zB D y [(bv, .inl (y 0, 34, .inl zk16))] sz [] [] [] [])) (va_Qr (fun _ : Unit => True) (fun _ r1 t => va_P D vwCl [(bv, .inl (y 0, 34, .inl zk16)), (r1, .inl (y 0, 18, .inl zk17))] t.heap ∧ va_D (va_A [(bv, .inl (y 0, 34, .inl zk16))] sz) [(bv, .inl (y 0, 34, .inl zk16)), (r1, .inl (y 0, 18, .inl zk17))]) (va_A [(bv, .inl (y 0, 34, .inl zk16))] sz)) 1 18 (va_A [(bv, .inl (y 0, 34, .inl zk16))] sz) := by
  refine Met.ofW (cc := cJ7_copyOfRange_39247) (maxL := 3) (ret := (some (.array .byte))) (by decide) rfl ?_
  intro p e s m args below meth c s₁ B hml hv
  obtain ⟨rfl, hsz, hP, hK, hD0, hN, hE, hO, hT, hG⟩ := hv
  have hx := B.exec
  have hb := B.bytes
  have hr := B.returns
  have hts := atoms_spec (ws := wz_c_cR_e1) B.pre
  have hown : s.vm.findClass RJ7 = some m.cls := findClass_of_methodNamed B.named
  have hlocks := B.notSynchronized
  subst hsz
  have hD := hD0.self (sz := s.heap.size)
  generalize hAe : va_A [(bv, .inl (y 0, 34, .inl zk16))] s.heap.size = A at hD hE hT hG ⊢
  have hA : ∀ q : Nat, s.heap.size ≤ q → A q := fun q h => by rw [← hAe]; exact Or.inr h
  have hS : va_S A s.heap s.heap [] := va_S.rf
  have hl := lv_entry ([.ref bv, .int 0, .int 18]) (n := 3) (Nat.le_of_ble_eq_true rfl)
  rw [lg_entry_eq]
  generalize (lg_sl ([.ref bv, .int 0, .int 18]) ++ List.replicate (3 - (lg_sl ([.ref bv, .int 0, .int 18])).length) Slot.unset).toArray = ls at hl ⊢
  have hl : lv_has ls 3 [(0, .ref bv), (1, .int 0), (2, .int 18)] := hl
  refine lv_iload_n hx hb dJ7_copyOfRange_39247_0 rfl (lv_at hl 1 rfl) ?_
  refine lv_if_ne (tgt := 10) hx hb dJ7_copyOfRange_39247_1 (by decide) (fun c9 => absurd (by decide) c9) (fun _ => ?_)
  refine lv_iload_n hx hb dJ7_copyOfRange_39247_4 rfl (lv_at hl 2 rfl) ?_
  refine lv_aload_n hx hb dJ7_copyOfRange_39247_5 rfl (lv_at hl 0 rfl) ?_
  refine va_alen (v := 34) hx hb hK hP 0 0 rfl rfl (show Int32.ofNat 34 = (34 : Int32) from by decide) dJ7_copyOfRange_39247_6 ?_
  refine lv_icmp_eq (tgt := 17) hx hb dJ7_copyOfRange_39247_7 (by decide) (fun c9 => absurd c9 (by decide)) (fun _ => ?_)
  refine lv_aload_n hx hb dJ7_copyOfRange_39247_10 rfl (lv_at hl 0 rfl) ?_
  refine lv_iload_n hx hb dJ7_copyOfRange_39247_11 rfl (lv_at hl 1 rfl) ?_
  refine lv_iload_n hx hb dJ7_copyOfRange_39247_12 rfl (lv_at hl 2 rfl) ?_
  have hPc := hP.sub (ws' := [(bv, .inl (y 0, 34, .inl zk16))]) [0] rfl
  have hDc := hD.sub (ws' := [(bv, .inl (y 0, 34, .inl zk16))]) [0] (by decide) rfl
  have hFc := va_free (wc := [(bv, .inl (y 0, 34, .inl zk16))]) hD hS hA [0] rfl
  refine va_callr (va_runS (As := [.ref bv, .int 0, .int 18]) (rest := []) ⟨hx, hb, hml, hown, hts⟩ (c_cRB_e1 l D y s.heap.size bv) (va_cwS 3 hts gv_c_cR_e1_c_cRB_e1_339 rfl rfl rfl (by decide +kernel) ⟨(Nat.le_of_ble_eq_true rfl), (Nat.le_of_ble_eq_true rfl)⟩) (zB.preS hPc hDc hK hN hE hO hT hG hS hFc (fun _ h => nomatch h) (fun _ h => nomatch h) (fun _ h => nomatch h) (fun _ h => nomatch h)) rfl rfl hl.1 rfl (lv_room (Nat.le_of_ble_eq_true rfl)) dJ7_copyOfRange_39247_13 ⟨(Nat.le_of_ble_eq_true rfl), (Nat.le_of_ble_eq_true rfl)⟩) hS (fun q _ h => hFc q h) hFc (fun u r1 t H1 locs ht hvm hw hB hz1 hk1 hS => ?_)
  obtain ⟨hP1, hD1⟩ := hB
  rw [ht] at hP1
  obtain ⟨hP, hD⟩ := va_join (wr := []) (w1 := [(bv, .inl (y 0, 34, .inl zk16)), (r1, .inl (y 0, 18, .inl zk17))]) hP hD [0] [] rfl rfl (by decide) (by decide) hk1 hFc hP1 hD1
  generalize H1 = H at hP hS ⊢
  have hP : va_P D vwCl [(bv, .inl (y 0, 34, .inl zk16)), (r1, .inl (y 0, 18, .inl zk17))] H := hP
  have hD : va_D A [(bv, .inl (y 0, 34, .inl zk16)), (r1, .inl (y 0, 18, .inl zk17))] := hD
  have hP9 := hP.sub (ws' := [(bv, .inl (y 0, 34, .inl zk16)), (r1, .inl (y 0, 18, .inl zk17))]) [0, 1] rfl
  have hD9 := hD.sub (ws' := [(bv, .inl (y 0, 34, .inl zk16)), (r1, .inl (y 0, 18, .inl zk17))]) [0, 1] (by decide) rfl
  refine W.widen (k := 1) (n := 18) (Nat.le_of_ble_eq_true rfl) (Nat.le_of_ble_eq_true rfl) ?_
  exact W.aret (v := .ref r1) hx hb hr (Or.inr ⟨_, rfl⟩) (Or.inr ⟨_, rfl⟩) (fun t ht hW => ⟨⟨(), r1, rfl, trivial, by rw [ht]; exact hP9, hD9⟩, hS.F ht⟩) hS.2.2 dJ7_copyOfRange_39247_16
def wz_c_Si1_e1 : List Cond := .code yJ0_init_db425 cJ0_init_db425 5 none :: ([.methodLink RJ0 1 objectInit, .instanceMethod objectInit, .code objectInit ⟨#[0xb1]⟩ 1 none, .methodLink RJ0 552 ⟨"java/lang/AbstractStringBuilder", "getValue", "()[B"⟩, .sameMethod "java/lang/AbstractStringBuilder" "java/lang/AbstractStringBuilder" "getValue" "()[B", .selects RJ4 ⟨"java/lang/AbstractStringBuilder", "getValue", "()[B"⟩ yJ5_getValue_6d5f1, .instanceMethod yJ5_getValue_6d5f1, .initialized RJ5, .methodLink RJ0 549 ⟨"java/lang/AbstractStringBuilder", "length", "()I"⟩, .sameMethod RJ5 RJ5 "length" "()I", .instanceMethod yJ5_length_8abf5, .selects RJ4 ⟨"java/lang/AbstractStringBuilder", "length", "()I"⟩ yJ4_length_8abf5, .instanceMethod yJ4_length_8abf5, .initialized RJ4, .code yJ5_length_8abf5 cJ5_length_8abf5 1 (some .int), .methodLink RJ0 1047 ⟨"java/lang/AbstractStringBuilder", "isLatin1", "()Z"⟩, .sameMethod "java/lang/AbstractStringBuilder" "java/lang/AbstractStringBuilder" "isLatin1" "()Z", .selects RJ4 ⟨"java/lang/AbstractStringBuilder", "isLatin1", "()Z"⟩ yJ5_isLatin1_aae02, .instanceMethod yJ5_isLatin1_aae02, .fieldLink RJ0 15 "java/lang/String" "coder" "B", .methodLink RJ0 54 yJ7_copyOfRange_39247, .static yJ7_copyOfRange_39247, .initialized RJ7, .fieldLink RJ0 9 "java/lang/String" "value" "[B"] ++ (wsJ00 ++ (wz_c_getValue ++ (wz_c_SB_length ++ (wz_c_ASB_isLatin1 ++ (wz_c_cR_e1 ++ ([])))))))
set_option maxRecDepth 100000 in
theorem gz_c_Si1_e1_c_getValue : GoodIn wz_c_Si1_e1 wz_c_getValue := goodIn_sub (fun w h => List.mem_cons_of_mem _ (List.mem_append_right _ (List.mem_append_right _ (List.mem_append_left _ h)))) (by decide +kernel)
set_option maxRecDepth 100000 in
theorem gz_c_Si1_e1_c_SB_length : GoodIn wz_c_Si1_e1 wz_c_SB_length := goodIn_sub (fun w h => List.mem_cons_of_mem _ (List.mem_append_right _ (List.mem_append_right _ (List.mem_append_right _ (List.mem_append_left _ h))))) (by decide +kernel)
set_option maxRecDepth 100000 in
theorem gz_c_Si1_e1_c_ASB_isLatin1 : GoodIn wz_c_Si1_e1 wz_c_ASB_isLatin1 := goodIn_sub (fun w h => List.mem_cons_of_mem _ (List.mem_append_right _ (List.mem_append_right _ (List.mem_append_right _ (List.mem_append_right _ (List.mem_append_left _ h)))))) (by decide +kernel)
set_option maxRecDepth 100000 in
theorem gz_c_Si1_e1_c_cR_e1 : GoodIn wz_c_Si1_e1 wz_c_cR_e1 := goodIn_sub (fun w h => List.mem_cons_of_mem _ (List.mem_append_right _ (List.mem_append_right _ (List.mem_append_right _ (List.mem_append_right _ (List.mem_append_right _ (List.mem_append_left _ h))))))) (by decide +kernel)
set_option maxRecDepth 100000 in
theorem gv_c_Si1_e1_c_getValue_552 : GoodIn wz_c_Si1_e1 (va_wsU RJ0 552 RJ4 "java/lang/AbstractStringBuilder" ⟨"java/lang/AbstractStringBuilder", "getValue", "()[B"⟩ yJ5_getValue_6d5f1 wz_c_getValue) := goodIn_app (goodIn_of _ (by decide +kernel)) gz_c_Si1_e1_c_getValue
set_option maxRecDepth 100000 in
theorem gv_c_Si1_e1_c_SB_length_549 : GoodIn wz_c_Si1_e1 (va_wsO RJ0 549 RJ4 RJ5 ⟨"java/lang/AbstractStringBuilder", "length", "()I"⟩ yJ4_length_8abf5 wz_c_SB_length) := goodIn_app (goodIn_of _ (by decide +kernel)) gz_c_Si1_e1_c_SB_length
set_option maxRecDepth 100000 in
theorem gv_c_Si1_e1_c_ASB_isLatin1_1047 : GoodIn wz_c_Si1_e1 (va_wsU RJ0 1047 RJ4 "java/lang/AbstractStringBuilder" ⟨"java/lang/AbstractStringBuilder", "isLatin1", "()Z"⟩ yJ5_isLatin1_aae02 wz_c_ASB_isLatin1) := goodIn_app (goodIn_of _ (by decide +kernel)) gz_c_Si1_e1_c_ASB_isLatin1
set_option maxRecDepth 100000 in
theorem gv_c_Si1_e1_c_cR_e1_54 : GoodIn wz_c_Si1_e1 (va_wsS RJ0 54 yJ7_copyOfRange_39247 wz_c_cR_e1) := goodIn_app (goodIn_of _ (by decide +kernel)) gz_c_Si1_e1_c_cR_e1
set_option maxHeartbeats 4000000 in
set_option maxRecDepth 100000 in
theorem c_Si1_e1 (l : Launch) (D : va_G) (y : Nat → ClassId) (sz : Nat) (h0 : Nat) (sb : Nat) (bv : Nat) (w1 : Value) : Met l yJ0_init_db425 wz_c_Si1_e1 ({ frames := 3, cells := 1, slots := 18, locals := 106 }) (va_Pc [.ref h0, .ref sb, .null] (zB D y [(h0, .inr (0, [.null, .int 0, .int 0, .int 0])), (sb, .inr (1, [.ref bv, .int 0, w1, .int 18])), (bv, .inl (y 0, 34, .inl zk16))] sz [] [("java/lang/String", "COMPACT_STRINGS", "Z", .int 1)] [] [])) (va_Qv (fun _ : Unit => True) (fun _ t => ∃ r4 : Nat, va_P D vwCl [(h0, .inr (0, [.ref r4, .int 0, .int 0, .int 0])), (sb, .inr (1, [.ref bv, .int 0, w1, .int 18])), (bv, .inl (y 0, 34, .inl zk16)), (r4, .inl (y 0, 18, .inl zk17))] t.heap ∧ va_D (va_A [(h0, .inr (0, [.null, .int 0, .int 0, .int 0])), (sb, .inr (1, [.ref bv, .int 0, w1, .int 18])), (bv, .inl (y 0, 34, .inl zk16))] sz) [(h0, .inr (0, [.ref r4, .int 0, .int 0, .int 0])), (sb, .inr (1, [.ref bv, .int 0, w1, .int 18])), (bv, .inl (y 0, 34, .inl zk16)), (r4, .inl (y 0, 18, .inl zk17))]) (va_A [(h0, .inr (0, [.null, .int 0, .int 0, .int 0])), (sb, .inr (1, [.ref bv, .int 0, w1, .int 18])), (bv, .inl (y 0, 34, .inl zk16))] sz)) 1 18 (va_A [(h0, .inr (0, [.null, .int 0, .int 0, .int 0])), (sb, .inr (1, [.ref bv, .int 0, w1, .int 18])), (bv, .inl (y 0, 34, .inl zk16))] sz) := by
  refine Met.ofW (cc := cJ0_init_db425) (maxL := 5) (ret := none) (by decide) rfl ?_
  intro p e s m args below meth c s₁ B hml hv
  obtain ⟨rfl, hsz, hP, hK, hD0, hN, hE, hO, hT, hG⟩ := hv
  have hx := B.exec
  have hb := B.bytes
  have hr := B.returns
  have hts := atoms_spec (ws := wz_c_Si1_e1) B.pre
  have hown : s.vm.findClass RJ0 = some m.cls := findClass_of_methodNamed B.named
  have hlocks := B.notSynchronized
  have hin : meth.name = "<init>" := (name_of_methodNamed B.named B.method).1
  subst hsz
  have hD := hD0.self (sz := s.heap.size)
  generalize hAe : va_A [(h0, .inr (0, [.null, .int 0, .int 0, .int 0])), (sb, .inr (1, [.ref bv, .int 0, w1, .int 18])), (bv, .inl (y 0, 34, .inl zk16))] s.heap.size = A at hD hE hT hG ⊢
  have hA : ∀ q : Nat, s.heap.size ≤ q → A q := fun q h => by rw [← hAe]; exact Or.inr h
  have hS : va_S A s.heap s.heap [] := va_S.rf
  have hl := lv_entry ([.ref h0, .ref sb, .null]) (n := 5) (Nat.le_of_ble_eq_true rfl)
  rw [lg_entry_eq]
  generalize (lg_sl ([.ref h0, .ref sb, .null]) ++ List.replicate (5 - (lg_sl ([.ref h0, .ref sb, .null])).length) Slot.unset).toArray = ls at hl ⊢
  have hl : lv_has ls 5 [(0, .ref h0), (1, .ref sb), (2, .null)] := hl
  refine lv_aload_n hx hb dJ0_init_db425_0 rfl (lv_at hl 0 rfl) ?_
  refine W.objInit hx hb hown (hts (.methodLink RJ0 1 objectInit) (by decide +kernel)) (hts (.instanceMethod objectInit) (by decide +kernel)) (hts (.code objectInit ⟨#[0xb1]⟩ 1 none) (by decide +kernel)) rfl (by rw [hml]; exact hl.1) rfl dJ0_init_db425_1 (Nat.le_of_ble_eq_true rfl) (Nat.le_of_ble_eq_true rfl) ?_
  refine W.eq (g2 := F0 m 4 ls []) rfl ?_
  refine lv_aload_n hx hb dJ0_init_db425_4 rfl (lv_at hl 1 rfl) ?_
  have hPc := hP.sub (ws' := [(sb, .inr (1, [.ref bv, .int 0, w1, .int 18]))]) [1] rfl
  have hDc := hD.sub (ws' := [(sb, .inr (1, [.ref bv, .int 0, w1, .int 18]))]) [1] (by decide) rfl
  have hFc := va_free (wc := [(sb, .inr (1, [.ref bv, .int 0, w1, .int 18]))]) hD hS hA [1] rfl
  refine va_callq (va_runU (As := []) (rest := []) ⟨hx, hb, hml, hown, hts⟩ (c_getValue l D y s.heap.size sb bv ((.int 0)) w1 ((.int 18))) (va_cwU 0 hts gv_c_Si1_e1_c_getValue_552 rfl rfl rfl rfl (by decide +kernel) ⟨(Nat.le_of_ble_eq_true rfl), (Nat.le_of_ble_eq_true rfl)⟩) (zB.preV hPc hDc hK hN hE hO hT hG hS hFc (fun _ h => nomatch h) (fun _ h => nomatch h) (fun _ h => nomatch h) (fun _ h => nomatch h) (va_recv hK hPc (ci := 1) (q0 := 0) rfl rfl)) rfl rfl hl.1 rfl (lv_room (Nat.le_of_ble_eq_true rfl)) dJ0_init_db425_5 ⟨(Nat.le_of_ble_eq_true rfl), (Nat.le_of_ble_eq_true rfl)⟩) hS (fun q _ h => hFc q h) hFc (fun r1 u t H1 locs ht hvm hw hB hz1 hk1 hS => ?_)
  obtain ⟨hP1, hD1⟩ := hB
  rw [ht] at hP1
  obtain ⟨hP, hD⟩ := va_join (wr := [(h0, .inr (0, [.null, .int 0, .int 0, .int 0])), (bv, .inl (y 0, 34, .inl zk16))]) (w1 := [(sb, .inr (1, [.ref bv, .int 0, w1, .int 18]))]) hP hD [1] [0, 2] rfl rfl (by decide) (by decide) hk1 hFc hP1 hD1
  generalize H1 = H at hP hS ⊢
  have hP : va_P D vwCl [(h0, .inr (0, [.null, .int 0, .int 0, .int 0])), (bv, .inl (y 0, 34, .inl zk16)), (sb, .inr (1, [.ref bv, .int 0, w1, .int 18]))] H := hP
  have hD : va_D A [(h0, .inr (0, [.null, .int 0, .int 0, .int 0])), (bv, .inl (y 0, 34, .inl zk16)), (sb, .inr (1, [.ref bv, .int 0, w1, .int 18]))] := hD
  have hw : r1 = some bv := hw
  subst hw
  refine W.eq (g2 := F0 m 8 ls [.ref bv]) rfl ?_
  refine lv_astore_n (lv' := [(3, .ref bv), (0, .ref h0), (1, .ref sb), (2, .null)]) hx hb dJ0_init_db425_8 rfl hl (by decide) rfl (fun ls hl => ?_)
  refine lv_aload_n hx hb dJ0_init_db425_9 rfl (lv_at hl 2 rfl) ?_
  have hPc := hP.sub (ws' := [(sb, .inr (1, [.ref bv, .int 0, w1, .int 18]))]) [2] rfl
  have hDc := hD.sub (ws' := [(sb, .inr (1, [.ref bv, .int 0, w1, .int 18]))]) [2] (by decide) rfl
  have hFc := va_free (wc := [(sb, .inr (1, [.ref bv, .int 0, w1, .int 18]))]) hD hS hA [2] rfl
  refine va_calli (va_runU (As := []) (rest := []) ⟨hx, hb, hml, hown, hts⟩ (c_SB_length l D y H.size sb ((.ref bv)) ((.int 0)) w1 18) (va_cwO 0 hts gv_c_Si1_e1_c_SB_length_549 rfl rfl rfl (b0 := cJ5_length_8abf5) (m0 := 1) (r0 := (some .int)) (by decide +kernel) (by decide +kernel) ⟨(Nat.le_of_ble_eq_true rfl), (Nat.le_of_ble_eq_true rfl)⟩) (zB.preV hPc hDc hK hN hE hO hT hG hS hFc (fun _ h => nomatch h) (fun _ h => nomatch h) (fun _ h => nomatch h) (fun _ h => nomatch h) (va_recv hK hPc (ci := 1) (q0 := 0) rfl rfl)) rfl rfl hl.1 rfl (lv_room (Nat.le_of_ble_eq_true rfl)) dJ0_init_db425_10 ⟨(Nat.le_of_ble_eq_true rfl), (Nat.le_of_ble_eq_true rfl)⟩) hS (fun q _ h => hFc q h) hFc (fun r2 u t H1 locs ht hvm hw hB hz1 hk1 hS => ?_)
  obtain ⟨hP1, hD1⟩ := hB
  rw [ht] at hP1
  obtain ⟨hP, hD⟩ := va_join (wr := [(h0, .inr (0, [.null, .int 0, .int 0, .int 0])), (bv, .inl (y 0, 34, .inl zk16))]) (w1 := [(sb, .inr (1, [.ref bv, .int 0, w1, .int 18]))]) hP hD [2] [0, 1] rfl rfl (by decide) (by decide) hk1 hFc hP1 hD1
  generalize H1 = H at hP hS ⊢
  have hP : va_P D vwCl [(h0, .inr (0, [.null, .int 0, .int 0, .int 0])), (bv, .inl (y 0, 34, .inl zk16)), (sb, .inr (1, [.ref bv, .int 0, w1, .int 18]))] H := hP
  have hD : va_D A [(h0, .inr (0, [.null, .int 0, .int 0, .int 0])), (bv, .inl (y 0, 34, .inl zk16)), (sb, .inr (1, [.ref bv, .int 0, w1, .int 18]))] := hD
  have hw : r2 = 18 := hw
  subst hw
  refine lv_istore (lv' := [(4, .int 18), (3, .ref bv), (0, .ref h0), (1, .ref sb), (2, .null)]) hx hb dJ0_init_db425_13 hl (by decide) rfl (fun ls hl => ?_)
  refine lv_aload_n hx hb dJ0_init_db425_15 rfl (lv_at hl 3 rfl) ?_
  have hPc := hP.sub (ws' := [(sb, .inr (1, [.ref bv, .int 0, w1, .int 18]))]) [2] rfl
  have hDc := hD.sub (ws' := [(sb, .inr (1, [.ref bv, .int 0, w1, .int 18]))]) [2] (by decide) rfl
  have hFc := va_free (wc := [(sb, .inr (1, [.ref bv, .int 0, w1, .int 18]))]) hD hS hA [2] rfl
  refine va_calli (va_runU (As := []) (rest := []) ⟨hx, hb, hml, hown, hts⟩ (c_ASB_isLatin1 l D y H.size sb ((.ref bv)) w1 ((.int 18))) (va_cwU 0 hts gv_c_Si1_e1_c_ASB_isLatin1_1047 rfl rfl rfl rfl (by decide +kernel) ⟨(Nat.le_of_ble_eq_true rfl), (Nat.le_of_ble_eq_true rfl)⟩) (zB.preV hPc hDc hK hN hE hO hT hG hS hFc (fun _ h => nomatch h) (List.forall_mem_cons.mpr ⟨List.mem_of_getElem? (i := 0) rfl, (fun _ h => nomatch h)⟩) (fun _ h => nomatch h) (fun _ h => nomatch h) (va_recv hK hPc (ci := 1) (q0 := 0) rfl rfl)) rfl rfl hl.1 rfl (lv_room (Nat.le_of_ble_eq_true rfl)) dJ0_init_db425_16 ⟨(Nat.le_of_ble_eq_true rfl), (Nat.le_of_ble_eq_true rfl)⟩) hS (fun q _ h => hFc q h) hFc (fun r3 u t H1 locs ht hvm hw hB hz1 hk1 hS => ?_)
  obtain ⟨hP1, hD1⟩ := hB
  rw [ht] at hP1
  obtain ⟨hP, hD⟩ := va_join (wr := [(h0, .inr (0, [.null, .int 0, .int 0, .int 0])), (bv, .inl (y 0, 34, .inl zk16))]) (w1 := [(sb, .inr (1, [.ref bv, .int 0, w1, .int 18]))]) hP hD [2] [0, 1] rfl rfl (by decide) (by decide) hk1 hFc hP1 hD1
  generalize H1 = H at hP hS ⊢
  have hP : va_P D vwCl [(h0, .inr (0, [.null, .int 0, .int 0, .int 0])), (bv, .inl (y 0, 34, .inl zk16)), (sb, .inr (1, [.ref bv, .int 0, w1, .int 18]))] H := hP
  have hD : va_D A [(h0, .inr (0, [.null, .int 0, .int 0, .int 0])), (bv, .inl (y 0, 34, .inl zk16)), (sb, .inr (1, [.ref bv, .int 0, w1, .int 18]))] := hD
  have hw : r3 = 1 := hw
  subst hw
  refine lv_if_eq (tgt := 41) hx hb dJ0_init_db425_19 (by decide) (fun c9 => absurd c9 (by decide)) (fun _ => ?_)
  refine lv_aload_n hx hb dJ0_init_db425_22 rfl (lv_at hl 2 rfl) ?_
  refine lv_iconst (v := 0) hx hb dJ0_init_db425_23 (by decide) ?_
  refine va_putF (D := D) (ci := 0) (v := .int 0) (ty := .byte) (C := RJ0) (T := TJ0) (N := 4) hx hb hts (by decide +kernel) tyJ0 tyJ0_ok nmJ0 hown hK hP hD hS 0 rfl rfl 1 (by decide) (hts (.fieldLink RJ0 15 "java/lang/String" "coder" "B") (by decide +kernel)) (fun _ h9 => h9) rfl hin rfl (by decide +kernel) rfl rfl (Nat.le_of_ble_eq_true rfl) dJ0_init_db425_24 (fun H locs hP hD hS => ?_)
  have hP : va_P D vwCl [(h0, .inr (0, [.null, .int 0, .int 0, .int 0])), (bv, .inl (y 0, 34, .inl zk16)), (sb, .inr (1, [.ref bv, .int 0, w1, .int 18]))] H := hP
  have hD : va_D A [(h0, .inr (0, [.null, .int 0, .int 0, .int 0])), (bv, .inl (y 0, 34, .inl zk16)), (sb, .inr (1, [.ref bv, .int 0, w1, .int 18]))] := hD
  refine lv_aload_n hx hb dJ0_init_db425_27 rfl (lv_at hl 2 rfl) ?_
  refine lv_aload_n hx hb dJ0_init_db425_28 rfl (lv_at hl 1 rfl) ?_
  refine lv_iconst (v := 0) hx hb dJ0_init_db425_29 (by decide) ?_
  refine lv_iload hx hb dJ0_init_db425_30 (lv_at hl 0 rfl) ?_
  have hPc := hP.sub (ws' := [(bv, .inl (y 0, 34, .inl zk16))]) [1] rfl
  have hDc := hD.sub (ws' := [(bv, .inl (y 0, 34, .inl zk16))]) [1] (by decide) rfl
  have hFc := va_free (wc := [(bv, .inl (y 0, 34, .inl zk16))]) hD hS hA [1] rfl
  refine va_callr (va_runS (As := [.ref bv, .int 0, .int 18]) (rest := [.ref h0]) ⟨hx, hb, hml, hown, hts⟩ (c_cR_e1 l D y H.size bv) (va_cwS 3 hts gv_c_Si1_e1_c_cR_e1_54 rfl rfl rfl (by decide +kernel) ⟨(Nat.le_of_ble_eq_true rfl), (Nat.le_of_ble_eq_true rfl)⟩) (zB.preS hPc hDc hK hN hE hO hT hG hS hFc (fun _ h => nomatch h) (fun _ h => nomatch h) (fun _ h => nomatch h) (fun _ h => nomatch h)) rfl rfl hl.1 rfl (lv_room (Nat.le_of_ble_eq_true rfl)) dJ0_init_db425_32 ⟨(Nat.le_of_ble_eq_true rfl), (Nat.le_of_ble_eq_true rfl)⟩) hS (fun q _ h => hFc q h) hFc (fun u r4 t H1 locs ht hvm hw hB hz1 hk1 hS => ?_)
  obtain ⟨hP1, hD1⟩ := hB
  rw [ht] at hP1
  obtain ⟨hP, hD⟩ := va_join (wr := [(h0, .inr (0, [.null, .int 0, .int 0, .int 0])), (sb, .inr (1, [.ref bv, .int 0, w1, .int 18]))]) (w1 := [(bv, .inl (y 0, 34, .inl zk16)), (r4, .inl (y 0, 18, .inl zk17))]) hP hD [1] [0, 2] rfl rfl (by decide) (by decide) hk1 hFc hP1 hD1
  generalize H1 = H at hP hS ⊢
  have hP : va_P D vwCl [(h0, .inr (0, [.null, .int 0, .int 0, .int 0])), (sb, .inr (1, [.ref bv, .int 0, w1, .int 18])), (bv, .inl (y 0, 34, .inl zk16)), (r4, .inl (y 0, 18, .inl zk17))] H := hP
  have hD : va_D A [(h0, .inr (0, [.null, .int 0, .int 0, .int 0])), (sb, .inr (1, [.ref bv, .int 0, w1, .int 18])), (bv, .inl (y 0, 34, .inl zk16)), (r4, .inl (y 0, 18, .inl zk17))] := hD
  refine va_putF (D := D) (ci := 0) (v := .ref r4) (ty := (.array .byte)) (C := RJ0) (T := TJ0) (N := 4) hx hb hts (by decide +kernel) tyJ0 tyJ0_ok nmJ0 hown hK hP hD hS 0 rfl rfl 0 (by decide) (hts (.fieldLink RJ0 9 "java/lang/String" "value" "[B") (by decide +kernel)) (fun _ h9 => h9) rfl hin rfl (by decide +kernel) rfl rfl (Nat.le_of_ble_eq_true rfl) dJ0_init_db425_35 (fun H locs hP hD hS => ?_)
  have hP : va_P D vwCl [(h0, .inr (0, [.ref r4, .int 0, .int 0, .int 0])), (sb, .inr (1, [.ref bv, .int 0, w1, .int 18])), (bv, .inl (y 0, 34, .inl zk16)), (r4, .inl (y 0, 18, .inl zk17))] H := hP
  have hD : va_D A [(h0, .inr (0, [.ref r4, .int 0, .int 0, .int 0])), (sb, .inr (1, [.ref bv, .int 0, w1, .int 18])), (bv, .inl (y 0, 34, .inl zk16)), (r4, .inl (y 0, 18, .inl zk17))] := hD
  refine lv_goto (tgt := 97) hx hb dJ0_init_db425_38 (by decide) ?_
  have hP9 := hP.sub (ws' := [(h0, .inr (0, [.ref r4, .int 0, .int 0, .int 0])), (sb, .inr (1, [.ref bv, .int 0, w1, .int 18])), (bv, .inl (y 0, 34, .inl zk16)), (r4, .inl (y 0, 18, .inl zk17))]) [0, 1, 2, 3] rfl
  have hD9 := hD.sub (ws' := [(h0, .inr (0, [.ref r4, .int 0, .int 0, .int 0])), (sb, .inr (1, [.ref bv, .int 0, w1, .int 18])), (bv, .inl (y 0, 34, .inl zk16)), (r4, .inl (y 0, 18, .inl zk17))]) [0, 1, 2, 3] (by decide) rfl
  refine W.widen (k := 1) (n := 18) (Nat.le_of_ble_eq_true rfl) (Nat.le_of_ble_eq_true rfl) ?_
  exact W.vret hx hb hr (fun t ht hW => ⟨⟨(), rfl, trivial, r4, by rw [ht]; exact hP9, hD9⟩, hS.F ht⟩) hS.2.2 dJ0_init_db425_97
def wz_c_Si2_e1 : List Cond := .code yJ0_init_81219 cJ0_init_81219 2 none :: ([.initialized RJ0, .methodLink RJ0 489 yJ0_init_db425, .instanceMethod yJ0_init_db425] ++ (wz_c_Si1_e1 ++ ([])))
set_option maxRecDepth 100000 in
theorem gz_c_Si2_e1_c_Si1_e1 : GoodIn wz_c_Si2_e1 wz_c_Si1_e1 := goodIn_sub (fun w h => List.mem_cons_of_mem _ (List.mem_append_right _ (List.mem_append_left _ h))) (by decide +kernel)
set_option maxHeartbeats 4000000 in
set_option maxRecDepth 100000 in
theorem c_Si2_e1 (l : Launch) (D : va_G) (y : Nat → ClassId) (sz : Nat) (h0 : Nat) (sb : Nat) (bv : Nat) (w1 : Value) : Met l yJ0_init_81219 wz_c_Si2_e1 ({ frames := 4, cells := 1, slots := 18, locals := 130 }) (va_Pc [.ref h0, .ref sb] (zB D y [(h0, .inr (0, [.null, .int 0, .int 0, .int 0])), (sb, .inr (1, [.ref bv, .int 0, w1, .int 18])), (bv, .inl (y 0, 34, .inl zk16))] sz [] [("java/lang/String", "COMPACT_STRINGS", "Z", .int 1)] [] [])) (va_Qv (fun _ : Unit => True) (fun _ t => ∃ q1 : Nat, va_P D vwCl [(h0, .inr (0, [.ref q1, .int 0, .int 0, .int 0])), (sb, .inr (1, [.ref bv, .int 0, w1, .int 18])), (bv, .inl (y 0, 34, .inl zk16)), (q1, .inl (y 0, 18, .inl zk17))] t.heap ∧ va_D (va_A [(h0, .inr (0, [.null, .int 0, .int 0, .int 0])), (sb, .inr (1, [.ref bv, .int 0, w1, .int 18])), (bv, .inl (y 0, 34, .inl zk16))] sz) [(h0, .inr (0, [.ref q1, .int 0, .int 0, .int 0])), (sb, .inr (1, [.ref bv, .int 0, w1, .int 18])), (bv, .inl (y 0, 34, .inl zk16)), (q1, .inl (y 0, 18, .inl zk17))]) (va_A [(h0, .inr (0, [.null, .int 0, .int 0, .int 0])), (sb, .inr (1, [.ref bv, .int 0, w1, .int 18])), (bv, .inl (y 0, 34, .inl zk16))] sz)) 1 18 (va_A [(h0, .inr (0, [.null, .int 0, .int 0, .int 0])), (sb, .inr (1, [.ref bv, .int 0, w1, .int 18])), (bv, .inl (y 0, 34, .inl zk16))] sz) := by
  refine Met.ofW (cc := cJ0_init_81219) (maxL := 2) (ret := none) (by decide) rfl ?_
  intro p e s m args below meth c s₁ B hml hv
  obtain ⟨rfl, hsz, hP, hK, hD0, hN, hE, hO, hT, hG⟩ := hv
  have hx := B.exec
  have hb := B.bytes
  have hr := B.returns
  have hts := atoms_spec (ws := wz_c_Si2_e1) B.pre
  have hown : s.vm.findClass RJ0 = some m.cls := findClass_of_methodNamed B.named
  have hlocks := B.notSynchronized
  have hin : meth.name = "<init>" := (name_of_methodNamed B.named B.method).1
  subst hsz
  have hD := hD0.self (sz := s.heap.size)
  generalize hAe : va_A [(h0, .inr (0, [.null, .int 0, .int 0, .int 0])), (sb, .inr (1, [.ref bv, .int 0, w1, .int 18])), (bv, .inl (y 0, 34, .inl zk16))] s.heap.size = A at hD hE hT hG ⊢
  have hA : ∀ q : Nat, s.heap.size ≤ q → A q := fun q h => by rw [← hAe]; exact Or.inr h
  have hS : va_S A s.heap s.heap [] := va_S.rf
  have hl := lv_entry ([.ref h0, .ref sb]) (n := 2) (Nat.le_of_ble_eq_true rfl)
  rw [lg_entry_eq]
  generalize (lg_sl ([.ref h0, .ref sb]) ++ List.replicate (2 - (lg_sl ([.ref h0, .ref sb])).length) Slot.unset).toArray = ls at hl ⊢
  have hl : lv_has ls 2 [(0, .ref h0), (1, .ref sb)] := hl
  refine lv_aload_n hx hb dJ0_init_81219_0 rfl (lv_at hl 0 rfl) ?_
  refine lv_aload_n hx hb dJ0_init_81219_1 rfl (lv_at hl 1 rfl) ?_
  refine lv_null hx hb dJ0_init_81219_2 ?_
  have hPc := hP.sub (ws' := [(h0, .inr (0, [.null, .int 0, .int 0, .int 0])), (sb, .inr (1, [.ref bv, .int 0, w1, .int 18])), (bv, .inl (y 0, 34, .inl zk16))]) [0, 1, 2] rfl
  have hDc := hD.sub (ws' := [(h0, .inr (0, [.null, .int 0, .int 0, .int 0])), (sb, .inr (1, [.ref bv, .int 0, w1, .int 18])), (bv, .inl (y 0, 34, .inl zk16))]) [0, 1, 2] (by decide) rfl
  have hFc := va_free (wc := [(h0, .inr (0, [.null, .int 0, .int 0, .int 0])), (sb, .inr (1, [.ref bv, .int 0, w1, .int 18])), (bv, .inl (y 0, 34, .inl zk16))]) hD hS hA [0, 1, 2] rfl
  refine va_callv (va_runI (As := [.ref sb, .null]) (rest := []) ⟨hx, hb, hml, hown, hts⟩ (c_Si1_e1 l D y s.heap.size h0 sb bv w1) (cwI 2 hts gz_c_Si2_e1_c_Si1_e1 rfl rfl rfl (hts (.initialized RJ0) (by decide +kernel)) (hts (.methodLink RJ0 489 yJ0_init_db425) (by decide +kernel)) (hts (.instanceMethod yJ0_init_db425) (by decide +kernel)) rfl (by decide +kernel) ⟨(Nat.le_of_ble_eq_true rfl), (Nat.le_of_ble_eq_true rfl)⟩) (zB.preS hPc hDc hK hN hE hO hT hG hS hFc (fun _ h => nomatch h) (List.forall_mem_cons.mpr ⟨List.mem_of_getElem? (i := 0) rfl, (fun _ h => nomatch h)⟩) (fun _ h => nomatch h) (fun _ h => nomatch h)) rfl rfl hl.1 rfl (lv_room (Nat.le_of_ble_eq_true rfl)) dJ0_init_81219_3 ⟨(Nat.le_of_ble_eq_true rfl), (Nat.le_of_ble_eq_true rfl)⟩) hS (fun q _ h => hFc q h) hFc (fun u t H1 locs ht hvm hw hB hz1 hk1 hS => ?_)
  obtain ⟨q1, hP1, hD1⟩ := hB
  rw [ht] at hP1
  obtain ⟨hP, hD⟩ := va_join (wr := []) (w1 := [(h0, .inr (0, [.ref q1, .int 0, .int 0, .int 0])), (sb, .inr (1, [.ref bv, .int 0, w1, .int 18])), (bv, .inl (y 0, 34, .inl zk16)), (q1, .inl (y 0, 18, .inl zk17))]) hP hD [0, 1, 2] [] rfl rfl (by decide) (by decide) hk1 hFc hP1 hD1
  generalize H1 = H at hP hS ⊢
  have hP : va_P D vwCl [(h0, .inr (0, [.ref q1, .int 0, .int 0, .int 0])), (sb, .inr (1, [.ref bv, .int 0, w1, .int 18])), (bv, .inl (y 0, 34, .inl zk16)), (q1, .inl (y 0, 18, .inl zk17))] H := hP
  have hD : va_D A [(h0, .inr (0, [.ref q1, .int 0, .int 0, .int 0])), (sb, .inr (1, [.ref bv, .int 0, w1, .int 18])), (bv, .inl (y 0, 34, .inl zk16)), (q1, .inl (y 0, 18, .inl zk17))] := hD
  have hP9 := hP.sub (ws' := [(h0, .inr (0, [.ref q1, .int 0, .int 0, .int 0])), (sb, .inr (1, [.ref bv, .int 0, w1, .int 18])), (bv, .inl (y 0, 34, .inl zk16)), (q1, .inl (y 0, 18, .inl zk17))]) [0, 1, 2, 3] rfl
  have hD9 := hD.sub (ws' := [(h0, .inr (0, [.ref q1, .int 0, .int 0, .int 0])), (sb, .inr (1, [.ref bv, .int 0, w1, .int 18])), (bv, .inl (y 0, 34, .inl zk16)), (q1, .inl (y 0, 18, .inl zk17))]) [0, 1, 2, 3] (by decide) rfl
  refine W.widen (k := 1) (n := 18) (Nat.le_of_ble_eq_true rfl) (Nat.le_of_ble_eq_true rfl) ?_
  exact W.vret hx hb hr (fun t ht hW => ⟨⟨(), rfl, trivial, q1, by rw [ht]; exact hP9, hD9⟩, hS.F ht⟩) hS.2.2 dJ0_init_81219_6
def wz_c_toS_e1 : List Cond := .code yJ4_toString_0e30d cJ4_toString_0e30d 1 (some (.object "java/lang/String")) :: ([.classLink RJ4 18 RJ0, .instantiable RJ0 4, .initialized RJ0, .methodLink RJ4 137 yJ0_init_81219, .instanceMethod yJ0_init_81219] ++ (wsJ00 ++ (wz_c_Si2_e1 ++ ([]))))
set_option maxRecDepth 100000 in
theorem gz_c_toS_e1_c_Si2_e1 : GoodIn wz_c_toS_e1 wz_c_Si2_e1 := goodIn_sub (fun w h => List.mem_cons_of_mem _ (List.mem_append_right _ (List.mem_append_right _ (List.mem_append_left _ h)))) (by decide +kernel)
set_option maxHeartbeats 4000000 in
set_option maxRecDepth 100000 in
theorem c_toS_e1 (l : Launch) (D : va_G) (y : Nat → ClassId) (sz : Nat) (h0 : Nat) (bv : Nat) (w1 : Value) : Met l yJ4_toString_0e30d wz_c_toS_e1 ({ frames := 5, cells := 2, slots := 22, locals := 151 }) (va_Pc [.ref h0] (zB D y [(h0, .inr (1, [.ref bv, .int 0, w1, .int 18])), (bv, .inl (y 0, 34, .inl zk16))] sz [] [("java/lang/String", "COMPACT_STRINGS", "Z", .int 1)] [] [])) (va_Qr (fun _ : Unit => True) (fun _ q1 t => ∃ q2 : Nat, va_P D vwCl [(h0, .inr (1, [.ref bv, .int 0, w1, .int 18])), (bv, .inl (y 0, 34, .inl zk16)), (q1, .inr (0, [.ref q2, .int 0, .int 0, .int 0])), (q2, .inl (y 0, 18, .inl zk17))] t.heap ∧ va_D (va_A [(h0, .inr (1, [.ref bv, .int 0, w1, .int 18])), (bv, .inl (y 0, 34, .inl zk16))] sz) [(h0, .inr (1, [.ref bv, .int 0, w1, .int 18])), (bv, .inl (y 0, 34, .inl zk16)), (q1, .inr (0, [.ref q2, .int 0, .int 0, .int 0])), (q2, .inl (y 0, 18, .inl zk17))]) (va_A [(h0, .inr (1, [.ref bv, .int 0, w1, .int 18])), (bv, .inl (y 0, 34, .inl zk16))] sz)) 2 22 (va_A [(h0, .inr (1, [.ref bv, .int 0, w1, .int 18])), (bv, .inl (y 0, 34, .inl zk16))] sz) := by
  refine Met.ofW (cc := cJ4_toString_0e30d) (maxL := 1) (ret := (some (.object "java/lang/String"))) (by decide) rfl ?_
  intro p e s m args below meth c s₁ B hml hv
  obtain ⟨rfl, hsz, hP, hK, hD0, hN, hE, hO, hT, hG⟩ := hv
  have hx := B.exec
  have hb := B.bytes
  have hr := B.returns
  have hts := atoms_spec (ws := wz_c_toS_e1) B.pre
  have hown : s.vm.findClass RJ4 = some m.cls := findClass_of_methodNamed B.named
  have hlocks := B.notSynchronized
  subst hsz
  have hD := hD0.self (sz := s.heap.size)
  generalize hAe : va_A [(h0, .inr (1, [.ref bv, .int 0, w1, .int 18])), (bv, .inl (y 0, 34, .inl zk16))] s.heap.size = A at hD hE hT hG ⊢
  have hA : ∀ q : Nat, s.heap.size ≤ q → A q := fun q h => by rw [← hAe]; exact Or.inr h
  have hS : va_S A s.heap s.heap [] := va_S.rf
  have hl := lv_entry ([.ref h0]) (n := 1) (Nat.le_of_ble_eq_true rfl)
  rw [lg_entry_eq]
  generalize (lg_sl ([.ref h0]) ++ List.replicate (1 - (lg_sl ([.ref h0])).length) Slot.unset).toArray = ls at hl ⊢
  have hl : lv_has ls 1 [(0, .ref h0)] := hl
  refine va_new (ci := 0) (fs := [.null, .int 0, .int 0, .int 0]) (C := RJ0) (T := TJ0) (N := 4) hx hb hts (by decide +kernel) tyJ0 tyJ0_ok hown (hts (.classLink RJ4 18 RJ0) (by decide +kernel)) (hts (.instantiable RJ0 4) (by decide +kernel)) (hts (.initialized RJ0) (by decide +kernel)) hK hP hD hS hA rfl (by decide) (Nat.le_of_ble_eq_true rfl) (Nat.le_of_ble_eq_true rfl) dJ4_toString_0e30d_0 (fun q1 H hP hD hS => ?_)
  have hP : va_P D vwCl [(h0, .inr (1, [.ref bv, .int 0, w1, .int 18])), (bv, .inl (y 0, 34, .inl zk16)), (q1, .inr (0, [.null, .int 0, .int 0, .int 0]))] H := hP
  have hD : va_D A [(h0, .inr (1, [.ref bv, .int 0, w1, .int 18])), (bv, .inl (y 0, 34, .inl zk16)), (q1, .inr (0, [.null, .int 0, .int 0, .int 0]))] := hD
  refine lv_dup hx hb dJ4_toString_0e30d_3 rfl ?_
  refine lv_aload_n hx hb dJ4_toString_0e30d_4 rfl (lv_at hl 0 rfl) ?_
  have hPc := hP.sub (ws' := [(q1, .inr (0, [.null, .int 0, .int 0, .int 0])), (h0, .inr (1, [.ref bv, .int 0, w1, .int 18])), (bv, .inl (y 0, 34, .inl zk16))]) [2, 0, 1] rfl
  have hDc := hD.sub (ws' := [(q1, .inr (0, [.null, .int 0, .int 0, .int 0])), (h0, .inr (1, [.ref bv, .int 0, w1, .int 18])), (bv, .inl (y 0, 34, .inl zk16))]) [2, 0, 1] (by decide) rfl
  have hFc := va_free (wc := [(q1, .inr (0, [.null, .int 0, .int 0, .int 0])), (h0, .inr (1, [.ref bv, .int 0, w1, .int 18])), (bv, .inl (y 0, 34, .inl zk16))]) hD hS hA [2, 0, 1] rfl
  refine va_callv (va_runI (As := [.ref h0]) (rest := [.ref q1]) ⟨hx, hb, hml, hown, hts⟩ (c_Si2_e1 l D y H.size q1 h0 bv w1) (cwI 1 hts gz_c_toS_e1_c_Si2_e1 rfl rfl rfl (hts (.initialized RJ0) (by decide +kernel)) (hts (.methodLink RJ4 137 yJ0_init_81219) (by decide +kernel)) (hts (.instanceMethod yJ0_init_81219) (by decide +kernel)) rfl (by decide +kernel) ⟨(Nat.le_of_ble_eq_true rfl), (Nat.le_of_ble_eq_true rfl)⟩) (zB.preS hPc hDc hK hN hE hO hT hG hS hFc (fun _ h => nomatch h) (List.forall_mem_cons.mpr ⟨List.mem_of_getElem? (i := 0) rfl, (fun _ h => nomatch h)⟩) (fun _ h => nomatch h) (fun _ h => nomatch h)) rfl rfl hl.1 rfl (lv_room (Nat.le_of_ble_eq_true rfl)) dJ4_toString_0e30d_5 ⟨(Nat.le_of_ble_eq_true rfl), (Nat.le_of_ble_eq_true rfl)⟩) hS (fun q _ h => hFc q h) hFc (fun u t H1 locs ht hvm hw hB hz1 hk1 hS => ?_)
  obtain ⟨q2, hP1, hD1⟩ := hB
  rw [ht] at hP1
  obtain ⟨hP, hD⟩ := va_join (wr := []) (w1 := [(q1, .inr (0, [.ref q2, .int 0, .int 0, .int 0])), (h0, .inr (1, [.ref bv, .int 0, w1, .int 18])), (bv, .inl (y 0, 34, .inl zk16)), (q2, .inl (y 0, 18, .inl zk17))]) hP hD [2, 0, 1] [] rfl rfl (by decide) (by decide) hk1 hFc hP1 hD1
  generalize H1 = H at hP hS ⊢
  have hP : va_P D vwCl [(q1, .inr (0, [.ref q2, .int 0, .int 0, .int 0])), (h0, .inr (1, [.ref bv, .int 0, w1, .int 18])), (bv, .inl (y 0, 34, .inl zk16)), (q2, .inl (y 0, 18, .inl zk17))] H := hP
  have hD : va_D A [(q1, .inr (0, [.ref q2, .int 0, .int 0, .int 0])), (h0, .inr (1, [.ref bv, .int 0, w1, .int 18])), (bv, .inl (y 0, 34, .inl zk16)), (q2, .inl (y 0, 18, .inl zk17))] := hD
  have hP9 := hP.sub (ws' := [(h0, .inr (1, [.ref bv, .int 0, w1, .int 18])), (bv, .inl (y 0, 34, .inl zk16)), (q1, .inr (0, [.ref q2, .int 0, .int 0, .int 0])), (q2, .inl (y 0, 18, .inl zk17))]) [1, 2, 0, 3] rfl
  have hD9 := hD.sub (ws' := [(h0, .inr (1, [.ref bv, .int 0, w1, .int 18])), (bv, .inl (y 0, 34, .inl zk16)), (q1, .inr (0, [.ref q2, .int 0, .int 0, .int 0])), (q2, .inl (y 0, 18, .inl zk17))]) [1, 2, 0, 3] (by decide) rfl
  refine W.widen (k := 2) (n := 22) (Nat.le_of_ble_eq_true rfl) (Nat.le_of_ble_eq_true rfl) ?_
  exact W.aret (v := .ref q1) hx hb hr (Or.inl ⟨_, rfl⟩) (Or.inr ⟨_, rfl⟩) (fun t ht hW => ⟨⟨(), q1, rfl, trivial, q2, by rw [ht]; exact hP9, hD9⟩, hS.F ht⟩) hS.2.2 dJ4_toString_0e30d_8
def wz_c_newLen_24 : List Cond := .code yJ8_newLength_cabcc cJ8_newLength_cabcc 4 (some .int) :: ([.methodLink RJ8 194 Lib.Math.max.name, .static Lib.Math.max.name, .initialized "java/lang/Math", .code Lib.Math.max.name Lib.Math.max.code 2 (some .int), .constant RJ8 200 2147483639] ++ ([]))
set_option maxHeartbeats 4000000 in
set_option maxRecDepth 100000 in
theorem c_newLen_24 (l : Launch) (D : va_G) (y : Nat → ClassId) (sz : Nat)  : Met l yJ8_newLength_cabcc wz_c_newLen_24 ({ frames := 1, cells := 0, slots := 0, locals := 14 }) (va_Pc [.int 16, .int 8, .int 18] (zB D y [] sz [] [] [] [])) (va_Qi (fun (r : Int32) (_ : Unit) => r = 34) (fun _ t => va_P D vwCl [] t.heap ∧ va_D (va_A [] sz) []) (va_A [] sz)) 0 0 (va_A [] sz) := by
  refine Met.ofW (cc := cJ8_newLength_cabcc) (maxL := 4) (ret := (some .int)) (by decide) rfl ?_
  intro p e s m args below meth c s₁ B hml hv
  obtain ⟨rfl, hsz, hP, hK, hD0, hN, hE, hO, hT, hG⟩ := hv
  have hx := B.exec
  have hb := B.bytes
  have hr := B.returns
  have hts := atoms_spec (ws := wz_c_newLen_24) B.pre
  have hown : s.vm.findClass RJ8 = some m.cls := findClass_of_methodNamed B.named
  have hlocks := B.notSynchronized
  subst hsz
  have hD := hD0.self (sz := s.heap.size)
  generalize hAe : va_A [] s.heap.size = A at hD hE hT hG ⊢
  have hA : ∀ q : Nat, s.heap.size ≤ q → A q := fun q h => by rw [← hAe]; exact Or.inr h
  have hS : va_S A s.heap s.heap [] := va_S.rf
  have hl := lv_entry ([.int 16, .int 8, .int 18]) (n := 4) (Nat.le_of_ble_eq_true rfl)
  rw [lg_entry_eq]
  generalize (lg_sl ([.int 16, .int 8, .int 18]) ++ List.replicate (4 - (lg_sl ([.int 16, .int 8, .int 18])).length) Slot.unset).toArray = ls at hl ⊢
  have hl : lv_has ls 4 [(0, .int 16), (1, .int 8), (2, .int 18)] := hl
  refine lv_iload_n hx hb dJ8_newLength_cabcc_0 rfl (lv_at hl 0 rfl) ?_
  refine lv_iload_n hx hb dJ8_newLength_cabcc_1 rfl (lv_at hl 1 rfl) ?_
  refine lv_iload_n hx hb dJ8_newLength_cabcc_2 rfl (lv_at hl 2 rfl) ?_
  refine va_mmax hx hb (hml.trans hl.1.symm) hown (hts (.methodLink RJ8 194 Lib.Math.max.name) (by decide +kernel)) (hts (.static Lib.Math.max.name) (by decide +kernel)) (hts (.initialized "java/lang/Math") (by decide +kernel)) (hts (.code Lib.Math.max.name Lib.Math.max.code 2 (some .int)) (by decide +kernel)) (Nat.le_of_ble_eq_true rfl) (Nat.le_of_ble_eq_true rfl) (Nat.le_of_ble_eq_true rfl) (Nat.le_of_ble_eq_true rfl) dJ8_newLength_cabcc_3 ?_
  refine lv_topi (fun v1 ev1 => ?_)
  have ev1 : v1 = 18 := ev1.trans (by decide +kernel)
  subst ev1
  refine lv_iadd hx hb dJ8_newLength_cabcc_6 ?_
  refine lv_topi (fun v2 ev2 => ?_)
  have ev2 : v2 = 34 := ev2.trans (by decide +kernel)
  subst ev2
  refine lv_istore_n (lv' := [(3, .int 34), (0, .int 16), (1, .int 8), (2, .int 18)]) hx hb dJ8_newLength_cabcc_7 rfl hl (by decide) rfl (fun ls hl => ?_)
  refine lv_iconst (v := 0) hx hb dJ8_newLength_cabcc_8 (by decide) ?_
  refine lv_iload_n hx hb dJ8_newLength_cabcc_9 rfl (lv_at hl 0 rfl) ?_
  refine lv_icmp_ge (tgt := 21) hx hb dJ8_newLength_cabcc_10 (by decide) (fun c9 => absurd c9 (by decide)) (fun _ => ?_)
  refine lv_iload_n hx hb dJ8_newLength_cabcc_13 rfl (lv_at hl 0 rfl) ?_
  refine lv_ldc (v := 2147483639) hx hb hown (hts (.constant RJ8 200 2147483639) (by decide +kernel)) dJ8_newLength_cabcc_14 ?_
  refine lv_icmp_gt (tgt := 21) hx hb dJ8_newLength_cabcc_16 (by decide) (fun c9 => absurd c9 (by decide)) (fun _ => ?_)
  refine lv_iload_n hx hb dJ8_newLength_cabcc_19 rfl (lv_at hl 0 rfl) ?_
  have hP9 := hP.sub (ws' := []) [] rfl
  have hD9 := hD.sub (ws' := []) [] (by decide) rfl
  refine W.widen (k := 0) (n := 0) (Nat.le_of_ble_eq_true rfl) (Nat.le_of_ble_eq_true rfl) ?_
  exact W.iret (v := 34) hx hb hr (fun t ht hW => ⟨⟨34, (), rfl, rfl, by rw [ht]; exact hP9, hD9⟩, hS.F ht⟩) hS.2.2 dJ8_newLength_cabcc_20
def wz_c_newCap_24 : List Cond := .code yJ5_newCapacity_0f7a4 cJ5_newCapacity_0f7a4 6 (some .int) :: ([.fieldLink RJ5 15 "java/lang/AbstractStringBuilder" "value" "[B", .fieldLink RJ5 22 "java/lang/AbstractStringBuilder" "coder" "B", .methodLink RJ5 114 yJ8_newLength_cabcc, .static yJ8_newLength_cabcc, .initialized RJ8, .constant RJ5 39 2147483647] ++ (wsJ40 ++ (wz_c_newLen_24 ++ ([]))))
set_option maxRecDepth 100000 in
theorem gz_c_newCap_24_c_newLen_24 : GoodIn wz_c_newCap_24 wz_c_newLen_24 := goodIn_sub (fun w h => List.mem_cons_of_mem _ (List.mem_append_right _ (List.mem_append_right _ (List.mem_append_left _ h)))) (by decide +kernel)
set_option maxRecDepth 100000 in
theorem gv_c_newCap_24_c_newLen_24_114 : GoodIn wz_c_newCap_24 (va_wsS RJ5 114 yJ8_newLength_cabcc wz_c_newLen_24) := goodIn_app (goodIn_of _ (by decide +kernel)) gz_c_newCap_24_c_newLen_24
set_option maxHeartbeats 4000000 in
set_option maxRecDepth 100000 in
theorem c_newCap_24 (l : Launch) (D : va_G) (y : Nat → ClassId) (sz : Nat) (h0 : Nat) (bv : Nat) (w1 : Value) (w2 : Value) (g : Nat → Int32) : Met l yJ5_newCapacity_0f7a4 wz_c_newCap_24 ({ frames := 2, cells := 0, slots := 0, locals := 37 }) (va_Pc [.ref h0, .int 24] (zB D y [(h0, .inr (1, [.ref bv, .int 0, w1, w2])), (bv, .inl (y 0, 16, .inl g))] sz [] [] [] [])) (va_Qi (fun (r : Int32) (_ : Unit) => r = 34) (fun _ t => va_P D vwCl [(h0, .inr (1, [.ref bv, .int 0, w1, w2])), (bv, .inl (y 0, 16, .inl g))] t.heap ∧ va_D (va_A [(h0, .inr (1, [.ref bv, .int 0, w1, w2])), (bv, .inl (y 0, 16, .inl g))] sz) [(h0, .inr (1, [.ref bv, .int 0, w1, w2])), (bv, .inl (y 0, 16, .inl g))]) (va_A [(h0, .inr (1, [.ref bv, .int 0, w1, w2])), (bv, .inl (y 0, 16, .inl g))] sz)) 0 0 (va_A [(h0, .inr (1, [.ref bv, .int 0, w1, w2])), (bv, .inl (y 0, 16, .inl g))] sz) := by
  refine Met.ofW (cc := cJ5_newCapacity_0f7a4) (maxL := 6) (ret := (some .int)) (by decide) rfl ?_
  intro p e s m args below meth c s₁ B hml hv
  obtain ⟨rfl, hsz, hP, hK, hD0, hN, hE, hO, hT, hG⟩ := hv
  have hx := B.exec
  have hb := B.bytes
  have hr := B.returns
  have hts := atoms_spec (ws := wz_c_newCap_24) B.pre
  have hown : s.vm.findClass RJ5 = some m.cls := findClass_of_methodNamed B.named
  have hlocks := B.notSynchronized
  subst hsz
  have hD := hD0.self (sz := s.heap.size)
  generalize hAe : va_A [(h0, .inr (1, [.ref bv, .int 0, w1, w2])), (bv, .inl (y 0, 16, .inl g))] s.heap.size = A at hD hE hT hG ⊢
  have hA : ∀ q : Nat, s.heap.size ≤ q → A q := fun q h => by rw [← hAe]; exact Or.inr h
  have hS : va_S A s.heap s.heap [] := va_S.rf
  have hl := lv_entry ([.ref h0, .int 24]) (n := 6) (Nat.le_of_ble_eq_true rfl)
  rw [lg_entry_eq]
  generalize (lg_sl ([.ref h0, .int 24]) ++ List.replicate (6 - (lg_sl ([.ref h0, .int 24])).length) Slot.unset).toArray = ls at hl ⊢
  have hl : lv_has ls 6 [(0, .ref h0), (1, .int 24)] := hl
  refine lv_aload_n hx hb dJ5_newCapacity_0f7a4_0 rfl (lv_at hl 0 rfl) ?_
  refine va_get (D := D) (ci := 1) (v := .ref bv) (C := RJ4) (T := TJ4) (N := 4) hx hb hts (by decide +kernel) hown hK hP 0 rfl rfl 0 (by decide) (hts (.fieldLink RJ5 15 "java/lang/AbstractStringBuilder" "value" "[B") (by decide +kernel)) (fun _ h9 => h9) rfl dJ5_newCapacity_0f7a4_1 ?_
  refine va_alen (v := 16) hx hb hK hP 1 0 rfl rfl (show Int32.ofNat 16 = (16 : Int32) from by decide) dJ5_newCapacity_0f7a4_4 ?_
  refine lv_istore_n (lv' := [(2, .int 16), (0, .ref h0), (1, .int 24)]) hx hb dJ5_newCapacity_0f7a4_5 rfl hl (by decide) rfl (fun ls hl => ?_)
  refine lv_iload_n hx hb dJ5_newCapacity_0f7a4_6 rfl (lv_at hl 2 rfl) ?_
  refine lv_aload_n hx hb dJ5_newCapacity_0f7a4_7 rfl (lv_at hl 1 rfl) ?_
  refine va_get (D := D) (ci := 1) (v := .int 0) (C := RJ4) (T := TJ4) (N := 4) hx hb hts (by decide +kernel) hown hK hP 0 rfl rfl 1 (by decide) (hts (.fieldLink RJ5 22 "java/lang/AbstractStringBuilder" "coder" "B") (by decide +kernel)) (fun _ h9 => h9) rfl dJ5_newCapacity_0f7a4_8 ?_
  refine lv_ishl hx hb dJ5_newCapacity_0f7a4_11 ?_
  refine lv_topi (fun v1 ev1 => ?_)
  have ev1 : v1 = 24 := ev1.trans (by decide +kernel)
  subst ev1
  refine lv_istore_n (lv' := [(3, .int 24), (2, .int 16), (0, .ref h0), (1, .int 24)]) hx hb dJ5_newCapacity_0f7a4_12 rfl hl (by decide) rfl (fun ls hl => ?_)
  refine lv_iload_n hx hb dJ5_newCapacity_0f7a4_13 rfl (lv_at hl 0 rfl) ?_
  refine lv_iload_n hx hb dJ5_newCapacity_0f7a4_14 rfl (lv_at hl 1 rfl) ?_
  refine lv_isub hx hb dJ5_newCapacity_0f7a4_15 ?_
  refine lv_topi (fun v2 ev2 => ?_)
  have ev2 : v2 = 8 := ev2.trans (by decide +kernel)
  subst ev2
  refine lv_istore (lv' := [(4, .int 8), (3, .int 24), (2, .int 16), (0, .ref h0), (1, .int 24)]) hx hb dJ5_newCapacity_0f7a4_16 hl (by decide) rfl (fun ls hl => ?_)
  refine lv_iload_n hx hb dJ5_newCapacity_0f7a4_18 rfl (lv_at hl 2 rfl) ?_
  refine lv_iload hx hb dJ5_newCapacity_0f7a4_19 (lv_at hl 0 rfl) ?_
  refine lv_iload_n hx hb dJ5_newCapacity_0f7a4_21 rfl (lv_at hl 2 rfl) ?_
  refine lv_iconst (v := 2) hx hb dJ5_newCapacity_0f7a4_22 (by decide) ?_
  refine lv_aload_n hx hb dJ5_newCapacity_0f7a4_23 rfl (lv_at hl 3 rfl) ?_
  refine va_get (D := D) (ci := 1) (v := .int 0) (C := RJ4) (T := TJ4) (N := 4) hx hb hts (by decide +kernel) hown hK hP 0 rfl rfl 1 (by decide) (hts (.fieldLink RJ5 22 "java/lang/AbstractStringBuilder" "coder" "B") (by decide +kernel)) (fun _ h9 => h9) rfl dJ5_newCapacity_0f7a4_24 ?_
  refine lv_ishl hx hb dJ5_newCapacity_0f7a4_27 ?_
  refine lv_topi (fun v3 ev3 => ?_)
  have ev3 : v3 = 2 := ev3.trans (by decide +kernel)
  subst ev3
  refine lv_iadd hx hb dJ5_newCapacity_0f7a4_28 ?_
  refine lv_topi (fun v4 ev4 => ?_)
  have ev4 : v4 = 18 := ev4.trans (by decide +kernel)
  subst ev4
  have hPc := hP.sub (ws' := []) [] rfl
  have hDc := hD.sub (ws' := []) [] (by decide) rfl
  have hFc := va_free (wc := []) hD hS hA [] rfl
  refine va_calli (va_runS (As := [.int 16, .int 8, .int 18]) (rest := []) ⟨hx, hb, hml, hown, hts⟩ (c_newLen_24 l D y s.heap.size ) (va_cwS 3 hts gv_c_newCap_24_c_newLen_24_114 rfl rfl rfl (by decide +kernel) ⟨(Nat.le_of_ble_eq_true rfl), (Nat.le_of_ble_eq_true rfl)⟩) (zB.preS hPc hDc hK hN hE hO hT hG hS hFc (fun _ h => nomatch h) (fun _ h => nomatch h) (fun _ h => nomatch h) (fun _ h => nomatch h)) rfl rfl hl.1 rfl (lv_room (Nat.le_of_ble_eq_true rfl)) dJ5_newCapacity_0f7a4_29 ⟨(Nat.le_of_ble_eq_true rfl), (Nat.le_of_ble_eq_true rfl)⟩) hS (fun q _ h => hFc q h) hFc (fun r5 u t H1 locs ht hvm hw hB hz1 hk1 hS => ?_)
  obtain ⟨hP1, hD1⟩ := hB
  rw [ht] at hP1
  obtain ⟨hP, hD⟩ := va_join (wr := [(h0, .inr (1, [.ref bv, .int 0, w1, w2])), (bv, .inl (y 0, 16, .inl g))]) (w1 := []) hP hD [] [0, 1] rfl rfl (by decide) (by decide) hk1 hFc hP1 hD1
  generalize H1 = H at hP hS ⊢
  have hP : va_P D vwCl [(h0, .inr (1, [.ref bv, .int 0, w1, w2])), (bv, .inl (y 0, 16, .inl g))] H := hP
  have hD : va_D A [(h0, .inr (1, [.ref bv, .int 0, w1, w2])), (bv, .inl (y 0, 16, .inl g))] := hD
  have hw : r5 = 34 := hw
  subst hw
  refine lv_istore (lv' := [(5, .int 34), (4, .int 8), (3, .int 24), (2, .int 16), (0, .ref h0), (1, .int 24)]) hx hb dJ5_newCapacity_0f7a4_32 hl (by decide) rfl (fun ls hl => ?_)
  refine lv_iload hx hb dJ5_newCapacity_0f7a4_34 (lv_at hl 0 rfl) ?_
  refine lv_ldc (v := 2147483647) hx hb hown (hts (.constant RJ5 39 2147483647) (by decide +kernel)) dJ5_newCapacity_0f7a4_36 ?_
  refine lv_icmp_ne (tgt := 51) hx hb dJ5_newCapacity_0f7a4_38 (by decide) (fun _ => ?_) (fun c9 => absurd c9 (by decide))
  refine lv_iload hx hb dJ5_newCapacity_0f7a4_51 (lv_at hl 0 rfl) ?_
  refine lv_aload_n hx hb dJ5_newCapacity_0f7a4_53 rfl (lv_at hl 4 rfl) ?_
  refine va_get (D := D) (ci := 1) (v := .int 0) (C := RJ4) (T := TJ4) (N := 4) hx hb hts (by decide +kernel) hown hK hP 0 rfl rfl 1 (by decide) (hts (.fieldLink RJ5 22 "java/lang/AbstractStringBuilder" "coder" "B") (by decide +kernel)) (fun _ h9 => h9) rfl dJ5_newCapacity_0f7a4_54 ?_
  refine lv_ishr hx hb dJ5_newCapacity_0f7a4_57 ?_
  refine lv_topi (fun v6 ev6 => ?_)
  have ev6 : v6 = 34 := ev6.trans (by decide +kernel)
  subst ev6
  have hP9 := hP.sub (ws' := [(h0, .inr (1, [.ref bv, .int 0, w1, w2])), (bv, .inl (y 0, 16, .inl g))]) [0, 1] rfl
  have hD9 := hD.sub (ws' := [(h0, .inr (1, [.ref bv, .int 0, w1, w2])), (bv, .inl (y 0, 16, .inl g))]) [0, 1] (by decide) rfl
  refine W.widen (k := 0) (n := 0) (Nat.le_of_ble_eq_true rfl) (Nat.le_of_ble_eq_true rfl) ?_
  exact W.iret (v := 34) hx hb hr (fun t ht hW => ⟨⟨34, (), rfl, rfl, by rw [ht]; exact hP9, hD9⟩, hS.F ht⟩) hS.2.2 dJ5_newCapacity_0f7a4_58
def wz_c_copyOf_b2 : List Cond := .code yJ7_copyOf_9075b cJ7_copyOf_9075b 3 (some (.array .byte)) :: ([.arrayClass .byte, .methodLink RJ7 304 Lib.Math.min.name, .static Lib.Math.min.name, .initialized "java/lang/Math", .code Lib.Math.min.name Lib.Math.min.code 2 (some .int), .methodLink RJ7 150 arraycopyName, .native arraycopyName, .static arraycopyName, .initialized "java/lang/System"] ++ ([]))
set_option maxHeartbeats 4000000 in
set_option maxRecDepth 100000 in
theorem c_copyOf_b2 (l : Launch) (D : va_G) (y : Nat → ClassId) (sz : Nat) (bv : Nat) : Met l yJ7_copyOf_9075b wz_c_copyOf_b2 ({ frames := 1, cells := 1, slots := 34, locals := 60 }) (va_Pc [.ref bv, .int 34] (zB D y [(bv, .inl (y 0, 16, .inl zk0))] sz [] [] [] [])) (va_Qr (fun _ : Unit => True) (fun _ q1 t => va_P D vwCl [(bv, .inl (y 0, 16, .inl zk0)), (q1, .inl (y 0, 34, .inl zk1))] t.heap ∧ va_D (va_A [(bv, .inl (y 0, 16, .inl zk0))] sz) [(bv, .inl (y 0, 16, .inl zk0)), (q1, .inl (y 0, 34, .inl zk1))]) (va_A [(bv, .inl (y 0, 16, .inl zk0))] sz)) 1 34 (va_A [(bv, .inl (y 0, 16, .inl zk0))] sz) := by
  refine Met.ofW (cc := cJ7_copyOf_9075b) (maxL := 3) (ret := (some (.array .byte))) (by decide) rfl ?_
  intro p e s m args below meth c s₁ B hml hv
  obtain ⟨rfl, hsz, hP, hK, hD0, hN, hE, hO, hT, hG⟩ := hv
  have hx := B.exec
  have hb := B.bytes
  have hr := B.returns
  have hts := atoms_spec (ws := wz_c_copyOf_b2) B.pre
  have hown : s.vm.findClass RJ7 = some m.cls := findClass_of_methodNamed B.named
  have hlocks := B.notSynchronized
  subst hsz
  have hD := hD0.self (sz := s.heap.size)
  generalize hAe : va_A [(bv, .inl (y 0, 16, .inl zk0))] s.heap.size = A at hD hE hT hG ⊢
  have hA : ∀ q : Nat, s.heap.size ≤ q → A q := fun q h => by rw [← hAe]; exact Or.inr h
  have hS : va_S A s.heap s.heap [] := va_S.rf
  have hl := lv_entry ([.ref bv, .int 34]) (n := 3) (Nat.le_of_ble_eq_true rfl)
  rw [lg_entry_eq]
  generalize (lg_sl ([.ref bv, .int 34]) ++ List.replicate (3 - (lg_sl ([.ref bv, .int 34])).length) Slot.unset).toArray = ls at hl ⊢
  have hl : lv_has ls 3 [(0, .ref bv), (1, .int 34)] := hl
  refine lv_iload_n hx hb dJ7_copyOf_9075b_0 rfl (lv_at hl 1 rfl) ?_
  refine lv_aload_n hx hb dJ7_copyOf_9075b_1 rfl (lv_at hl 0 rfl) ?_
  refine va_alen (v := 16) hx hb hK hP 0 0 rfl rfl (show Int32.ofNat 16 = (16 : Int32) from by decide) dJ7_copyOf_9075b_2 ?_
  refine lv_icmp_ne (tgt := 14) hx hb dJ7_copyOf_9075b_3 (by decide) (fun _ => ?_) (fun c9 => absurd c9 (by decide))
  refine lv_iload_n hx hb dJ7_copyOf_9075b_14 rfl (lv_at hl 1 rfl) ?_
  refine zz_newa (atype := .byte) (n := 34) (N' := 34) (a0 := (34, .inl (fun _ => 0))) (ty := .byte) hx hb (hts (.arrayClass .byte) (by decide +kernel)) rfl hK 0 rfl hP hD hS hA (zz_aB 34) (by decide +kernel) (by decide +kernel) (by decide +kernel) (Nat.le_of_ble_eq_true rfl) (Nat.le_of_ble_eq_true rfl) dJ7_copyOf_9075b_15 (fun q1 H hP hD hS => ?_)
  have hP : va_P D vwCl [(bv, .inl (y 0, 16, .inl zk0)), (q1, .inl (y 0, 34, .inl (fun _ => 0)))] H := hP
  have hD : va_D A [(bv, .inl (y 0, 16, .inl zk0)), (q1, .inl (y 0, 34, .inl (fun _ => 0)))] := hD
  refine lv_astore_n (lv' := [(2, .ref q1), (0, .ref bv), (1, .int 34)]) hx hb dJ7_copyOf_9075b_17 rfl hl (by decide) rfl (fun ls hl => ?_)
  refine lv_aload_n hx hb dJ7_copyOf_9075b_18 rfl (lv_at hl 1 rfl) ?_
  refine lv_iconst (v := 0) hx hb dJ7_copyOf_9075b_19 (by decide) ?_
  refine lv_aload_n hx hb dJ7_copyOf_9075b_20 rfl (lv_at hl 0 rfl) ?_
  refine lv_iconst (v := 0) hx hb dJ7_copyOf_9075b_21 (by decide) ?_
  refine lv_aload_n hx hb dJ7_copyOf_9075b_22 rfl (lv_at hl 1 rfl) ?_
  refine va_alen (v := 16) hx hb hK hP 0 0 rfl rfl (show Int32.ofNat 16 = (16 : Int32) from by decide) dJ7_copyOf_9075b_23 ?_
  refine lv_iload_n hx hb dJ7_copyOf_9075b_24 rfl (lv_at hl 2 rfl) ?_
  refine va_mmin hx hb (hml.trans hl.1.symm) hown (hts (.methodLink RJ7 304 Lib.Math.min.name) (by decide +kernel)) (hts (.static Lib.Math.min.name) (by decide +kernel)) (hts (.initialized "java/lang/Math") (by decide +kernel)) (hts (.code Lib.Math.min.name Lib.Math.min.code 2 (some .int)) (by decide +kernel)) (Nat.le_of_ble_eq_true rfl) (Nat.le_of_ble_eq_true rfl) (Nat.le_of_ble_eq_true rfl) (Nat.le_of_ble_eq_true rfl) dJ7_copyOf_9075b_25 ?_
  refine lv_topi (fun v2 ev2 => ?_)
  have ev2 : v2 = 16 := ev2.trans (by decide +kernel)
  subst ev2
  refine va_copyi (ty := .byte) (sp := 0) (dp := 0) (n := 16) hx hb (hml.trans hl.1.symm) hown (hts (.methodLink RJ7 150 arraycopyName) (by decide +kernel)) (hts (.native arraycopyName) (by decide +kernel)) (hts (.static arraycopyName) (by decide +kernel)) (hts (.initialized "java/lang/System") (by decide +kernel)) hK hP hD hS 0 1 0 0 rfl rfl rfl rfl rfl (by decide +kernel) (by decide +kernel) (by decide +kernel) (by decide +kernel) (by decide +kernel) (by decide +kernel) (Nat.le_of_ble_eq_true rfl) (Nat.le_of_ble_eq_true rfl) dJ7_copyOf_9075b_28 (fun H locs hP hD hS => ?_)
  have hP : va_P D vwCl [(bv, .inl (y 0, 16, .inl zk0)), (q1, .inl (y 0, 34, .inl zk1))] H := hP
  have hD : va_D A [(bv, .inl (y 0, 16, .inl zk0)), (q1, .inl (y 0, 34, .inl zk1))] := hD
  refine lv_aload_n hx hb dJ7_copyOf_9075b_31 rfl (lv_at hl 0 rfl) ?_
  have hP9 := hP.sub (ws' := [(bv, .inl (y 0, 16, .inl zk0)), (q1, .inl (y 0, 34, .inl zk1))]) [0, 1] rfl
  have hD9 := hD.sub (ws' := [(bv, .inl (y 0, 16, .inl zk0)), (q1, .inl (y 0, 34, .inl zk1))]) [0, 1] (by decide) rfl
  refine W.widen (k := 1) (n := 34) (Nat.le_of_ble_eq_true rfl) (Nat.le_of_ble_eq_true rfl) ?_
  exact W.aret (v := .ref q1) hx hb hr (Or.inr ⟨_, rfl⟩) (Or.inr ⟨_, rfl⟩) (fun t ht hW => ⟨⟨(), q1, rfl, trivial, by rw [ht]; exact hP9, hD9⟩, hS.F ht⟩) hS.2.2 dJ7_copyOf_9075b_32
def wz_c_ens_b2 : List Cond := .code yJ5_ensureCapacityInternal_d00df cJ5_ensureCapacityInternal_d00df 3 none :: ([.fieldLink RJ5 15 "java/lang/AbstractStringBuilder" "value" "[B", .fieldLink RJ5 22 "java/lang/AbstractStringBuilder" "coder" "B", .methodLink RJ5 104 ⟨"java/lang/AbstractStringBuilder", "newCapacity", "(I)I"⟩, .sameMethod "java/lang/AbstractStringBuilder" "java/lang/AbstractStringBuilder" "newCapacity" "(I)I", .selects RJ4 ⟨"java/lang/AbstractStringBuilder", "newCapacity", "(I)I"⟩ yJ5_newCapacity_0f7a4, .instanceMethod yJ5_newCapacity_0f7a4, .initialized RJ5, .methodLink RJ5 108 yJ7_copyOf_9075b, .static yJ7_copyOf_9075b, .initialized RJ7] ++ (wsJ40 ++ (wz_c_newCap_24 ++ (wz_c_copyOf_b0 ++ ([])))))
set_option maxRecDepth 100000 in
theorem gz_c_ens_b2_c_newCap_24 : GoodIn wz_c_ens_b2 wz_c_newCap_24 := goodIn_sub (fun w h => List.mem_cons_of_mem _ (List.mem_append_right _ (List.mem_append_right _ (List.mem_append_left _ h)))) (by decide +kernel)
set_option maxRecDepth 100000 in
theorem gz_c_ens_b2_c_copyOf_b0 : GoodIn wz_c_ens_b2 wz_c_copyOf_b0 := goodIn_sub (fun w h => List.mem_cons_of_mem _ (List.mem_append_right _ (List.mem_append_right _ (List.mem_append_right _ (List.mem_append_left _ h))))) (by decide +kernel)
set_option maxRecDepth 100000 in
theorem gv_c_ens_b2_c_newCap_24_104 : GoodIn wz_c_ens_b2 (va_wsU RJ5 104 RJ4 "java/lang/AbstractStringBuilder" ⟨"java/lang/AbstractStringBuilder", "newCapacity", "(I)I"⟩ yJ5_newCapacity_0f7a4 wz_c_newCap_24) := goodIn_app (goodIn_of _ (by decide +kernel)) gz_c_ens_b2_c_newCap_24
set_option maxRecDepth 100000 in
theorem gv_c_ens_b2_c_copyOf_b0_108 : GoodIn wz_c_ens_b2 (va_wsS RJ5 108 yJ7_copyOf_9075b wz_c_copyOf_b0) := goodIn_app (goodIn_of _ (by decide +kernel)) gz_c_ens_b2_c_copyOf_b0
set_option maxHeartbeats 4000000 in
set_option maxRecDepth 100000 in
theorem c_ens_b2 (l : Launch) (D : va_G) (y : Nat → ClassId) (sz : Nat) (h0 : Nat) (bv : Nat) (w1 : Value) (w2 : Value) : Met l yJ5_ensureCapacityInternal_d00df wz_c_ens_b2 ({ frames := 3, cells := 1, slots := 34, locals := 82 }) (va_Pc [.ref h0, .int 24] (zB D y [(h0, .inr (1, [.ref bv, .int 0, w1, w2])), (bv, .inl (y 0, 16, .inl zk0))] sz [] [] [] [])) (va_Qv (fun _ : Unit => True) (fun _ t => ∃ r5 : Nat, va_P D vwCl [(h0, .inr (1, [.ref r5, .int 0, w1, w2])), (bv, .inl (y 0, 16, .inl zk0)), (r5, .inl (y 0, 34, .inl zk1))] t.heap ∧ va_D (va_A [(h0, .inr (1, [.ref bv, .int 0, w1, w2])), (bv, .inl (y 0, 16, .inl zk0))] sz) [(h0, .inr (1, [.ref r5, .int 0, w1, w2])), (bv, .inl (y 0, 16, .inl zk0)), (r5, .inl (y 0, 34, .inl zk1))]) (va_A [(h0, .inr (1, [.ref bv, .int 0, w1, w2])), (bv, .inl (y 0, 16, .inl zk0))] sz)) 1 34 (va_A [(h0, .inr (1, [.ref bv, .int 0, w1, w2])), (bv, .inl (y 0, 16, .inl zk0))] sz) := by
  refine Met.ofW (cc := cJ5_ensureCapacityInternal_d00df) (maxL := 3) (ret := none) (by decide) rfl ?_
  intro p e s m args below meth c s₁ B hml hv
  obtain ⟨rfl, hsz, hP, hK, hD0, hN, hE, hO, hT, hG⟩ := hv
  have hx := B.exec
  have hb := B.bytes
  have hr := B.returns
  have hts := atoms_spec (ws := wz_c_ens_b2) B.pre
  have hown : s.vm.findClass RJ5 = some m.cls := findClass_of_methodNamed B.named
  have hlocks := B.notSynchronized
  subst hsz
  have hD := hD0.self (sz := s.heap.size)
  generalize hAe : va_A [(h0, .inr (1, [.ref bv, .int 0, w1, w2])), (bv, .inl (y 0, 16, .inl zk0))] s.heap.size = A at hD hE hT hG ⊢
  have hA : ∀ q : Nat, s.heap.size ≤ q → A q := fun q h => by rw [← hAe]; exact Or.inr h
  have hS : va_S A s.heap s.heap [] := va_S.rf
  have hl := lv_entry ([.ref h0, .int 24]) (n := 3) (Nat.le_of_ble_eq_true rfl)
  rw [lg_entry_eq]
  generalize (lg_sl ([.ref h0, .int 24]) ++ List.replicate (3 - (lg_sl ([.ref h0, .int 24])).length) Slot.unset).toArray = ls at hl ⊢
  have hl : lv_has ls 3 [(0, .ref h0), (1, .int 24)] := hl
  refine lv_aload_n hx hb dJ5_ensureCapacityInternal_d00df_0 rfl (lv_at hl 0 rfl) ?_
  refine va_get (D := D) (ci := 1) (v := .ref bv) (C := RJ4) (T := TJ4) (N := 4) hx hb hts (by decide +kernel) hown hK hP 0 rfl rfl 0 (by decide) (hts (.fieldLink RJ5 15 "java/lang/AbstractStringBuilder" "value" "[B") (by decide +kernel)) (fun _ h9 => h9) rfl dJ5_ensureCapacityInternal_d00df_1 ?_
  refine va_alen (v := 16) hx hb hK hP 1 0 rfl rfl (show Int32.ofNat 16 = (16 : Int32) from by decide) dJ5_ensureCapacityInternal_d00df_4 ?_
  refine lv_aload_n hx hb dJ5_ensureCapacityInternal_d00df_5 rfl (lv_at hl 0 rfl) ?_
  refine va_get (D := D) (ci := 1) (v := .int 0) (C := RJ4) (T := TJ4) (N := 4) hx hb hts (by decide +kernel) hown hK hP 0 rfl rfl 1 (by decide) (hts (.fieldLink RJ5 22 "java/lang/AbstractStringBuilder" "coder" "B") (by decide +kernel)) (fun _ h9 => h9) rfl dJ5_ensureCapacityInternal_d00df_6 ?_
  refine lv_ishr hx hb dJ5_ensureCapacityInternal_d00df_9 ?_
  refine lv_topi (fun v1 ev1 => ?_)
  have ev1 : v1 = 16 := ev1.trans (by decide +kernel)
  subst ev1
  refine lv_istore_n (lv' := [(2, .int 16), (0, .ref h0), (1, .int 24)]) hx hb dJ5_ensureCapacityInternal_d00df_10 rfl hl (by decide) rfl (fun ls hl => ?_)
  refine lv_iload_n hx hb dJ5_ensureCapacityInternal_d00df_11 rfl (lv_at hl 2 rfl) ?_
  refine lv_iload_n hx hb dJ5_ensureCapacityInternal_d00df_12 rfl (lv_at hl 0 rfl) ?_
  refine lv_isub hx hb dJ5_ensureCapacityInternal_d00df_13 ?_
  refine lv_topi (fun v2 ev2 => ?_)
  have ev2 : v2 = 8 := ev2.trans (by decide +kernel)
  subst ev2
  refine lv_if_le (tgt := 38) hx hb dJ5_ensureCapacityInternal_d00df_14 (by decide) (fun c9 => absurd c9 (by decide)) (fun _ => ?_)
  refine lv_aload_n hx hb dJ5_ensureCapacityInternal_d00df_17 rfl (lv_at hl 1 rfl) ?_
  refine lv_aload_n hx hb dJ5_ensureCapacityInternal_d00df_18 rfl (lv_at hl 1 rfl) ?_
  refine va_get (D := D) (ci := 1) (v := .ref bv) (C := RJ4) (T := TJ4) (N := 4) hx hb hts (by decide +kernel) hown hK hP 0 rfl rfl 0 (by decide) (hts (.fieldLink RJ5 15 "java/lang/AbstractStringBuilder" "value" "[B") (by decide +kernel)) (fun _ h9 => h9) rfl dJ5_ensureCapacityInternal_d00df_19 ?_
  refine lv_aload_n hx hb dJ5_ensureCapacityInternal_d00df_22 rfl (lv_at hl 1 rfl) ?_
  refine lv_iload_n hx hb dJ5_ensureCapacityInternal_d00df_23 rfl (lv_at hl 2 rfl) ?_
  have hPc := hP.sub (ws' := [(h0, .inr (1, [.ref bv, .int 0, w1, w2])), (bv, .inl (y 0, 16, .inl zk0))]) [0, 1] rfl
  have hDc := hD.sub (ws' := [(h0, .inr (1, [.ref bv, .int 0, w1, w2])), (bv, .inl (y 0, 16, .inl zk0))]) [0, 1] (by decide) rfl
  have hFc := va_free (wc := [(h0, .inr (1, [.ref bv, .int 0, w1, w2])), (bv, .inl (y 0, 16, .inl zk0))]) hD hS hA [0, 1] rfl
  refine va_calli (va_runU (As := [.int 24]) (rest := [.ref bv, .ref h0]) ⟨hx, hb, hml, hown, hts⟩ (c_newCap_24 l D y s.heap.size h0 bv w1 w2 zk0) (va_cwU 1 hts gv_c_ens_b2_c_newCap_24_104 rfl rfl rfl rfl (by decide +kernel) ⟨(Nat.le_of_ble_eq_true rfl), (Nat.le_of_ble_eq_true rfl)⟩) (zB.preV hPc hDc hK hN hE hO hT hG hS hFc (fun _ h => nomatch h) (fun _ h => nomatch h) (fun _ h => nomatch h) (fun _ h => nomatch h) (va_recv hK hPc (ci := 1) (q0 := 0) rfl rfl)) rfl rfl hl.1 rfl (lv_room (Nat.le_of_ble_eq_true rfl)) dJ5_ensureCapacityInternal_d00df_24 ⟨(Nat.le_of_ble_eq_true rfl), (Nat.le_of_ble_eq_true rfl)⟩) hS (fun q _ h => hFc q h) hFc (fun r3 u t H1 locs ht hvm hw hB hz1 hk1 hS => ?_)
  obtain ⟨hP1, hD1⟩ := hB
  rw [ht] at hP1
  obtain ⟨hP, hD⟩ := va_join (wr := []) (w1 := [(h0, .inr (1, [.ref bv, .int 0, w1, w2])), (bv, .inl (y 0, 16, .inl zk0))]) hP hD [0, 1] [] rfl rfl (by decide) (by decide) hk1 hFc hP1 hD1
  generalize H1 = H at hP hS ⊢
  have hP : va_P D vwCl [(h0, .inr (1, [.ref bv, .int 0, w1, w2])), (bv, .inl (y 0, 16, .inl zk0))] H := hP
  have hD : va_D A [(h0, .inr (1, [.ref bv, .int 0, w1, w2])), (bv, .inl (y 0, 16, .inl zk0))] := hD
  have hw : r3 = 34 := hw
  subst hw
  refine lv_aload_n hx hb dJ5_ensureCapacityInternal_d00df_27 rfl (lv_at hl 1 rfl) ?_
  refine va_get (D := D) (ci := 1) (v := .int 0) (C := RJ4) (T := TJ4) (N := 4) hx hb hts (by decide +kernel) hown hK hP 0 rfl rfl 1 (by decide) (hts (.fieldLink RJ5 22 "java/lang/AbstractStringBuilder" "coder" "B") (by decide +kernel)) (fun _ h9 => h9) rfl dJ5_ensureCapacityInternal_d00df_28 ?_
  refine lv_ishl hx hb dJ5_ensureCapacityInternal_d00df_31 ?_
  refine lv_topi (fun v4 ev4 => ?_)
  have ev4 : v4 = 34 := ev4.trans (by decide +kernel)
  subst ev4
  have hPc := hP.sub (ws' := [(bv, .inl (y 0, 16, .inl zk0))]) [1] rfl
  have hDc := hD.sub (ws' := [(bv, .inl (y 0, 16, .inl zk0))]) [1] (by decide) rfl
  have hFc := va_free (wc := [(bv, .inl (y 0, 16, .inl zk0))]) hD hS hA [1] rfl
  refine va_callr (va_runS (As := [.ref bv, .int 34]) (rest := [.ref h0]) ⟨hx, hb, hml, hown, hts⟩ (c_copyOf_b0 l D y H.size bv) (va_cwS 2 hts gv_c_ens_b2_c_copyOf_b0_108 rfl rfl rfl (by decide +kernel) ⟨(Nat.le_of_ble_eq_true rfl), (Nat.le_of_ble_eq_true rfl)⟩) (zB.preS hPc hDc hK hN hE hO hT hG hS hFc (fun _ h => nomatch h) (fun _ h => nomatch h) (fun _ h => nomatch h) (fun _ h => nomatch h)) rfl rfl hl.1 rfl (lv_room (Nat.le_of_ble_eq_true rfl)) dJ5_ensureCapacityInternal_d00df_32 ⟨(Nat.le_of_ble_eq_true rfl), (Nat.le_of_ble_eq_true rfl)⟩) hS (fun q _ h => hFc q h) hFc (fun u r5 t H1 locs ht hvm hw hB hz1 hk1 hS => ?_)
  obtain ⟨hP1, hD1⟩ := hB
  rw [ht] at hP1
  obtain ⟨hP, hD⟩ := va_join (wr := [(h0, .inr (1, [.ref bv, .int 0, w1, w2]))]) (w1 := [(bv, .inl (y 0, 16, .inl zk0)), (r5, .inl (y 0, 34, .inl zk1))]) hP hD [1] [0] rfl rfl (by decide) (by decide) hk1 hFc hP1 hD1
  generalize H1 = H at hP hS ⊢
  have hP : va_P D vwCl [(h0, .inr (1, [.ref bv, .int 0, w1, w2])), (bv, .inl (y 0, 16, .inl zk0)), (r5, .inl (y 0, 34, .inl zk1))] H := hP
  have hD : va_D A [(h0, .inr (1, [.ref bv, .int 0, w1, w2])), (bv, .inl (y 0, 16, .inl zk0)), (r5, .inl (y 0, 34, .inl zk1))] := hD
  refine va_put (D := D) (ci := 1) (v := .ref r5) (ty := (.array .byte)) (C := RJ4) (T := TJ4) (N := 4) hx hb hts (by decide +kernel) tyJ4 tyJ4_ok nmJ4 hown hK hP hD hS 0 rfl rfl 0 (by decide) (hts (.fieldLink RJ5 15 "java/lang/AbstractStringBuilder" "value" "[B") (by decide +kernel)) (fun _ h9 => h9) rfl (by decide +kernel) rfl rfl (Nat.le_of_ble_eq_true rfl) dJ5_ensureCapacityInternal_d00df_35 (fun H locs hP hD hS => ?_)
  have hP : va_P D vwCl [(h0, .inr (1, [.ref r5, .int 0, w1, w2])), (bv, .inl (y 0, 16, .inl zk0)), (r5, .inl (y 0, 34, .inl zk1))] H := hP
  have hD : va_D A [(h0, .inr (1, [.ref r5, .int 0, w1, w2])), (bv, .inl (y 0, 16, .inl zk0)), (r5, .inl (y 0, 34, .inl zk1))] := hD
  have hP9 := hP.sub (ws' := [(h0, .inr (1, [.ref r5, .int 0, w1, w2])), (bv, .inl (y 0, 16, .inl zk0)), (r5, .inl (y 0, 34, .inl zk1))]) [0, 1, 2] rfl
  have hD9 := hD.sub (ws' := [(h0, .inr (1, [.ref r5, .int 0, w1, w2])), (bv, .inl (y 0, 16, .inl zk0)), (r5, .inl (y 0, 34, .inl zk1))]) [0, 1, 2] (by decide) rfl
  refine W.widen (k := 1) (n := 34) (Nat.le_of_ble_eq_true rfl) (Nat.le_of_ble_eq_true rfl) ?_
  exact W.vret hx hb hr (fun t ht hW => ⟨⟨(), rfl, trivial, r5, by rw [ht]; exact hP9, hD9⟩, hS.F ht⟩) hS.2.2 dJ5_ensureCapacityInternal_d00df_38
def wz_c_getBytes_9_11_34 : List Cond := .code yJ0_getBytes_840e7 cJ0_getBytes_840e7 4 none :: ([.methodLink RJ0 335 yJ0_coder_7d493, .instanceMethod yJ0_coder_7d493, .selects RJ0 yJ0_coder_7d493 yJ0_coder_7d493, .initialized RJ0, .fieldLink RJ0 9 "java/lang/String" "value" "[B", .methodLink RJ0 212 arraycopyName, .native arraycopyName, .static arraycopyName, .initialized "java/lang/System"] ++ (wz_c_coder_o ++ ([])))
set_option maxRecDepth 100000 in
theorem gz_c_getBytes_9_11_34_c_coder_o : GoodIn wz_c_getBytes_9_11_34 wz_c_coder_o := goodIn_sub (fun w h => List.mem_cons_of_mem _ (List.mem_append_right _ (List.mem_append_left _ h))) (by decide +kernel)
set_option maxRecDepth 100000 in
theorem gv_c_getBytes_9_11_34_c_coder_o_335 : GoodIn wz_c_getBytes_9_11_34 (wsV RJ0 335 RJ0 yJ0_coder_7d493 wz_c_coder_o) := goodIn_app (goodIn_of _ (by decide +kernel)) gz_c_getBytes_9_11_34_c_coder_o
set_option maxHeartbeats 4000000 in
set_option maxRecDepth 100000 in
theorem c_getBytes_9_11_34 (l : Launch) (D : va_G) (y : Nat → ClassId) (sz : Nat) (bv : Nat) (sx : Nat) (tx : Nat) (g : Nat → Int32) : Met l yJ0_getBytes_840e7 wz_c_getBytes_9_11_34 ({ frames := 1, cells := 0, slots := 0, locals := 60 }) (va_Pc [.ref sx, .ref bv, .int 11, .int 0] (zB D y [(bv, .inl (y 0, 34, .inl g))] sz [] [("java/lang/String", "COMPACT_STRINGS", "Z", .int 1)] [] [.inr (.inl (sx, tx, 13, zs9))])) (va_Qv (fun _ : Unit => True) (fun _ t => va_P D vwCl [(bv, .inl (y 0, 34, .inl (va_cpy zs9 g (0 : Int32).toNatClampNeg (11 : Int32).toNatClampNeg (13 : Int32).toNatClampNeg)))] t.heap ∧ va_D (va_A [(bv, .inl (y 0, 34, .inl g))] sz) [(bv, .inl (y 0, 34, .inl (va_cpy zs9 g (0 : Int32).toNatClampNeg (11 : Int32).toNatClampNeg (13 : Int32).toNatClampNeg)))]) (va_A [(bv, .inl (y 0, 34, .inl g))] sz)) 0 0 (va_A [(bv, .inl (y 0, 34, .inl g))] sz) := by
  refine Met.ofW (cc := cJ0_getBytes_840e7) (maxL := 4) (ret := none) (by decide) rfl ?_
  intro p e s m args below meth c s₁ B hml hv
  obtain ⟨rfl, hsz, hP, hK, hD0, hN, hE, hO, hT, hG⟩ := hv
  have hx := B.exec
  have hb := B.bytes
  have hr := B.returns
  have hts := atoms_spec (ws := wz_c_getBytes_9_11_34) B.pre
  have hown : s.vm.findClass RJ0 = some m.cls := findClass_of_methodNamed B.named
  have hlocks := B.notSynchronized
  subst hsz
  have hD := hD0.self (sz := s.heap.size)
  generalize hAe : va_A [(bv, .inl (y 0, 34, .inl g))] s.heap.size = A at hD hE hT hG ⊢
  have hA : ∀ q : Nat, s.heap.size ≤ q → A q := fun q h => by rw [← hAe]; exact Or.inr h
  have hS : va_S A s.heap s.heap [] := va_S.rf
  have hl := lv_entry ([.ref sx, .ref bv, .int 11, .int 0]) (n := 4) (Nat.le_of_ble_eq_true rfl)
  rw [lg_entry_eq]
  generalize (lg_sl ([.ref sx, .ref bv, .int 11, .int 0]) ++ List.replicate (4 - (lg_sl ([.ref sx, .ref bv, .int 11, .int 0])).length) Slot.unset).toArray = ls at hl ⊢
  have hl : lv_has ls 4 [(0, .ref sx), (1, .ref bv), (2, .int 11), (3, .int 0)] := hl
  refine lv_aload_n hx hb dJ0_getBytes_840e7_0 rfl (lv_at hl 0 rfl) ?_
  have hPc := hP.sub (ws' := []) [] rfl
  have hDc := hD.sub (ws' := []) [] (by decide) rfl
  have hFc := va_free (wc := []) hD hS hA [] rfl
  refine va_calli (va_runV (As := []) (rest := []) ⟨hx, hb, hml, hown, hts⟩ (c_coder_o l D y s.heap.size sx tx 13 zs9) (cwV 0 hts gv_c_getBytes_9_11_34_c_coder_o_335 rfl rfl rfl (by decide +kernel) ⟨(Nat.le_of_ble_eq_true rfl), (Nat.le_of_ble_eq_true rfl)⟩) (zB.preV hPc hDc hK hN hE hO hT hG hS hFc (fun _ h => nomatch h) (List.forall_mem_cons.mpr ⟨List.mem_of_getElem? (i := 0) rfl, (fun _ h => nomatch h)⟩) (fun _ h => nomatch h) (List.forall_mem_cons.mpr ⟨List.mem_of_getElem? (i := 0) rfl, (fun _ h => nomatch h)⟩) (zStr.recv (show zStr sx tx 13 zs9 A s s.heap from (hG (.inr (.inl (sx, tx, 13, zs9))) (List.mem_of_getElem? (i := 0) rfl))) hS)) rfl rfl hl.1 rfl (lv_room (Nat.le_of_ble_eq_true rfl)) dJ0_getBytes_840e7_1 ⟨(Nat.le_of_ble_eq_true rfl), (Nat.le_of_ble_eq_true rfl)⟩) hS (fun q _ h => hFc q h) hFc (fun r1 u t H1 locs ht hvm hw hB hz1 hk1 hS => ?_)
  obtain ⟨hP1, hD1⟩ := hB
  rw [ht] at hP1
  obtain ⟨hP, hD⟩ := va_join (wr := [(bv, .inl (y 0, 34, .inl g))]) (w1 := []) hP hD [] [0] rfl rfl (by decide) (by decide) hk1 hFc hP1 hD1
  generalize H1 = H at hP hS ⊢
  have hP : va_P D vwCl [(bv, .inl (y 0, 34, .inl g))] H := hP
  have hD : va_D A [(bv, .inl (y 0, 34, .inl g))] := hD
  have hw : r1 = 0 := hw
  subst hw
  refine lv_iload_n hx hb dJ0_getBytes_840e7_4 rfl (lv_at hl 3 rfl) ?_
  refine lv_icmp_ne (tgt := 28) hx hb dJ0_getBytes_840e7_5 (by decide) (fun c9 => absurd (by decide) c9) (fun _ => ?_)
  refine lv_aload_n hx hb dJ0_getBytes_840e7_8 rfl (lv_at hl 0 rfl) ?_
  refine vk_getf hx hb (show zStr sx tx 13 zs9 A s s.heap from (hG (.inr (.inl (sx, tx, 13, zs9))) (List.mem_of_getElem? (i := 0) rfl))).2.2.1 hS hown (hts (.fieldLink RJ0 9 "java/lang/String" "value" "[B") (by decide +kernel)) (fun _ h9 => h9) dJ0_getBytes_840e7_9 ?_
  refine lv_iconst (v := 0) hx hb dJ0_getBytes_840e7_12 (by decide) ?_
  refine lv_aload_n hx hb dJ0_getBytes_840e7_13 rfl (lv_at hl 1 rfl) ?_
  refine lv_iload_n hx hb dJ0_getBytes_840e7_14 rfl (lv_at hl 2 rfl) ?_
  refine lv_iload_n hx hb dJ0_getBytes_840e7_15 rfl (lv_at hl 3 rfl) ?_
  refine lv_ishl hx hb dJ0_getBytes_840e7_16 ?_
  refine lv_topi (fun v2 ev2 => ?_)
  have ev2 : v2 = 11 := ev2.trans (by decide +kernel)
  subst ev2
  refine lv_aload_n hx hb dJ0_getBytes_840e7_17 rfl (lv_at hl 0 rfl) ?_
  refine vk_getf hx hb (show zStr sx tx 13 zs9 A s s.heap from (hG (.inr (.inl (sx, tx, 13, zs9))) (List.mem_of_getElem? (i := 0) rfl))).2.2.1 hS hown (hts (.fieldLink RJ0 9 "java/lang/String" "value" "[B") (by decide +kernel)) (fun _ h9 => h9) dJ0_getBytes_840e7_18 ?_
  refine va_tlen (v := 13) hx hb (show zStr sx tx 13 zs9 A s s.heap from (hG (.inr (.inl (sx, tx, 13, zs9))) (List.mem_of_getElem? (i := 0) rfl))).2.2.2 hS (by decide) dJ0_getBytes_840e7_21 ?_
  refine vk_copyt (sp := 0) (dp := 11) (n := 13) (f := zs9) hx hb (hml.trans hl.1.symm) hown (hts (.methodLink RJ0 212 arraycopyName) (by decide +kernel)) (hts (.native arraycopyName) (by decide +kernel)) (hts (.static arraycopyName) (by decide +kernel)) (hts (.initialized "java/lang/System") (by decide +kernel)) hK hP hD hS (show zStr sx tx 13 zs9 A s s.heap from (hG (.inr (.inl (sx, tx, 13, zs9))) (List.mem_of_getElem? (i := 0) rfl))).2.2.2 0 0 rfl rfl (by decide +kernel) (by decide +kernel) (by decide +kernel) (by decide +kernel) (by decide +kernel) (by decide +kernel) (Nat.le_of_ble_eq_true rfl) (Nat.le_of_ble_eq_true rfl) dJ0_getBytes_840e7_22 (fun H locs hP hD hS => ?_)
  have hP : va_P D vwCl [(bv, .inl (y 0, 34, .inl (va_cpy zs9 g (0 : Int32).toNatClampNeg (11 : Int32).toNatClampNeg (13 : Int32).toNatClampNeg)))] H := hP
  have hD : va_D A [(bv, .inl (y 0, 34, .inl (va_cpy zs9 g (0 : Int32).toNatClampNeg (11 : Int32).toNatClampNeg (13 : Int32).toNatClampNeg)))] := hD
  refine lv_goto (tgt := 43) hx hb dJ0_getBytes_840e7_25 (by decide) ?_
  have hP9 := hP.sub (ws' := [(bv, .inl (y 0, 34, .inl (va_cpy zs9 g (0 : Int32).toNatClampNeg (11 : Int32).toNatClampNeg (13 : Int32).toNatClampNeg)))]) [0] rfl
  have hD9 := hD.sub (ws' := [(bv, .inl (y 0, 34, .inl (va_cpy zs9 g (0 : Int32).toNatClampNeg (11 : Int32).toNatClampNeg (13 : Int32).toNatClampNeg)))]) [0] (by decide) rfl
  refine W.widen (k := 0) (n := 0) (Nat.le_of_ble_eq_true rfl) (Nat.le_of_ble_eq_true rfl) ?_
  exact W.vret hx hb hr (fun t ht hW => ⟨⟨(), rfl, trivial, by rw [ht]; exact hP9, hD9⟩, hS.F ht⟩) hS.2.2 dJ0_getBytes_840e7_43
def wz_c_putStr_9_11_34 : List Cond := .code yJ5_putStringAt_47b60 cJ5_putStringAt_47b60 3 none :: ([.methodLink RJ5 397 ⟨"java/lang/AbstractStringBuilder", "inflateIfNeededFor", "(Ljava/lang/String;)V"⟩, .sameMethod "java/lang/AbstractStringBuilder" "java/lang/AbstractStringBuilder" "inflateIfNeededFor" "(Ljava/lang/String;)V", .selects RJ4 ⟨"java/lang/AbstractStringBuilder", "inflateIfNeededFor", "(Ljava/lang/String;)V"⟩ yJ5_inflateIfNeededFor_a7421, .instanceMethod yJ5_inflateIfNeededFor_a7421, .initialized RJ5, .fieldLink RJ5 15 "java/lang/AbstractStringBuilder" "value" "[B", .fieldLink RJ5 22 "java/lang/AbstractStringBuilder" "coder" "B", .methodLink RJ5 399 yJ0_getBytes_840e7, .instanceMethod yJ0_getBytes_840e7, .selects RJ0 yJ0_getBytes_840e7 yJ0_getBytes_840e7, .initialized RJ0] ++ (wsJ40 ++ (wz_c_inflIf ++ (wz_c_getBytes_9_11_34 ++ ([])))))
set_option maxRecDepth 100000 in
theorem gz_c_putStr_9_11_34_c_inflIf : GoodIn wz_c_putStr_9_11_34 wz_c_inflIf := goodIn_sub (fun w h => List.mem_cons_of_mem _ (List.mem_append_right _ (List.mem_append_right _ (List.mem_append_left _ h)))) (by decide +kernel)
set_option maxRecDepth 100000 in
theorem gz_c_putStr_9_11_34_c_getBytes_9_11_34 : GoodIn wz_c_putStr_9_11_34 wz_c_getBytes_9_11_34 := goodIn_sub (fun w h => List.mem_cons_of_mem _ (List.mem_append_right _ (List.mem_append_right _ (List.mem_append_right _ (List.mem_append_left _ h))))) (by decide +kernel)
set_option maxRecDepth 100000 in
theorem gv_c_putStr_9_11_34_c_inflIf_397 : GoodIn wz_c_putStr_9_11_34 (va_wsU RJ5 397 RJ4 "java/lang/AbstractStringBuilder" ⟨"java/lang/AbstractStringBuilder", "inflateIfNeededFor", "(Ljava/lang/String;)V"⟩ yJ5_inflateIfNeededFor_a7421 wz_c_inflIf) := goodIn_app (goodIn_of _ (by decide +kernel)) gz_c_putStr_9_11_34_c_inflIf
set_option maxRecDepth 100000 in
theorem gv_c_putStr_9_11_34_c_getBytes_9_11_34_399 : GoodIn wz_c_putStr_9_11_34 (wsV RJ5 399 RJ0 yJ0_getBytes_840e7 wz_c_getBytes_9_11_34) := goodIn_app (goodIn_of _ (by decide +kernel)) gz_c_putStr_9_11_34_c_getBytes_9_11_34
set_option maxHeartbeats 4000000 in
set_option maxRecDepth 100000 in
theorem c_putStr_9_11_34 (l : Launch) (D : va_G) (y : Nat → ClassId) (sz : Nat) (h0 : Nat) (bv : Nat) (w1 : Value) (w2 : Value) (sx : Nat) (tx : Nat) (g : Nat → Int32) : Met l yJ5_putStringAt_47b60 wz_c_putStr_9_11_34 ({ frames := 2, cells := 0, slots := 0, locals := 83 }) (va_Pc [.ref h0, .int 11, .ref sx] (zB D y [(h0, .inr (1, [.ref bv, .int 0, w1, w2])), (bv, .inl (y 0, 34, .inl g))] sz [] [("java/lang/String", "COMPACT_STRINGS", "Z", .int 1)] [] [.inr (.inl (sx, tx, 13, zs9))])) (va_Qv (fun _ : Unit => True) (fun _ t => va_P D vwCl [(h0, .inr (1, [.ref bv, .int 0, w1, w2])), (bv, .inl (y 0, 34, .inl (va_cpy zs9 g (0 : Int32).toNatClampNeg (11 : Int32).toNatClampNeg (13 : Int32).toNatClampNeg)))] t.heap ∧ va_D (va_A [(h0, .inr (1, [.ref bv, .int 0, w1, w2])), (bv, .inl (y 0, 34, .inl g))] sz) [(h0, .inr (1, [.ref bv, .int 0, w1, w2])), (bv, .inl (y 0, 34, .inl (va_cpy zs9 g (0 : Int32).toNatClampNeg (11 : Int32).toNatClampNeg (13 : Int32).toNatClampNeg)))]) (va_A [(h0, .inr (1, [.ref bv, .int 0, w1, w2])), (bv, .inl (y 0, 34, .inl g))] sz)) 0 0 (va_A [(h0, .inr (1, [.ref bv, .int 0, w1, w2])), (bv, .inl (y 0, 34, .inl g))] sz) := by
  refine Met.ofW (cc := cJ5_putStringAt_47b60) (maxL := 3) (ret := none) (by decide) rfl ?_
  intro p e s m args below meth c s₁ B hml hv
  obtain ⟨rfl, hsz, hP, hK, hD0, hN, hE, hO, hT, hG⟩ := hv
  have hx := B.exec
  have hb := B.bytes
  have hr := B.returns
  have hts := atoms_spec (ws := wz_c_putStr_9_11_34) B.pre
  have hown : s.vm.findClass RJ5 = some m.cls := findClass_of_methodNamed B.named
  have hlocks := B.notSynchronized
  subst hsz
  have hD := hD0.self (sz := s.heap.size)
  generalize hAe : va_A [(h0, .inr (1, [.ref bv, .int 0, w1, w2])), (bv, .inl (y 0, 34, .inl g))] s.heap.size = A at hD hE hT hG ⊢
  have hA : ∀ q : Nat, s.heap.size ≤ q → A q := fun q h => by rw [← hAe]; exact Or.inr h
  have hS : va_S A s.heap s.heap [] := va_S.rf
  have hl := lv_entry ([.ref h0, .int 11, .ref sx]) (n := 3) (Nat.le_of_ble_eq_true rfl)
  rw [lg_entry_eq]
  generalize (lg_sl ([.ref h0, .int 11, .ref sx]) ++ List.replicate (3 - (lg_sl ([.ref h0, .int 11, .ref sx])).length) Slot.unset).toArray = ls at hl ⊢
  have hl : lv_has ls 3 [(0, .ref h0), (1, .int 11), (2, .ref sx)] := hl
  refine lv_aload_n hx hb dJ5_putStringAt_47b60_0 rfl (lv_at hl 0 rfl) ?_
  refine lv_aload_n hx hb dJ5_putStringAt_47b60_1 rfl (lv_at hl 2 rfl) ?_
  have hPc := hP.sub (ws' := [(h0, .inr (1, [.ref bv, .int 0, w1, w2]))]) [0] rfl
  have hDc := hD.sub (ws' := [(h0, .inr (1, [.ref bv, .int 0, w1, w2]))]) [0] (by decide) rfl
  have hFc := va_free (wc := [(h0, .inr (1, [.ref bv, .int 0, w1, w2]))]) hD hS hA [0] rfl
  refine va_callv (va_runU (As := [.ref sx]) (rest := []) ⟨hx, hb, hml, hown, hts⟩ (c_inflIf l D y s.heap.size h0 ((.ref bv)) w1 w2 sx tx 13 zs9) (va_cwU 1 hts gv_c_putStr_9_11_34_c_inflIf_397 rfl rfl rfl rfl (by decide +kernel) ⟨(Nat.le_of_ble_eq_true rfl), (Nat.le_of_ble_eq_true rfl)⟩) (zB.preV hPc hDc hK hN hE hO hT hG hS hFc (fun _ h => nomatch h) (List.forall_mem_cons.mpr ⟨List.mem_of_getElem? (i := 0) rfl, (fun _ h => nomatch h)⟩) (fun _ h => nomatch h) (List.forall_mem_cons.mpr ⟨List.mem_of_getElem? (i := 0) rfl, (fun _ h => nomatch h)⟩) (va_recv hK hPc (ci := 1) (q0 := 0) rfl rfl)) rfl rfl hl.1 rfl (lv_room (Nat.le_of_ble_eq_true rfl)) dJ5_putStringAt_47b60_2 ⟨(Nat.le_of_ble_eq_true rfl), (Nat.le_of_ble_eq_true rfl)⟩) hS (fun q _ h => hFc q h) hFc (fun u t H1 locs ht hvm hw hB hz1 hk1 hS => ?_)
  obtain ⟨hP1, hD1⟩ := hB
  rw [ht] at hP1
  obtain ⟨hP, hD⟩ := va_join (wr := [(bv, .inl (y 0, 34, .inl g))]) (w1 := [(h0, .inr (1, [.ref bv, .int 0, w1, w2]))]) hP hD [0] [1] rfl rfl (by decide) (by decide) hk1 hFc hP1 hD1
  generalize H1 = H at hP hS ⊢
  have hP : va_P D vwCl [(bv, .inl (y 0, 34, .inl g)), (h0, .inr (1, [.ref bv, .int 0, w1, w2]))] H := hP
  have hD : va_D A [(bv, .inl (y 0, 34, .inl g)), (h0, .inr (1, [.ref bv, .int 0, w1, w2]))] := hD
  refine lv_aload_n hx hb dJ5_putStringAt_47b60_5 rfl (lv_at hl 2 rfl) ?_
  refine lv_aload_n hx hb dJ5_putStringAt_47b60_6 rfl (lv_at hl 0 rfl) ?_
  refine va_get (D := D) (ci := 1) (v := .ref bv) (C := RJ4) (T := TJ4) (N := 4) hx hb hts (by decide +kernel) hown hK hP 1 rfl rfl 0 (by decide) (hts (.fieldLink RJ5 15 "java/lang/AbstractStringBuilder" "value" "[B") (by decide +kernel)) (fun _ h9 => h9) rfl dJ5_putStringAt_47b60_7 ?_
  refine lv_iload_n hx hb dJ5_putStringAt_47b60_10 rfl (lv_at hl 1 rfl) ?_
  refine lv_aload_n hx hb dJ5_putStringAt_47b60_11 rfl (lv_at hl 0 rfl) ?_
  refine va_get (D := D) (ci := 1) (v := .int 0) (C := RJ4) (T := TJ4) (N := 4) hx hb hts (by decide +kernel) hown hK hP 1 rfl rfl 1 (by decide) (hts (.fieldLink RJ5 22 "java/lang/AbstractStringBuilder" "coder" "B") (by decide +kernel)) (fun _ h9 => h9) rfl dJ5_putStringAt_47b60_12 ?_
  have hPc := hP.sub (ws' := [(bv, .inl (y 0, 34, .inl g))]) [0] rfl
  have hDc := hD.sub (ws' := [(bv, .inl (y 0, 34, .inl g))]) [0] (by decide) rfl
  have hFc := va_free (wc := [(bv, .inl (y 0, 34, .inl g))]) hD hS hA [0] rfl
  refine va_callv (va_runV (As := [.ref bv, .int 11, .int 0]) (rest := []) ⟨hx, hb, hml, hown, hts⟩ (c_getBytes_9_11_34 l D y H.size bv sx tx g) (cwV 3 hts gv_c_putStr_9_11_34_c_getBytes_9_11_34_399 rfl rfl rfl (by decide +kernel) ⟨(Nat.le_of_ble_eq_true rfl), (Nat.le_of_ble_eq_true rfl)⟩) (zB.preV hPc hDc hK hN hE hO hT hG hS hFc (fun _ h => nomatch h) (List.forall_mem_cons.mpr ⟨List.mem_of_getElem? (i := 0) rfl, (fun _ h => nomatch h)⟩) (fun _ h => nomatch h) (List.forall_mem_cons.mpr ⟨List.mem_of_getElem? (i := 0) rfl, (fun _ h => nomatch h)⟩) (zStr.recv (show zStr sx tx 13 zs9 A s s.heap from (hG (.inr (.inl (sx, tx, 13, zs9))) (List.mem_of_getElem? (i := 0) rfl))) hS)) rfl rfl hl.1 rfl (lv_room (Nat.le_of_ble_eq_true rfl)) dJ5_putStringAt_47b60_15 ⟨(Nat.le_of_ble_eq_true rfl), (Nat.le_of_ble_eq_true rfl)⟩) hS (fun q _ h => hFc q h) hFc (fun u t H1 locs ht hvm hw hB hz1 hk1 hS => ?_)
  obtain ⟨hP1, hD1⟩ := hB
  rw [ht] at hP1
  obtain ⟨hP, hD⟩ := va_join (wr := [(h0, .inr (1, [.ref bv, .int 0, w1, w2]))]) (w1 := [(bv, .inl (y 0, 34, .inl (va_cpy zs9 g (0 : Int32).toNatClampNeg (11 : Int32).toNatClampNeg (13 : Int32).toNatClampNeg)))]) hP hD [0] [1] rfl rfl (by decide) (by decide) hk1 hFc hP1 hD1
  generalize H1 = H at hP hS ⊢
  have hP : va_P D vwCl [(h0, .inr (1, [.ref bv, .int 0, w1, w2])), (bv, .inl (y 0, 34, .inl (va_cpy zs9 g (0 : Int32).toNatClampNeg (11 : Int32).toNatClampNeg (13 : Int32).toNatClampNeg)))] H := hP
  have hD : va_D A [(h0, .inr (1, [.ref bv, .int 0, w1, w2])), (bv, .inl (y 0, 34, .inl (va_cpy zs9 g (0 : Int32).toNatClampNeg (11 : Int32).toNatClampNeg (13 : Int32).toNatClampNeg)))] := hD
  have hP9 := hP.sub (ws' := [(h0, .inr (1, [.ref bv, .int 0, w1, w2])), (bv, .inl (y 0, 34, .inl (va_cpy zs9 g (0 : Int32).toNatClampNeg (11 : Int32).toNatClampNeg (13 : Int32).toNatClampNeg)))]) [0, 1] rfl
  have hD9 := hD.sub (ws' := [(h0, .inr (1, [.ref bv, .int 0, w1, w2])), (bv, .inl (y 0, 34, .inl (va_cpy zs9 g (0 : Int32).toNatClampNeg (11 : Int32).toNatClampNeg (13 : Int32).toNatClampNeg)))]) [0, 1] (by decide) rfl
  refine W.widen (k := 0) (n := 0) (Nat.le_of_ble_eq_true rfl) (Nat.le_of_ble_eq_true rfl) ?_
  exact W.vret hx hb hr (fun t ht hW => ⟨⟨(), rfl, trivial, by rw [ht]; exact hP9, hD9⟩, hS.F ht⟩) hS.2.2 dJ5_putStringAt_47b60_18
def zk18 : Nat → Int32 := va_cpy zs9 zk1 (0 : Int32).toNatClampNeg (11 : Int32).toNatClampNeg (13 : Int32).toNatClampNeg
def wz_c_ASBapp_b2 : List Cond := .code yJ5_append_cf1ce cJ5_append_cf1ce 3 (some (.object "java/lang/AbstractStringBuilder")) :: ([.methodLink RJ5 32 yJ0_length_8abf5, .instanceMethod yJ0_length_8abf5, .selects RJ0 yJ0_length_8abf5 yJ0_length_8abf5, .initialized RJ0, .fieldLink RJ5 79 "java/lang/AbstractStringBuilder" "count" "I", .methodLink RJ5 100 ⟨"java/lang/AbstractStringBuilder", "ensureCapacityInternal", "(I)V"⟩, .sameMethod "java/lang/AbstractStringBuilder" "java/lang/AbstractStringBuilder" "ensureCapacityInternal" "(I)V", .selects RJ4 ⟨"java/lang/AbstractStringBuilder", "ensureCapacityInternal", "(I)V"⟩ yJ5_ensureCapacityInternal_d00df, .instanceMethod yJ5_ensureCapacityInternal_d00df, .initialized RJ5, .methodLink RJ5 208 ⟨"java/lang/AbstractStringBuilder", "putStringAt", "(ILjava/lang/String;)V"⟩, .sameMethod "java/lang/AbstractStringBuilder" "java/lang/AbstractStringBuilder" "putStringAt" "(ILjava/lang/String;)V", .selects RJ4 ⟨"java/lang/AbstractStringBuilder", "putStringAt", "(ILjava/lang/String;)V"⟩ yJ5_putStringAt_47b60, .instanceMethod yJ5_putStringAt_47b60] ++ (wsJ40 ++ (wz_c_len_o_13 ++ (wz_c_ens_b2 ++ (wz_c_putStr_9_11_34 ++ ([]))))))
set_option maxRecDepth 100000 in
theorem gz_c_ASBapp_b2_c_len_o_13 : GoodIn wz_c_ASBapp_b2 wz_c_len_o_13 := goodIn_sub (fun w h => List.mem_cons_of_mem _ (List.mem_append_right _ (List.mem_append_right _ (List.mem_append_left _ h)))) (by decide +kernel)
set_option maxRecDepth 100000 in
theorem gz_c_ASBapp_b2_c_ens_b2 : GoodIn wz_c_ASBapp_b2 wz_c_ens_b2 := goodIn_sub (fun w h => List.mem_cons_of_mem _ (List.mem_append_right _ (List.mem_append_right _ (List.mem_append_right _ (List.mem_append_left _ h))))) (by decide +kernel)
set_option maxRecDepth 100000 in
theorem gz_c_ASBapp_b2_c_putStr_9_11_34 : GoodIn wz_c_ASBapp_b2 wz_c_putStr_9_11_34 := goodIn_sub (fun w h => List.mem_cons_of_mem _ (List.mem_append_right _ (List.mem_append_right _ (List.mem_append_right _ (List.mem_append_right _ (List.mem_append_left _ h)))))) (by decide +kernel)
set_option maxRecDepth 100000 in
theorem gv_c_ASBapp_b2_c_len_o_13_32 : GoodIn wz_c_ASBapp_b2 (wsV RJ5 32 RJ0 yJ0_length_8abf5 wz_c_len_o_13) := goodIn_app (goodIn_of _ (by decide +kernel)) gz_c_ASBapp_b2_c_len_o_13
set_option maxRecDepth 100000 in
theorem gv_c_ASBapp_b2_c_ens_b2_100 : GoodIn wz_c_ASBapp_b2 (va_wsU RJ5 100 RJ4 "java/lang/AbstractStringBuilder" ⟨"java/lang/AbstractStringBuilder", "ensureCapacityInternal", "(I)V"⟩ yJ5_ensureCapacityInternal_d00df wz_c_ens_b2) := goodIn_app (goodIn_of _ (by decide +kernel)) gz_c_ASBapp_b2_c_ens_b2
set_option maxRecDepth 100000 in
theorem gv_c_ASBapp_b2_c_putStr_9_11_34_208 : GoodIn wz_c_ASBapp_b2 (va_wsU RJ5 208 RJ4 "java/lang/AbstractStringBuilder" ⟨"java/lang/AbstractStringBuilder", "putStringAt", "(ILjava/lang/String;)V"⟩ yJ5_putStringAt_47b60 wz_c_putStr_9_11_34) := goodIn_app (goodIn_of _ (by decide +kernel)) gz_c_ASBapp_b2_c_putStr_9_11_34
set_option maxHeartbeats 4000000 in
set_option maxRecDepth 100000 in
theorem c_ASBapp_b2 (l : Launch) (D : va_G) (y : Nat → ClassId) (sz : Nat) (h0 : Nat) (bv : Nat) (w1 : Value) (sx : Nat) (tx : Nat) : Met l yJ5_append_cf1ce wz_c_ASBapp_b2 ({ frames := 4, cells := 1, slots := 34, locals := 105 }) (va_Pc [.ref h0, .ref sx] (zB D y [(h0, .inr (1, [.ref bv, .int 0, w1, .int 11])), (bv, .inl (y 0, 16, .inl zk0))] sz [] [("java/lang/String", "COMPACT_STRINGS", "Z", .int 1)] [] [.inr (.inl (sx, tx, 13, zs9))])) (va_Qq (fun (r : Option Nat) (_ : Unit) => r = some h0) (fun _ t => ∃ q3 : Nat, va_P D vwCl [(h0, .inr (1, [.ref q3, .int 0, w1, .int 24])), (bv, .inl (y 0, 16, .inl zk0)), (q3, .inl (y 0, 34, .inl zk18))] t.heap ∧ va_D (va_A [(h0, .inr (1, [.ref bv, .int 0, w1, .int 11])), (bv, .inl (y 0, 16, .inl zk0))] sz) [(h0, .inr (1, [.ref q3, .int 0, w1, .int 24])), (bv, .inl (y 0, 16, .inl zk0)), (q3, .inl (y 0, 34, .inl zk18))]) (va_A [(h0, .inr (1, [.ref bv, .int 0, w1, .int 11])), (bv, .inl (y 0, 16, .inl zk0))] sz)) 1 34 (va_A [(h0, .inr (1, [.ref bv, .int 0, w1, .int 11])), (bv, .inl (y 0, 16, .inl zk0))] sz) := by
  refine Met.ofW (cc := cJ5_append_cf1ce) (maxL := 3) (ret := (some (.object "java/lang/AbstractStringBuilder"))) (by decide) rfl ?_
  intro p e s m args below meth c s₁ B hml hv
  obtain ⟨rfl, hsz, hP, hK, hD0, hN, hE, hO, hT, hG⟩ := hv
  have hx := B.exec
  have hb := B.bytes
  have hr := B.returns
  have hts := atoms_spec (ws := wz_c_ASBapp_b2) B.pre
  have hown : s.vm.findClass RJ5 = some m.cls := findClass_of_methodNamed B.named
  have hlocks := B.notSynchronized
  subst hsz
  have hD := hD0.self (sz := s.heap.size)
  generalize hAe : va_A [(h0, .inr (1, [.ref bv, .int 0, w1, .int 11])), (bv, .inl (y 0, 16, .inl zk0))] s.heap.size = A at hD hE hT hG ⊢
  have hA : ∀ q : Nat, s.heap.size ≤ q → A q := fun q h => by rw [← hAe]; exact Or.inr h
  have hS : va_S A s.heap s.heap [] := va_S.rf
  have hl := lv_entry ([.ref h0, .ref sx]) (n := 3) (Nat.le_of_ble_eq_true rfl)
  rw [lg_entry_eq]
  generalize (lg_sl ([.ref h0, .ref sx]) ++ List.replicate (3 - (lg_sl ([.ref h0, .ref sx])).length) Slot.unset).toArray = ls at hl ⊢
  have hl : lv_has ls 3 [(0, .ref h0), (1, .ref sx)] := hl
  refine lv_aload_n hx hb dJ5_append_cf1ce_0 rfl (lv_at hl 1 rfl) ?_
  refine lv_ifnonnull (tgt := 9) hx hb dJ5_append_cf1ce_1 (by decide) ?_
  refine lv_aload_n hx hb dJ5_append_cf1ce_9 rfl (lv_at hl 1 rfl) ?_
  have hPc := hP.sub (ws' := []) [] rfl
  have hDc := hD.sub (ws' := []) [] (by decide) rfl
  have hFc := va_free (wc := []) hD hS hA [] rfl
  refine va_calli (va_runV (As := []) (rest := []) ⟨hx, hb, hml, hown, hts⟩ (c_len_o_13 l D y s.heap.size sx tx zs9) (cwV 0 hts gv_c_ASBapp_b2_c_len_o_13_32 rfl rfl rfl (by decide +kernel) ⟨(Nat.le_of_ble_eq_true rfl), (Nat.le_of_ble_eq_true rfl)⟩) (zB.preV hPc hDc hK hN hE hO hT hG hS hFc (fun _ h => nomatch h) (List.forall_mem_cons.mpr ⟨List.mem_of_getElem? (i := 0) rfl, (fun _ h => nomatch h)⟩) (fun _ h => nomatch h) (List.forall_mem_cons.mpr ⟨List.mem_of_getElem? (i := 0) rfl, (fun _ h => nomatch h)⟩) (zStr.recv (show zStr sx tx 13 zs9 A s s.heap from (hG (.inr (.inl (sx, tx, 13, zs9))) (List.mem_of_getElem? (i := 0) rfl))) hS)) rfl rfl hl.1 rfl (lv_room (Nat.le_of_ble_eq_true rfl)) dJ5_append_cf1ce_10 ⟨(Nat.le_of_ble_eq_true rfl), (Nat.le_of_ble_eq_true rfl)⟩) hS (fun q _ h => hFc q h) hFc (fun r1 u t H1 locs ht hvm hw hB hz1 hk1 hS => ?_)
  obtain ⟨hP1, hD1⟩ := hB
  rw [ht] at hP1
  obtain ⟨hP, hD⟩ := va_join (wr := [(h0, .inr (1, [.ref bv, .int 0, w1, .int 11])), (bv, .inl (y 0, 16, .inl zk0))]) (w1 := []) hP hD [] [0, 1] rfl rfl (by decide) (by decide) hk1 hFc hP1 hD1
  generalize H1 = H at hP hS ⊢
  have hP : va_P D vwCl [(h0, .inr (1, [.ref bv, .int 0, w1, .int 11])), (bv, .inl (y 0, 16, .inl zk0))] H := hP
  have hD : va_D A [(h0, .inr (1, [.ref bv, .int 0, w1, .int 11])), (bv, .inl (y 0, 16, .inl zk0))] := hD
  have hw : r1 = 13 := hw
  subst hw
  refine lv_istore_n (lv' := [(2, .int 13), (0, .ref h0), (1, .ref sx)]) hx hb dJ5_append_cf1ce_13 rfl hl (by decide) rfl (fun ls hl => ?_)
  refine lv_aload_n hx hb dJ5_append_cf1ce_14 rfl (lv_at hl 1 rfl) ?_
  refine lv_aload_n hx hb dJ5_append_cf1ce_15 rfl (lv_at hl 1 rfl) ?_
  refine va_get (D := D) (ci := 1) (v := .int 11) (C := RJ4) (T := TJ4) (N := 4) hx hb hts (by decide +kernel) hown hK hP 0 rfl rfl 3 (by decide) (hts (.fieldLink RJ5 79 "java/lang/AbstractStringBuilder" "count" "I") (by decide +kernel)) (fun _ h9 => h9) rfl dJ5_append_cf1ce_16 ?_
  refine lv_iload_n hx hb dJ5_append_cf1ce_19 rfl (lv_at hl 0 rfl) ?_
  refine lv_iadd hx hb dJ5_append_cf1ce_20 ?_
  refine lv_topi (fun v2 ev2 => ?_)
  have ev2 : v2 = 24 := ev2.trans (by decide +kernel)
  subst ev2
  have hPc := hP.sub (ws' := [(h0, .inr (1, [.ref bv, .int 0, w1, .int 11])), (bv, .inl (y 0, 16, .inl zk0))]) [0, 1] rfl
  have hDc := hD.sub (ws' := [(h0, .inr (1, [.ref bv, .int 0, w1, .int 11])), (bv, .inl (y 0, 16, .inl zk0))]) [0, 1] (by decide) rfl
  have hFc := va_free (wc := [(h0, .inr (1, [.ref bv, .int 0, w1, .int 11])), (bv, .inl (y 0, 16, .inl zk0))]) hD hS hA [0, 1] rfl
  refine va_callv (va_runU (As := [.int 24]) (rest := []) ⟨hx, hb, hml, hown, hts⟩ (c_ens_b2 l D y H.size h0 bv w1 ((.int 11))) (va_cwU 1 hts gv_c_ASBapp_b2_c_ens_b2_100 rfl rfl rfl rfl (by decide +kernel) ⟨(Nat.le_of_ble_eq_true rfl), (Nat.le_of_ble_eq_true rfl)⟩) (zB.preV hPc hDc hK hN hE hO hT hG hS hFc (fun _ h => nomatch h) (fun _ h => nomatch h) (fun _ h => nomatch h) (fun _ h => nomatch h) (va_recv hK hPc (ci := 1) (q0 := 0) rfl rfl)) rfl rfl hl.1 rfl (lv_room (Nat.le_of_ble_eq_true rfl)) dJ5_append_cf1ce_21 ⟨(Nat.le_of_ble_eq_true rfl), (Nat.le_of_ble_eq_true rfl)⟩) hS (fun q _ h => hFc q h) hFc (fun u t H1 locs ht hvm hw hB hz1 hk1 hS => ?_)
  obtain ⟨q3, hP1, hD1⟩ := hB
  rw [ht] at hP1
  obtain ⟨hP, hD⟩ := va_join (wr := []) (w1 := [(h0, .inr (1, [.ref q3, .int 0, w1, .int 11])), (bv, .inl (y 0, 16, .inl zk0)), (q3, .inl (y 0, 34, .inl zk1))]) hP hD [0, 1] [] rfl rfl (by decide) (by decide) hk1 hFc hP1 hD1
  generalize H1 = H at hP hS ⊢
  have hP : va_P D vwCl [(h0, .inr (1, [.ref q3, .int 0, w1, .int 11])), (bv, .inl (y 0, 16, .inl zk0)), (q3, .inl (y 0, 34, .inl zk1))] H := hP
  have hD : va_D A [(h0, .inr (1, [.ref q3, .int 0, w1, .int 11])), (bv, .inl (y 0, 16, .inl zk0)), (q3, .inl (y 0, 34, .inl zk1))] := hD
  refine lv_aload_n hx hb dJ5_append_cf1ce_24 rfl (lv_at hl 1 rfl) ?_
  refine lv_aload_n hx hb dJ5_append_cf1ce_25 rfl (lv_at hl 1 rfl) ?_
  refine va_get (D := D) (ci := 1) (v := .int 11) (C := RJ4) (T := TJ4) (N := 4) hx hb hts (by decide +kernel) hown hK hP 0 rfl rfl 3 (by decide) (hts (.fieldLink RJ5 79 "java/lang/AbstractStringBuilder" "count" "I") (by decide +kernel)) (fun _ h9 => h9) rfl dJ5_append_cf1ce_26 ?_
  refine lv_aload_n hx hb dJ5_append_cf1ce_29 rfl (lv_at hl 2 rfl) ?_
  have hPc := hP.sub (ws' := [(h0, .inr (1, [.ref q3, .int 0, w1, .int 11])), (q3, .inl (y 0, 34, .inl zk1))]) [0, 2] rfl
  have hDc := hD.sub (ws' := [(h0, .inr (1, [.ref q3, .int 0, w1, .int 11])), (q3, .inl (y 0, 34, .inl zk1))]) [0, 2] (by decide) rfl
  have hFc := va_free (wc := [(h0, .inr (1, [.ref q3, .int 0, w1, .int 11])), (q3, .inl (y 0, 34, .inl zk1))]) hD hS hA [0, 2] rfl
  refine va_callv (va_runU (As := [.int 11, .ref sx]) (rest := []) ⟨hx, hb, hml, hown, hts⟩ (c_putStr_9_11_34 l D y H.size h0 q3 w1 ((.int 11)) sx tx zk1) (va_cwU 2 hts gv_c_ASBapp_b2_c_putStr_9_11_34_208 rfl rfl rfl rfl (by decide +kernel) ⟨(Nat.le_of_ble_eq_true rfl), (Nat.le_of_ble_eq_true rfl)⟩) (zB.preV hPc hDc hK hN hE hO hT hG hS hFc (fun _ h => nomatch h) (List.forall_mem_cons.mpr ⟨List.mem_of_getElem? (i := 0) rfl, (fun _ h => nomatch h)⟩) (fun _ h => nomatch h) (List.forall_mem_cons.mpr ⟨List.mem_of_getElem? (i := 0) rfl, (fun _ h => nomatch h)⟩) (va_recv hK hPc (ci := 1) (q0 := 0) rfl rfl)) rfl rfl hl.1 rfl (lv_room (Nat.le_of_ble_eq_true rfl)) dJ5_append_cf1ce_30 ⟨(Nat.le_of_ble_eq_true rfl), (Nat.le_of_ble_eq_true rfl)⟩) hS (fun q _ h => hFc q h) hFc (fun u t H1 locs ht hvm hw hB hz1 hk1 hS => ?_)
  obtain ⟨hP1, hD1⟩ := hB
  rw [ht] at hP1
  obtain ⟨hP, hD⟩ := va_join (wr := [(bv, .inl (y 0, 16, .inl zk0))]) (w1 := [(h0, .inr (1, [.ref q3, .int 0, w1, .int 11])), (q3, .inl (y 0, 34, .inl zk18))]) hP hD [0, 2] [1] rfl rfl (by decide) (by decide) hk1 hFc hP1 hD1
  generalize H1 = H at hP hS ⊢
  have hP : va_P D vwCl [(bv, .inl (y 0, 16, .inl zk0)), (h0, .inr (1, [.ref q3, .int 0, w1, .int 11])), (q3, .inl (y 0, 34, .inl zk18))] H := hP
  have hD : va_D A [(bv, .inl (y 0, 16, .inl zk0)), (h0, .inr (1, [.ref q3, .int 0, w1, .int 11])), (q3, .inl (y 0, 34, .inl zk18))] := hD
  refine lv_aload_n hx hb dJ5_append_cf1ce_33 rfl (lv_at hl 1 rfl) ?_
  refine lv_dup hx hb dJ5_append_cf1ce_34 rfl ?_
  refine va_get (D := D) (ci := 1) (v := .int 11) (C := RJ4) (T := TJ4) (N := 4) hx hb hts (by decide +kernel) hown hK hP 1 rfl rfl 3 (by decide) (hts (.fieldLink RJ5 79 "java/lang/AbstractStringBuilder" "count" "I") (by decide +kernel)) (fun _ h9 => h9) rfl dJ5_append_cf1ce_35 ?_
  refine lv_iload_n hx hb dJ5_append_cf1ce_38 rfl (lv_at hl 0 rfl) ?_
  refine lv_iadd hx hb dJ5_append_cf1ce_39 ?_
  refine lv_topi (fun v4 ev4 => ?_)
  have ev4 : v4 = 24 := ev4.trans (by decide +kernel)
  subst ev4
  refine va_put (D := D) (ci := 1) (v := .int 24) (ty := .int) (C := RJ4) (T := TJ4) (N := 4) hx hb hts (by decide +kernel) tyJ4 tyJ4_ok nmJ4 hown hK hP hD hS 1 rfl rfl 3 (by decide) (hts (.fieldLink RJ5 79 "java/lang/AbstractStringBuilder" "count" "I") (by decide +kernel)) (fun _ h9 => h9) rfl (by decide +kernel) rfl rfl (Nat.le_of_ble_eq_true rfl) dJ5_append_cf1ce_40 (fun H locs hP hD hS => ?_)
  have hP : va_P D vwCl [(bv, .inl (y 0, 16, .inl zk0)), (h0, .inr (1, [.ref q3, .int 0, w1, .int 24])), (q3, .inl (y 0, 34, .inl zk18))] H := hP
  have hD : va_D A [(bv, .inl (y 0, 16, .inl zk0)), (h0, .inr (1, [.ref q3, .int 0, w1, .int 24])), (q3, .inl (y 0, 34, .inl zk18))] := hD
  refine lv_aload_n hx hb dJ5_append_cf1ce_43 rfl (lv_at hl 1 rfl) ?_
  have hP9 := hP.sub (ws' := [(h0, .inr (1, [.ref q3, .int 0, w1, .int 24])), (bv, .inl (y 0, 16, .inl zk0)), (q3, .inl (y 0, 34, .inl zk18))]) [1, 0, 2] rfl
  have hD9 := hD.sub (ws' := [(h0, .inr (1, [.ref q3, .int 0, w1, .int 24])), (bv, .inl (y 0, 16, .inl zk0)), (q3, .inl (y 0, 34, .inl zk18))]) [1, 0, 2] (by decide) rfl
  refine W.widen (k := 1) (n := 34) (Nat.le_of_ble_eq_true rfl) (Nat.le_of_ble_eq_true rfl) ?_
  exact W.aret (v := .ref h0) hx hb hr (Or.inl ⟨_, rfl⟩) (Or.inr ⟨_, rfl⟩) (fun t ht hW => ⟨⟨(some h0), (), rfl, rfl, q3, by rw [ht]; exact hP9, hD9⟩, hS.F ht⟩) hS.2.2 dJ5_append_cf1ce_44
def wz_c_SBapp_b2 : List Cond := .code yJ4_append_15ec4 cJ4_append_15ec4 2 (some (.object "java/lang/StringBuilder")) :: ([.methodLink RJ4 29 yJ5_append_cf1ce, .sameMethod RJ5 RJ5 "append" "(Ljava/lang/String;)Ljava/lang/AbstractStringBuilder;", .superclass RJ4 RJ5, .instanceMethod yJ5_append_cf1ce, .initialized RJ5] ++ (wz_c_ASBapp_b2 ++ ([])))
set_option maxRecDepth 100000 in
theorem gz_c_SBapp_b2_c_ASBapp_b2 : GoodIn wz_c_SBapp_b2 wz_c_ASBapp_b2 := goodIn_sub (fun w h => List.mem_cons_of_mem _ (List.mem_append_right _ (List.mem_append_left _ h))) (by decide +kernel)
set_option maxRecDepth 100000 in
theorem gv_c_SBapp_b2_c_ASBapp_b2_29 : GoodIn wz_c_SBapp_b2 (va_wsSU RJ4 29 yJ5_append_cf1ce wz_c_ASBapp_b2) := goodIn_app (goodIn_of _ (by decide +kernel)) gz_c_SBapp_b2_c_ASBapp_b2
set_option maxHeartbeats 4000000 in
set_option maxRecDepth 100000 in
theorem c_SBapp_b2 (l : Launch) (D : va_G) (y : Nat → ClassId) (sz : Nat) (h0 : Nat) (bv : Nat) (w1 : Value) (sx : Nat) (tx : Nat) : Met l yJ4_append_15ec4 wz_c_SBapp_b2 ({ frames := 5, cells := 1, slots := 34, locals := 127 }) (va_Pc [.ref h0, .ref sx] (zB D y [(h0, .inr (1, [.ref bv, .int 0, w1, .int 11])), (bv, .inl (y 0, 16, .inl zk0))] sz [] [("java/lang/String", "COMPACT_STRINGS", "Z", .int 1)] [] [.inr (.inl (sx, tx, 13, zs9))])) (va_Qq (fun (r : Option Nat) (_ : Unit) => r = some h0) (fun _ t => ∃ q2 : Nat, va_P D vwCl [(h0, .inr (1, [.ref q2, .int 0, w1, .int 24])), (bv, .inl (y 0, 16, .inl zk0)), (q2, .inl (y 0, 34, .inl zk18))] t.heap ∧ va_D (va_A [(h0, .inr (1, [.ref bv, .int 0, w1, .int 11])), (bv, .inl (y 0, 16, .inl zk0))] sz) [(h0, .inr (1, [.ref q2, .int 0, w1, .int 24])), (bv, .inl (y 0, 16, .inl zk0)), (q2, .inl (y 0, 34, .inl zk18))]) (va_A [(h0, .inr (1, [.ref bv, .int 0, w1, .int 11])), (bv, .inl (y 0, 16, .inl zk0))] sz)) 1 34 (va_A [(h0, .inr (1, [.ref bv, .int 0, w1, .int 11])), (bv, .inl (y 0, 16, .inl zk0))] sz) := by
  refine Met.ofW (cc := cJ4_append_15ec4) (maxL := 2) (ret := (some (.object "java/lang/StringBuilder"))) (by decide) rfl ?_
  intro p e s m args below meth c s₁ B hml hv
  obtain ⟨rfl, hsz, hP, hK, hD0, hN, hE, hO, hT, hG⟩ := hv
  have hx := B.exec
  have hb := B.bytes
  have hr := B.returns
  have hts := atoms_spec (ws := wz_c_SBapp_b2) B.pre
  have hown : s.vm.findClass RJ4 = some m.cls := findClass_of_methodNamed B.named
  have hlocks := B.notSynchronized
  subst hsz
  have hD := hD0.self (sz := s.heap.size)
  generalize hAe : va_A [(h0, .inr (1, [.ref bv, .int 0, w1, .int 11])), (bv, .inl (y 0, 16, .inl zk0))] s.heap.size = A at hD hE hT hG ⊢
  have hA : ∀ q : Nat, s.heap.size ≤ q → A q := fun q h => by rw [← hAe]; exact Or.inr h
  have hS : va_S A s.heap s.heap [] := va_S.rf
  have hl := lv_entry ([.ref h0, .ref sx]) (n := 2) (Nat.le_of_ble_eq_true rfl)
  rw [lg_entry_eq]
  generalize (lg_sl ([.ref h0, .ref sx]) ++ List.replicate (2 - (lg_sl ([.ref h0, .ref sx])).length) Slot.unset).toArray = ls at hl ⊢
  have hl : lv_has ls 2 [(0, .ref h0), (1, .ref sx)] := hl
  refine lv_aload_n hx hb dJ4_append_15ec4_0 rfl (lv_at hl 0 rfl) ?_
  refine lv_aload_n hx hb dJ4_append_15ec4_1 rfl (lv_at hl 1 rfl) ?_
  have hPc := hP.sub (ws' := [(h0, .inr (1, [.ref bv, .int 0, w1, .int 11])), (bv, .inl (y 0, 16, .inl zk0))]) [0, 1] rfl
  have hDc := hD.sub (ws' := [(h0, .inr (1, [.ref bv, .int 0, w1, .int 11])), (bv, .inl (y 0, 16, .inl zk0))]) [0, 1] (by decide) rfl
  have hFc := va_free (wc := [(h0, .inr (1, [.ref bv, .int 0, w1, .int 11])), (bv, .inl (y 0, 16, .inl zk0))]) hD hS hA [0, 1] rfl
  refine va_callq (va_runSU (hK.1 1 _ rfl).2 (As := [.ref sx]) (rest := []) ⟨hx, hb, hml, hown, hts⟩ (c_ASBapp_b2 l D y s.heap.size h0 bv w1 sx tx) (va_cwSU 1 hts gv_c_SBapp_b2_c_ASBapp_b2_29 rfl rfl rfl (by decide +kernel) ⟨(Nat.le_of_ble_eq_true rfl), (Nat.le_of_ble_eq_true rfl)⟩) (zB.preV hPc hDc hK hN hE hO hT hG hS hFc (fun _ h => nomatch h) (List.forall_mem_cons.mpr ⟨List.mem_of_getElem? (i := 0) rfl, (fun _ h => nomatch h)⟩) (fun _ h => nomatch h) (List.forall_mem_cons.mpr ⟨List.mem_of_getElem? (i := 0) rfl, (fun _ h => nomatch h)⟩) (va_recv hK hPc (ci := 1) (q0 := 0) rfl rfl)) rfl rfl hl.1 rfl (lv_room (Nat.le_of_ble_eq_true rfl)) dJ4_append_15ec4_2 ⟨(Nat.le_of_ble_eq_true rfl), (Nat.le_of_ble_eq_true rfl)⟩) hS (fun q _ h => hFc q h) hFc (fun r1 u t H1 locs ht hvm hw hB hz1 hk1 hS => ?_)
  obtain ⟨q2, hP1, hD1⟩ := hB
  rw [ht] at hP1
  obtain ⟨hP, hD⟩ := va_join (wr := []) (w1 := [(h0, .inr (1, [.ref q2, .int 0, w1, .int 24])), (bv, .inl (y 0, 16, .inl zk0)), (q2, .inl (y 0, 34, .inl zk18))]) hP hD [0, 1] [] rfl rfl (by decide) (by decide) hk1 hFc hP1 hD1
  generalize H1 = H at hP hS ⊢
  have hP : va_P D vwCl [(h0, .inr (1, [.ref q2, .int 0, w1, .int 24])), (bv, .inl (y 0, 16, .inl zk0)), (q2, .inl (y 0, 34, .inl zk18))] H := hP
  have hD : va_D A [(h0, .inr (1, [.ref q2, .int 0, w1, .int 24])), (bv, .inl (y 0, 16, .inl zk0)), (q2, .inl (y 0, 34, .inl zk18))] := hD
  have hw : r1 = some h0 := hw
  subst hw
  refine W.eq (g2 := F0 m 5 ls [.ref h0]) rfl ?_
  refine lv_pop hx hb dJ4_append_15ec4_5 rfl ?_
  refine lv_aload_n hx hb dJ4_append_15ec4_6 rfl (lv_at hl 0 rfl) ?_
  have hP9 := hP.sub (ws' := [(h0, .inr (1, [.ref q2, .int 0, w1, .int 24])), (bv, .inl (y 0, 16, .inl zk0)), (q2, .inl (y 0, 34, .inl zk18))]) [0, 1, 2] rfl
  have hD9 := hD.sub (ws' := [(h0, .inr (1, [.ref q2, .int 0, w1, .int 24])), (bv, .inl (y 0, 16, .inl zk0)), (q2, .inl (y 0, 34, .inl zk18))]) [0, 1, 2] (by decide) rfl
  refine W.widen (k := 1) (n := 34) (Nat.le_of_ble_eq_true rfl) (Nat.le_of_ble_eq_true rfl) ?_
  exact W.aret (v := .ref h0) hx hb hr (Or.inl ⟨_, rfl⟩) (Or.inr ⟨_, rfl⟩) (fun t ht hW => ⟨⟨(some h0), (), rfl, rfl, q2, by rw [ht]; exact hP9, hD9⟩, hS.F ht⟩) hS.2.2 dJ4_append_15ec4_7
def wz_c_ens_34_29 : List Cond := .code yJ5_ensureCapacityInternal_d00df cJ5_ensureCapacityInternal_d00df 3 none :: ([.fieldLink RJ5 15 "java/lang/AbstractStringBuilder" "value" "[B", .fieldLink RJ5 22 "java/lang/AbstractStringBuilder" "coder" "B"] ++ (wsJ40 ++ ([])))
set_option maxHeartbeats 4000000 in
set_option maxRecDepth 100000 in
theorem c_ens_34_29 (l : Launch) (D : va_G) (y : Nat → ClassId) (sz : Nat) (h0 : Nat) (bv : Nat) (w1 : Value) (w2 : Value) (g : Nat → Int32) : Met l yJ5_ensureCapacityInternal_d00df wz_c_ens_34_29 ({ frames := 0, cells := 0, slots := 0, locals := 0 }) (va_Pc [.ref h0, .int 29] (zB D y [(h0, .inr (1, [.ref bv, .int 0, w1, w2])), (bv, .inl (y 0, 34, .inl g))] sz [] [] [] [])) (va_Qv (fun _ : Unit => True) (fun _ t => va_P D vwCl [(h0, .inr (1, [.ref bv, .int 0, w1, w2])), (bv, .inl (y 0, 34, .inl g))] t.heap ∧ va_D (va_A [(h0, .inr (1, [.ref bv, .int 0, w1, w2])), (bv, .inl (y 0, 34, .inl g))] sz) [(h0, .inr (1, [.ref bv, .int 0, w1, w2])), (bv, .inl (y 0, 34, .inl g))]) (va_A [(h0, .inr (1, [.ref bv, .int 0, w1, w2])), (bv, .inl (y 0, 34, .inl g))] sz)) 0 0 (va_A [(h0, .inr (1, [.ref bv, .int 0, w1, w2])), (bv, .inl (y 0, 34, .inl g))] sz) := by
  refine Met.ofW (cc := cJ5_ensureCapacityInternal_d00df) (maxL := 3) (ret := none) (by decide) rfl ?_
  intro p e s m args below meth c s₁ B hml hv
  obtain ⟨rfl, hsz, hP, hK, hD0, hN, hE, hO, hT, hG⟩ := hv
  have hx := B.exec
  have hb := B.bytes
  have hr := B.returns
  have hts := atoms_spec (ws := wz_c_ens_34_29) B.pre
  have hown : s.vm.findClass RJ5 = some m.cls := findClass_of_methodNamed B.named
  have hlocks := B.notSynchronized
  subst hsz
  have hD := hD0.self (sz := s.heap.size)
  generalize hAe : va_A [(h0, .inr (1, [.ref bv, .int 0, w1, w2])), (bv, .inl (y 0, 34, .inl g))] s.heap.size = A at hD hE hT hG ⊢
  have hA : ∀ q : Nat, s.heap.size ≤ q → A q := fun q h => by rw [← hAe]; exact Or.inr h
  have hS : va_S A s.heap s.heap [] := va_S.rf
  have hl := lv_entry ([.ref h0, .int 29]) (n := 3) (Nat.le_of_ble_eq_true rfl)
  rw [lg_entry_eq]
  generalize (lg_sl ([.ref h0, .int 29]) ++ List.replicate (3 - (lg_sl ([.ref h0, .int 29])).length) Slot.unset).toArray = ls at hl ⊢
  have hl : lv_has ls 3 [(0, .ref h0), (1, .int 29)] := hl
  refine lv_aload_n hx hb dJ5_ensureCapacityInternal_d00df_0 rfl (lv_at hl 0 rfl) ?_
  refine va_get (D := D) (ci := 1) (v := .ref bv) (C := RJ4) (T := TJ4) (N := 4) hx hb hts (by decide +kernel) hown hK hP 0 rfl rfl 0 (by decide) (hts (.fieldLink RJ5 15 "java/lang/AbstractStringBuilder" "value" "[B") (by decide +kernel)) (fun _ h9 => h9) rfl dJ5_ensureCapacityInternal_d00df_1 ?_
  refine va_alen (v := 34) hx hb hK hP 1 0 rfl rfl (show Int32.ofNat 34 = (34 : Int32) from by decide) dJ5_ensureCapacityInternal_d00df_4 ?_
  refine lv_aload_n hx hb dJ5_ensureCapacityInternal_d00df_5 rfl (lv_at hl 0 rfl) ?_
  refine va_get (D := D) (ci := 1) (v := .int 0) (C := RJ4) (T := TJ4) (N := 4) hx hb hts (by decide +kernel) hown hK hP 0 rfl rfl 1 (by decide) (hts (.fieldLink RJ5 22 "java/lang/AbstractStringBuilder" "coder" "B") (by decide +kernel)) (fun _ h9 => h9) rfl dJ5_ensureCapacityInternal_d00df_6 ?_
  refine lv_ishr hx hb dJ5_ensureCapacityInternal_d00df_9 ?_
  refine lv_topi (fun v1 ev1 => ?_)
  have ev1 : v1 = 34 := ev1.trans (by decide +kernel)
  subst ev1
  refine lv_istore_n (lv' := [(2, .int 34), (0, .ref h0), (1, .int 29)]) hx hb dJ5_ensureCapacityInternal_d00df_10 rfl hl (by decide) rfl (fun ls hl => ?_)
  refine lv_iload_n hx hb dJ5_ensureCapacityInternal_d00df_11 rfl (lv_at hl 2 rfl) ?_
  refine lv_iload_n hx hb dJ5_ensureCapacityInternal_d00df_12 rfl (lv_at hl 0 rfl) ?_
  refine lv_isub hx hb dJ5_ensureCapacityInternal_d00df_13 ?_
  refine lv_topi (fun v2 ev2 => ?_)
  have ev2 : v2 = -5 := ev2.trans (by decide +kernel)
  subst ev2
  refine lv_if_le (tgt := 38) hx hb dJ5_ensureCapacityInternal_d00df_14 (by decide) (fun _ => ?_) (fun c9 => absurd (by decide) c9)
  have hP9 := hP.sub (ws' := [(h0, .inr (1, [.ref bv, .int 0, w1, w2])), (bv, .inl (y 0, 34, .inl g))]) [0, 1] rfl
  have hD9 := hD.sub (ws' := [(h0, .inr (1, [.ref bv, .int 0, w1, w2])), (bv, .inl (y 0, 34, .inl g))]) [0, 1] (by decide) rfl
  refine W.widen (k := 0) (n := 0) (Nat.le_of_ble_eq_true rfl) (Nat.le_of_ble_eq_true rfl) ?_
  exact W.vret hx hb hr (fun t ht hW => ⟨⟨(), rfl, trivial, by rw [ht]; exact hP9, hD9⟩, hS.F ht⟩) hS.2.2 dJ5_ensureCapacityInternal_d00df_38
def wz_c_getBytes_10_24_34 : List Cond := .code yJ0_getBytes_840e7 cJ0_getBytes_840e7 4 none :: ([.methodLink RJ0 335 yJ0_coder_7d493, .instanceMethod yJ0_coder_7d493, .selects RJ0 yJ0_coder_7d493 yJ0_coder_7d493, .initialized RJ0, .fieldLink RJ0 9 "java/lang/String" "value" "[B", .methodLink RJ0 212 arraycopyName, .native arraycopyName, .static arraycopyName, .initialized "java/lang/System"] ++ (wz_c_coder_o ++ ([])))
set_option maxRecDepth 100000 in
theorem gz_c_getBytes_10_24_34_c_coder_o : GoodIn wz_c_getBytes_10_24_34 wz_c_coder_o := goodIn_sub (fun w h => List.mem_cons_of_mem _ (List.mem_append_right _ (List.mem_append_left _ h))) (by decide +kernel)
set_option maxRecDepth 100000 in
theorem gv_c_getBytes_10_24_34_c_coder_o_335 : GoodIn wz_c_getBytes_10_24_34 (wsV RJ0 335 RJ0 yJ0_coder_7d493 wz_c_coder_o) := goodIn_app (goodIn_of _ (by decide +kernel)) gz_c_getBytes_10_24_34_c_coder_o
set_option maxHeartbeats 4000000 in
set_option maxRecDepth 100000 in
theorem c_getBytes_10_24_34 (l : Launch) (D : va_G) (y : Nat → ClassId) (sz : Nat) (bv : Nat) (sx : Nat) (tx : Nat) (g : Nat → Int32) : Met l yJ0_getBytes_840e7 wz_c_getBytes_10_24_34 ({ frames := 1, cells := 0, slots := 0, locals := 60 }) (va_Pc [.ref sx, .ref bv, .int 24, .int 0] (zB D y [(bv, .inl (y 0, 34, .inl g))] sz [] [("java/lang/String", "COMPACT_STRINGS", "Z", .int 1)] [] [.inr (.inl (sx, tx, 5, zs10))])) (va_Qv (fun _ : Unit => True) (fun _ t => va_P D vwCl [(bv, .inl (y 0, 34, .inl (va_cpy zs10 g (0 : Int32).toNatClampNeg (24 : Int32).toNatClampNeg (5 : Int32).toNatClampNeg)))] t.heap ∧ va_D (va_A [(bv, .inl (y 0, 34, .inl g))] sz) [(bv, .inl (y 0, 34, .inl (va_cpy zs10 g (0 : Int32).toNatClampNeg (24 : Int32).toNatClampNeg (5 : Int32).toNatClampNeg)))]) (va_A [(bv, .inl (y 0, 34, .inl g))] sz)) 0 0 (va_A [(bv, .inl (y 0, 34, .inl g))] sz) := by
  refine Met.ofW (cc := cJ0_getBytes_840e7) (maxL := 4) (ret := none) (by decide) rfl ?_
  intro p e s m args below meth c s₁ B hml hv
  obtain ⟨rfl, hsz, hP, hK, hD0, hN, hE, hO, hT, hG⟩ := hv
  have hx := B.exec
  have hb := B.bytes
  have hr := B.returns
  have hts := atoms_spec (ws := wz_c_getBytes_10_24_34) B.pre
  have hown : s.vm.findClass RJ0 = some m.cls := findClass_of_methodNamed B.named
  have hlocks := B.notSynchronized
  subst hsz
  have hD := hD0.self (sz := s.heap.size)
  generalize hAe : va_A [(bv, .inl (y 0, 34, .inl g))] s.heap.size = A at hD hE hT hG ⊢
  have hA : ∀ q : Nat, s.heap.size ≤ q → A q := fun q h => by rw [← hAe]; exact Or.inr h
  have hS : va_S A s.heap s.heap [] := va_S.rf
  have hl := lv_entry ([.ref sx, .ref bv, .int 24, .int 0]) (n := 4) (Nat.le_of_ble_eq_true rfl)
  rw [lg_entry_eq]
  generalize (lg_sl ([.ref sx, .ref bv, .int 24, .int 0]) ++ List.replicate (4 - (lg_sl ([.ref sx, .ref bv, .int 24, .int 0])).length) Slot.unset).toArray = ls at hl ⊢
  have hl : lv_has ls 4 [(0, .ref sx), (1, .ref bv), (2, .int 24), (3, .int 0)] := hl
  refine lv_aload_n hx hb dJ0_getBytes_840e7_0 rfl (lv_at hl 0 rfl) ?_
  have hPc := hP.sub (ws' := []) [] rfl
  have hDc := hD.sub (ws' := []) [] (by decide) rfl
  have hFc := va_free (wc := []) hD hS hA [] rfl
  refine va_calli (va_runV (As := []) (rest := []) ⟨hx, hb, hml, hown, hts⟩ (c_coder_o l D y s.heap.size sx tx 5 zs10) (cwV 0 hts gv_c_getBytes_10_24_34_c_coder_o_335 rfl rfl rfl (by decide +kernel) ⟨(Nat.le_of_ble_eq_true rfl), (Nat.le_of_ble_eq_true rfl)⟩) (zB.preV hPc hDc hK hN hE hO hT hG hS hFc (fun _ h => nomatch h) (List.forall_mem_cons.mpr ⟨List.mem_of_getElem? (i := 0) rfl, (fun _ h => nomatch h)⟩) (fun _ h => nomatch h) (List.forall_mem_cons.mpr ⟨List.mem_of_getElem? (i := 0) rfl, (fun _ h => nomatch h)⟩) (zStr.recv (show zStr sx tx 5 zs10 A s s.heap from (hG (.inr (.inl (sx, tx, 5, zs10))) (List.mem_of_getElem? (i := 0) rfl))) hS)) rfl rfl hl.1 rfl (lv_room (Nat.le_of_ble_eq_true rfl)) dJ0_getBytes_840e7_1 ⟨(Nat.le_of_ble_eq_true rfl), (Nat.le_of_ble_eq_true rfl)⟩) hS (fun q _ h => hFc q h) hFc (fun r1 u t H1 locs ht hvm hw hB hz1 hk1 hS => ?_)
  obtain ⟨hP1, hD1⟩ := hB
  rw [ht] at hP1
  obtain ⟨hP, hD⟩ := va_join (wr := [(bv, .inl (y 0, 34, .inl g))]) (w1 := []) hP hD [] [0] rfl rfl (by decide) (by decide) hk1 hFc hP1 hD1
  generalize H1 = H at hP hS ⊢
  have hP : va_P D vwCl [(bv, .inl (y 0, 34, .inl g))] H := hP
  have hD : va_D A [(bv, .inl (y 0, 34, .inl g))] := hD
  have hw : r1 = 0 := hw
  subst hw
  refine lv_iload_n hx hb dJ0_getBytes_840e7_4 rfl (lv_at hl 3 rfl) ?_
  refine lv_icmp_ne (tgt := 28) hx hb dJ0_getBytes_840e7_5 (by decide) (fun c9 => absurd (by decide) c9) (fun _ => ?_)
  refine lv_aload_n hx hb dJ0_getBytes_840e7_8 rfl (lv_at hl 0 rfl) ?_
  refine vk_getf hx hb (show zStr sx tx 5 zs10 A s s.heap from (hG (.inr (.inl (sx, tx, 5, zs10))) (List.mem_of_getElem? (i := 0) rfl))).2.2.1 hS hown (hts (.fieldLink RJ0 9 "java/lang/String" "value" "[B") (by decide +kernel)) (fun _ h9 => h9) dJ0_getBytes_840e7_9 ?_
  refine lv_iconst (v := 0) hx hb dJ0_getBytes_840e7_12 (by decide) ?_
  refine lv_aload_n hx hb dJ0_getBytes_840e7_13 rfl (lv_at hl 1 rfl) ?_
  refine lv_iload_n hx hb dJ0_getBytes_840e7_14 rfl (lv_at hl 2 rfl) ?_
  refine lv_iload_n hx hb dJ0_getBytes_840e7_15 rfl (lv_at hl 3 rfl) ?_
  refine lv_ishl hx hb dJ0_getBytes_840e7_16 ?_
  refine lv_topi (fun v2 ev2 => ?_)
  have ev2 : v2 = 24 := ev2.trans (by decide +kernel)
  subst ev2
  refine lv_aload_n hx hb dJ0_getBytes_840e7_17 rfl (lv_at hl 0 rfl) ?_
  refine vk_getf hx hb (show zStr sx tx 5 zs10 A s s.heap from (hG (.inr (.inl (sx, tx, 5, zs10))) (List.mem_of_getElem? (i := 0) rfl))).2.2.1 hS hown (hts (.fieldLink RJ0 9 "java/lang/String" "value" "[B") (by decide +kernel)) (fun _ h9 => h9) dJ0_getBytes_840e7_18 ?_
  refine va_tlen (v := 5) hx hb (show zStr sx tx 5 zs10 A s s.heap from (hG (.inr (.inl (sx, tx, 5, zs10))) (List.mem_of_getElem? (i := 0) rfl))).2.2.2 hS (by decide) dJ0_getBytes_840e7_21 ?_
  refine vk_copyt (sp := 0) (dp := 24) (n := 5) (f := zs10) hx hb (hml.trans hl.1.symm) hown (hts (.methodLink RJ0 212 arraycopyName) (by decide +kernel)) (hts (.native arraycopyName) (by decide +kernel)) (hts (.static arraycopyName) (by decide +kernel)) (hts (.initialized "java/lang/System") (by decide +kernel)) hK hP hD hS (show zStr sx tx 5 zs10 A s s.heap from (hG (.inr (.inl (sx, tx, 5, zs10))) (List.mem_of_getElem? (i := 0) rfl))).2.2.2 0 0 rfl rfl (by decide +kernel) (by decide +kernel) (by decide +kernel) (by decide +kernel) (by decide +kernel) (by decide +kernel) (Nat.le_of_ble_eq_true rfl) (Nat.le_of_ble_eq_true rfl) dJ0_getBytes_840e7_22 (fun H locs hP hD hS => ?_)
  have hP : va_P D vwCl [(bv, .inl (y 0, 34, .inl (va_cpy zs10 g (0 : Int32).toNatClampNeg (24 : Int32).toNatClampNeg (5 : Int32).toNatClampNeg)))] H := hP
  have hD : va_D A [(bv, .inl (y 0, 34, .inl (va_cpy zs10 g (0 : Int32).toNatClampNeg (24 : Int32).toNatClampNeg (5 : Int32).toNatClampNeg)))] := hD
  refine lv_goto (tgt := 43) hx hb dJ0_getBytes_840e7_25 (by decide) ?_
  have hP9 := hP.sub (ws' := [(bv, .inl (y 0, 34, .inl (va_cpy zs10 g (0 : Int32).toNatClampNeg (24 : Int32).toNatClampNeg (5 : Int32).toNatClampNeg)))]) [0] rfl
  have hD9 := hD.sub (ws' := [(bv, .inl (y 0, 34, .inl (va_cpy zs10 g (0 : Int32).toNatClampNeg (24 : Int32).toNatClampNeg (5 : Int32).toNatClampNeg)))]) [0] (by decide) rfl
  refine W.widen (k := 0) (n := 0) (Nat.le_of_ble_eq_true rfl) (Nat.le_of_ble_eq_true rfl) ?_
  exact W.vret hx hb hr (fun t ht hW => ⟨⟨(), rfl, trivial, by rw [ht]; exact hP9, hD9⟩, hS.F ht⟩) hS.2.2 dJ0_getBytes_840e7_43
def wz_c_putStr_10_24_34 : List Cond := .code yJ5_putStringAt_47b60 cJ5_putStringAt_47b60 3 none :: ([.methodLink RJ5 397 ⟨"java/lang/AbstractStringBuilder", "inflateIfNeededFor", "(Ljava/lang/String;)V"⟩, .sameMethod "java/lang/AbstractStringBuilder" "java/lang/AbstractStringBuilder" "inflateIfNeededFor" "(Ljava/lang/String;)V", .selects RJ4 ⟨"java/lang/AbstractStringBuilder", "inflateIfNeededFor", "(Ljava/lang/String;)V"⟩ yJ5_inflateIfNeededFor_a7421, .instanceMethod yJ5_inflateIfNeededFor_a7421, .initialized RJ5, .fieldLink RJ5 15 "java/lang/AbstractStringBuilder" "value" "[B", .fieldLink RJ5 22 "java/lang/AbstractStringBuilder" "coder" "B", .methodLink RJ5 399 yJ0_getBytes_840e7, .instanceMethod yJ0_getBytes_840e7, .selects RJ0 yJ0_getBytes_840e7 yJ0_getBytes_840e7, .initialized RJ0] ++ (wsJ40 ++ (wz_c_inflIf ++ (wz_c_getBytes_10_24_34 ++ ([])))))
set_option maxRecDepth 100000 in
theorem gz_c_putStr_10_24_34_c_inflIf : GoodIn wz_c_putStr_10_24_34 wz_c_inflIf := goodIn_sub (fun w h => List.mem_cons_of_mem _ (List.mem_append_right _ (List.mem_append_right _ (List.mem_append_left _ h)))) (by decide +kernel)
set_option maxRecDepth 100000 in
theorem gz_c_putStr_10_24_34_c_getBytes_10_24_34 : GoodIn wz_c_putStr_10_24_34 wz_c_getBytes_10_24_34 := goodIn_sub (fun w h => List.mem_cons_of_mem _ (List.mem_append_right _ (List.mem_append_right _ (List.mem_append_right _ (List.mem_append_left _ h))))) (by decide +kernel)
set_option maxRecDepth 100000 in
theorem gv_c_putStr_10_24_34_c_inflIf_397 : GoodIn wz_c_putStr_10_24_34 (va_wsU RJ5 397 RJ4 "java/lang/AbstractStringBuilder" ⟨"java/lang/AbstractStringBuilder", "inflateIfNeededFor", "(Ljava/lang/String;)V"⟩ yJ5_inflateIfNeededFor_a7421 wz_c_inflIf) := goodIn_app (goodIn_of _ (by decide +kernel)) gz_c_putStr_10_24_34_c_inflIf
set_option maxRecDepth 100000 in
theorem gv_c_putStr_10_24_34_c_getBytes_10_24_34_399 : GoodIn wz_c_putStr_10_24_34 (wsV RJ5 399 RJ0 yJ0_getBytes_840e7 wz_c_getBytes_10_24_34) := goodIn_app (goodIn_of _ (by decide +kernel)) gz_c_putStr_10_24_34_c_getBytes_10_24_34
set_option maxHeartbeats 4000000 in
set_option maxRecDepth 100000 in
theorem c_putStr_10_24_34 (l : Launch) (D : va_G) (y : Nat → ClassId) (sz : Nat) (h0 : Nat) (bv : Nat) (w1 : Value) (w2 : Value) (sx : Nat) (tx : Nat) (g : Nat → Int32) : Met l yJ5_putStringAt_47b60 wz_c_putStr_10_24_34 ({ frames := 2, cells := 0, slots := 0, locals := 83 }) (va_Pc [.ref h0, .int 24, .ref sx] (zB D y [(h0, .inr (1, [.ref bv, .int 0, w1, w2])), (bv, .inl (y 0, 34, .inl g))] sz [] [("java/lang/String", "COMPACT_STRINGS", "Z", .int 1)] [] [.inr (.inl (sx, tx, 5, zs10))])) (va_Qv (fun _ : Unit => True) (fun _ t => va_P D vwCl [(h0, .inr (1, [.ref bv, .int 0, w1, w2])), (bv, .inl (y 0, 34, .inl (va_cpy zs10 g (0 : Int32).toNatClampNeg (24 : Int32).toNatClampNeg (5 : Int32).toNatClampNeg)))] t.heap ∧ va_D (va_A [(h0, .inr (1, [.ref bv, .int 0, w1, w2])), (bv, .inl (y 0, 34, .inl g))] sz) [(h0, .inr (1, [.ref bv, .int 0, w1, w2])), (bv, .inl (y 0, 34, .inl (va_cpy zs10 g (0 : Int32).toNatClampNeg (24 : Int32).toNatClampNeg (5 : Int32).toNatClampNeg)))]) (va_A [(h0, .inr (1, [.ref bv, .int 0, w1, w2])), (bv, .inl (y 0, 34, .inl g))] sz)) 0 0 (va_A [(h0, .inr (1, [.ref bv, .int 0, w1, w2])), (bv, .inl (y 0, 34, .inl g))] sz) := by
  refine Met.ofW (cc := cJ5_putStringAt_47b60) (maxL := 3) (ret := none) (by decide) rfl ?_
  intro p e s m args below meth c s₁ B hml hv
  obtain ⟨rfl, hsz, hP, hK, hD0, hN, hE, hO, hT, hG⟩ := hv
  have hx := B.exec
  have hb := B.bytes
  have hr := B.returns
  have hts := atoms_spec (ws := wz_c_putStr_10_24_34) B.pre
  have hown : s.vm.findClass RJ5 = some m.cls := findClass_of_methodNamed B.named
  have hlocks := B.notSynchronized
  subst hsz
  have hD := hD0.self (sz := s.heap.size)
  generalize hAe : va_A [(h0, .inr (1, [.ref bv, .int 0, w1, w2])), (bv, .inl (y 0, 34, .inl g))] s.heap.size = A at hD hE hT hG ⊢
  have hA : ∀ q : Nat, s.heap.size ≤ q → A q := fun q h => by rw [← hAe]; exact Or.inr h
  have hS : va_S A s.heap s.heap [] := va_S.rf
  have hl := lv_entry ([.ref h0, .int 24, .ref sx]) (n := 3) (Nat.le_of_ble_eq_true rfl)
  rw [lg_entry_eq]
  generalize (lg_sl ([.ref h0, .int 24, .ref sx]) ++ List.replicate (3 - (lg_sl ([.ref h0, .int 24, .ref sx])).length) Slot.unset).toArray = ls at hl ⊢
  have hl : lv_has ls 3 [(0, .ref h0), (1, .int 24), (2, .ref sx)] := hl
  refine lv_aload_n hx hb dJ5_putStringAt_47b60_0 rfl (lv_at hl 0 rfl) ?_
  refine lv_aload_n hx hb dJ5_putStringAt_47b60_1 rfl (lv_at hl 2 rfl) ?_
  have hPc := hP.sub (ws' := [(h0, .inr (1, [.ref bv, .int 0, w1, w2]))]) [0] rfl
  have hDc := hD.sub (ws' := [(h0, .inr (1, [.ref bv, .int 0, w1, w2]))]) [0] (by decide) rfl
  have hFc := va_free (wc := [(h0, .inr (1, [.ref bv, .int 0, w1, w2]))]) hD hS hA [0] rfl
  refine va_callv (va_runU (As := [.ref sx]) (rest := []) ⟨hx, hb, hml, hown, hts⟩ (c_inflIf l D y s.heap.size h0 ((.ref bv)) w1 w2 sx tx 5 zs10) (va_cwU 1 hts gv_c_putStr_10_24_34_c_inflIf_397 rfl rfl rfl rfl (by decide +kernel) ⟨(Nat.le_of_ble_eq_true rfl), (Nat.le_of_ble_eq_true rfl)⟩) (zB.preV hPc hDc hK hN hE hO hT hG hS hFc (fun _ h => nomatch h) (List.forall_mem_cons.mpr ⟨List.mem_of_getElem? (i := 0) rfl, (fun _ h => nomatch h)⟩) (fun _ h => nomatch h) (List.forall_mem_cons.mpr ⟨List.mem_of_getElem? (i := 0) rfl, (fun _ h => nomatch h)⟩) (va_recv hK hPc (ci := 1) (q0 := 0) rfl rfl)) rfl rfl hl.1 rfl (lv_room (Nat.le_of_ble_eq_true rfl)) dJ5_putStringAt_47b60_2 ⟨(Nat.le_of_ble_eq_true rfl), (Nat.le_of_ble_eq_true rfl)⟩) hS (fun q _ h => hFc q h) hFc (fun u t H1 locs ht hvm hw hB hz1 hk1 hS => ?_)
  obtain ⟨hP1, hD1⟩ := hB
  rw [ht] at hP1
  obtain ⟨hP, hD⟩ := va_join (wr := [(bv, .inl (y 0, 34, .inl g))]) (w1 := [(h0, .inr (1, [.ref bv, .int 0, w1, w2]))]) hP hD [0] [1] rfl rfl (by decide) (by decide) hk1 hFc hP1 hD1
  generalize H1 = H at hP hS ⊢
  have hP : va_P D vwCl [(bv, .inl (y 0, 34, .inl g)), (h0, .inr (1, [.ref bv, .int 0, w1, w2]))] H := hP
  have hD : va_D A [(bv, .inl (y 0, 34, .inl g)), (h0, .inr (1, [.ref bv, .int 0, w1, w2]))] := hD
  refine lv_aload_n hx hb dJ5_putStringAt_47b60_5 rfl (lv_at hl 2 rfl) ?_
  refine lv_aload_n hx hb dJ5_putStringAt_47b60_6 rfl (lv_at hl 0 rfl) ?_
  refine va_get (D := D) (ci := 1) (v := .ref bv) (C := RJ4) (T := TJ4) (N := 4) hx hb hts (by decide +kernel) hown hK hP 1 rfl rfl 0 (by decide) (hts (.fieldLink RJ5 15 "java/lang/AbstractStringBuilder" "value" "[B") (by decide +kernel)) (fun _ h9 => h9) rfl dJ5_putStringAt_47b60_7 ?_
  refine lv_iload_n hx hb dJ5_putStringAt_47b60_10 rfl (lv_at hl 1 rfl) ?_
  refine lv_aload_n hx hb dJ5_putStringAt_47b60_11 rfl (lv_at hl 0 rfl) ?_
  refine va_get (D := D) (ci := 1) (v := .int 0) (C := RJ4) (T := TJ4) (N := 4) hx hb hts (by decide +kernel) hown hK hP 1 rfl rfl 1 (by decide) (hts (.fieldLink RJ5 22 "java/lang/AbstractStringBuilder" "coder" "B") (by decide +kernel)) (fun _ h9 => h9) rfl dJ5_putStringAt_47b60_12 ?_
  have hPc := hP.sub (ws' := [(bv, .inl (y 0, 34, .inl g))]) [0] rfl
  have hDc := hD.sub (ws' := [(bv, .inl (y 0, 34, .inl g))]) [0] (by decide) rfl
  have hFc := va_free (wc := [(bv, .inl (y 0, 34, .inl g))]) hD hS hA [0] rfl
  refine va_callv (va_runV (As := [.ref bv, .int 24, .int 0]) (rest := []) ⟨hx, hb, hml, hown, hts⟩ (c_getBytes_10_24_34 l D y H.size bv sx tx g) (cwV 3 hts gv_c_putStr_10_24_34_c_getBytes_10_24_34_399 rfl rfl rfl (by decide +kernel) ⟨(Nat.le_of_ble_eq_true rfl), (Nat.le_of_ble_eq_true rfl)⟩) (zB.preV hPc hDc hK hN hE hO hT hG hS hFc (fun _ h => nomatch h) (List.forall_mem_cons.mpr ⟨List.mem_of_getElem? (i := 0) rfl, (fun _ h => nomatch h)⟩) (fun _ h => nomatch h) (List.forall_mem_cons.mpr ⟨List.mem_of_getElem? (i := 0) rfl, (fun _ h => nomatch h)⟩) (zStr.recv (show zStr sx tx 5 zs10 A s s.heap from (hG (.inr (.inl (sx, tx, 5, zs10))) (List.mem_of_getElem? (i := 0) rfl))) hS)) rfl rfl hl.1 rfl (lv_room (Nat.le_of_ble_eq_true rfl)) dJ5_putStringAt_47b60_15 ⟨(Nat.le_of_ble_eq_true rfl), (Nat.le_of_ble_eq_true rfl)⟩) hS (fun q _ h => hFc q h) hFc (fun u t H1 locs ht hvm hw hB hz1 hk1 hS => ?_)
  obtain ⟨hP1, hD1⟩ := hB
  rw [ht] at hP1
  obtain ⟨hP, hD⟩ := va_join (wr := [(h0, .inr (1, [.ref bv, .int 0, w1, w2]))]) (w1 := [(bv, .inl (y 0, 34, .inl (va_cpy zs10 g (0 : Int32).toNatClampNeg (24 : Int32).toNatClampNeg (5 : Int32).toNatClampNeg)))]) hP hD [0] [1] rfl rfl (by decide) (by decide) hk1 hFc hP1 hD1
  generalize H1 = H at hP hS ⊢
  have hP : va_P D vwCl [(h0, .inr (1, [.ref bv, .int 0, w1, w2])), (bv, .inl (y 0, 34, .inl (va_cpy zs10 g (0 : Int32).toNatClampNeg (24 : Int32).toNatClampNeg (5 : Int32).toNatClampNeg)))] H := hP
  have hD : va_D A [(h0, .inr (1, [.ref bv, .int 0, w1, w2])), (bv, .inl (y 0, 34, .inl (va_cpy zs10 g (0 : Int32).toNatClampNeg (24 : Int32).toNatClampNeg (5 : Int32).toNatClampNeg)))] := hD
  have hP9 := hP.sub (ws' := [(h0, .inr (1, [.ref bv, .int 0, w1, w2])), (bv, .inl (y 0, 34, .inl (va_cpy zs10 g (0 : Int32).toNatClampNeg (24 : Int32).toNatClampNeg (5 : Int32).toNatClampNeg)))]) [0, 1] rfl
  have hD9 := hD.sub (ws' := [(h0, .inr (1, [.ref bv, .int 0, w1, w2])), (bv, .inl (y 0, 34, .inl (va_cpy zs10 g (0 : Int32).toNatClampNeg (24 : Int32).toNatClampNeg (5 : Int32).toNatClampNeg)))]) [0, 1] (by decide) rfl
  refine W.widen (k := 0) (n := 0) (Nat.le_of_ble_eq_true rfl) (Nat.le_of_ble_eq_true rfl) ?_
  exact W.vret hx hb hr (fun t ht hW => ⟨⟨(), rfl, trivial, by rw [ht]; exact hP9, hD9⟩, hS.F ht⟩) hS.2.2 dJ5_putStringAt_47b60_18
def wz_c_ASBapp_10_24_34 : List Cond := .code yJ5_append_cf1ce cJ5_append_cf1ce 3 (some (.object "java/lang/AbstractStringBuilder")) :: ([.methodLink RJ5 32 yJ0_length_8abf5, .instanceMethod yJ0_length_8abf5, .selects RJ0 yJ0_length_8abf5 yJ0_length_8abf5, .initialized RJ0, .fieldLink RJ5 79 "java/lang/AbstractStringBuilder" "count" "I", .methodLink RJ5 100 ⟨"java/lang/AbstractStringBuilder", "ensureCapacityInternal", "(I)V"⟩, .sameMethod "java/lang/AbstractStringBuilder" "java/lang/AbstractStringBuilder" "ensureCapacityInternal" "(I)V", .selects RJ4 ⟨"java/lang/AbstractStringBuilder", "ensureCapacityInternal", "(I)V"⟩ yJ5_ensureCapacityInternal_d00df, .instanceMethod yJ5_ensureCapacityInternal_d00df, .initialized RJ5, .methodLink RJ5 208 ⟨"java/lang/AbstractStringBuilder", "putStringAt", "(ILjava/lang/String;)V"⟩, .sameMethod "java/lang/AbstractStringBuilder" "java/lang/AbstractStringBuilder" "putStringAt" "(ILjava/lang/String;)V", .selects RJ4 ⟨"java/lang/AbstractStringBuilder", "putStringAt", "(ILjava/lang/String;)V"⟩ yJ5_putStringAt_47b60, .instanceMethod yJ5_putStringAt_47b60] ++ (wsJ40 ++ (wz_c_len_o_5 ++ (wz_c_ens_34_29 ++ (wz_c_putStr_10_24_34 ++ ([]))))))
set_option maxRecDepth 100000 in
theorem gz_c_ASBapp_10_24_34_c_len_o_5 : GoodIn wz_c_ASBapp_10_24_34 wz_c_len_o_5 := goodIn_sub (fun w h => List.mem_cons_of_mem _ (List.mem_append_right _ (List.mem_append_right _ (List.mem_append_left _ h)))) (by decide +kernel)
set_option maxRecDepth 100000 in
theorem gz_c_ASBapp_10_24_34_c_ens_34_29 : GoodIn wz_c_ASBapp_10_24_34 wz_c_ens_34_29 := goodIn_sub (fun w h => List.mem_cons_of_mem _ (List.mem_append_right _ (List.mem_append_right _ (List.mem_append_right _ (List.mem_append_left _ h))))) (by decide +kernel)
set_option maxRecDepth 100000 in
theorem gz_c_ASBapp_10_24_34_c_putStr_10_24_34 : GoodIn wz_c_ASBapp_10_24_34 wz_c_putStr_10_24_34 := goodIn_sub (fun w h => List.mem_cons_of_mem _ (List.mem_append_right _ (List.mem_append_right _ (List.mem_append_right _ (List.mem_append_right _ (List.mem_append_left _ h)))))) (by decide +kernel)
set_option maxRecDepth 100000 in
theorem gv_c_ASBapp_10_24_34_c_len_o_5_32 : GoodIn wz_c_ASBapp_10_24_34 (wsV RJ5 32 RJ0 yJ0_length_8abf5 wz_c_len_o_5) := goodIn_app (goodIn_of _ (by decide +kernel)) gz_c_ASBapp_10_24_34_c_len_o_5
set_option maxRecDepth 100000 in
theorem gv_c_ASBapp_10_24_34_c_ens_34_29_100 : GoodIn wz_c_ASBapp_10_24_34 (va_wsU RJ5 100 RJ4 "java/lang/AbstractStringBuilder" ⟨"java/lang/AbstractStringBuilder", "ensureCapacityInternal", "(I)V"⟩ yJ5_ensureCapacityInternal_d00df wz_c_ens_34_29) := goodIn_app (goodIn_of _ (by decide +kernel)) gz_c_ASBapp_10_24_34_c_ens_34_29
set_option maxRecDepth 100000 in
theorem gv_c_ASBapp_10_24_34_c_putStr_10_24_34_208 : GoodIn wz_c_ASBapp_10_24_34 (va_wsU RJ5 208 RJ4 "java/lang/AbstractStringBuilder" ⟨"java/lang/AbstractStringBuilder", "putStringAt", "(ILjava/lang/String;)V"⟩ yJ5_putStringAt_47b60 wz_c_putStr_10_24_34) := goodIn_app (goodIn_of _ (by decide +kernel)) gz_c_ASBapp_10_24_34_c_putStr_10_24_34
set_option maxHeartbeats 4000000 in
set_option maxRecDepth 100000 in
theorem c_ASBapp_10_24_34 (l : Launch) (D : va_G) (y : Nat → ClassId) (sz : Nat) (h0 : Nat) (bv : Nat) (w1 : Value) (sx : Nat) (tx : Nat) (g : Nat → Int32) : Met l yJ5_append_cf1ce wz_c_ASBapp_10_24_34 ({ frames := 3, cells := 0, slots := 0, locals := 105 }) (va_Pc [.ref h0, .ref sx] (zB D y [(h0, .inr (1, [.ref bv, .int 0, w1, .int 24])), (bv, .inl (y 0, 34, .inl g))] sz [] [("java/lang/String", "COMPACT_STRINGS", "Z", .int 1)] [] [.inr (.inl (sx, tx, 5, zs10))])) (va_Qq (fun (r : Option Nat) (_ : Unit) => r = some h0) (fun _ t => va_P D vwCl [(h0, .inr (1, [.ref bv, .int 0, w1, .int 29])), (bv, .inl (y 0, 34, .inl (va_cpy zs10 g (0 : Int32).toNatClampNeg (24 : Int32).toNatClampNeg (5 : Int32).toNatClampNeg)))] t.heap ∧ va_D (va_A [(h0, .inr (1, [.ref bv, .int 0, w1, .int 24])), (bv, .inl (y 0, 34, .inl g))] sz) [(h0, .inr (1, [.ref bv, .int 0, w1, .int 29])), (bv, .inl (y 0, 34, .inl (va_cpy zs10 g (0 : Int32).toNatClampNeg (24 : Int32).toNatClampNeg (5 : Int32).toNatClampNeg)))]) (va_A [(h0, .inr (1, [.ref bv, .int 0, w1, .int 24])), (bv, .inl (y 0, 34, .inl g))] sz)) 0 0 (va_A [(h0, .inr (1, [.ref bv, .int 0, w1, .int 24])), (bv, .inl (y 0, 34, .inl g))] sz) := by
  refine Met.ofW (cc := cJ5_append_cf1ce) (maxL := 3) (ret := (some (.object "java/lang/AbstractStringBuilder"))) (by decide) rfl ?_
  intro p e s m args below meth c s₁ B hml hv
  obtain ⟨rfl, hsz, hP, hK, hD0, hN, hE, hO, hT, hG⟩ := hv
  have hx := B.exec
  have hb := B.bytes
  have hr := B.returns
  have hts := atoms_spec (ws := wz_c_ASBapp_10_24_34) B.pre
  have hown : s.vm.findClass RJ5 = some m.cls := findClass_of_methodNamed B.named
  have hlocks := B.notSynchronized
  subst hsz
  have hD := hD0.self (sz := s.heap.size)
  generalize hAe : va_A [(h0, .inr (1, [.ref bv, .int 0, w1, .int 24])), (bv, .inl (y 0, 34, .inl g))] s.heap.size = A at hD hE hT hG ⊢
  have hA : ∀ q : Nat, s.heap.size ≤ q → A q := fun q h => by rw [← hAe]; exact Or.inr h
  have hS : va_S A s.heap s.heap [] := va_S.rf
  have hl := lv_entry ([.ref h0, .ref sx]) (n := 3) (Nat.le_of_ble_eq_true rfl)
  rw [lg_entry_eq]
  generalize (lg_sl ([.ref h0, .ref sx]) ++ List.replicate (3 - (lg_sl ([.ref h0, .ref sx])).length) Slot.unset).toArray = ls at hl ⊢
  have hl : lv_has ls 3 [(0, .ref h0), (1, .ref sx)] := hl
  refine lv_aload_n hx hb dJ5_append_cf1ce_0 rfl (lv_at hl 1 rfl) ?_
  refine lv_ifnonnull (tgt := 9) hx hb dJ5_append_cf1ce_1 (by decide) ?_
  refine lv_aload_n hx hb dJ5_append_cf1ce_9 rfl (lv_at hl 1 rfl) ?_
  have hPc := hP.sub (ws' := []) [] rfl
  have hDc := hD.sub (ws' := []) [] (by decide) rfl
  have hFc := va_free (wc := []) hD hS hA [] rfl
  refine va_calli (va_runV (As := []) (rest := []) ⟨hx, hb, hml, hown, hts⟩ (c_len_o_5 l D y s.heap.size sx tx zs10) (cwV 0 hts gv_c_ASBapp_10_24_34_c_len_o_5_32 rfl rfl rfl (by decide +kernel) ⟨(Nat.le_of_ble_eq_true rfl), (Nat.le_of_ble_eq_true rfl)⟩) (zB.preV hPc hDc hK hN hE hO hT hG hS hFc (fun _ h => nomatch h) (List.forall_mem_cons.mpr ⟨List.mem_of_getElem? (i := 0) rfl, (fun _ h => nomatch h)⟩) (fun _ h => nomatch h) (List.forall_mem_cons.mpr ⟨List.mem_of_getElem? (i := 0) rfl, (fun _ h => nomatch h)⟩) (zStr.recv (show zStr sx tx 5 zs10 A s s.heap from (hG (.inr (.inl (sx, tx, 5, zs10))) (List.mem_of_getElem? (i := 0) rfl))) hS)) rfl rfl hl.1 rfl (lv_room (Nat.le_of_ble_eq_true rfl)) dJ5_append_cf1ce_10 ⟨(Nat.le_of_ble_eq_true rfl), (Nat.le_of_ble_eq_true rfl)⟩) hS (fun q _ h => hFc q h) hFc (fun r1 u t H1 locs ht hvm hw hB hz1 hk1 hS => ?_)
  obtain ⟨hP1, hD1⟩ := hB
  rw [ht] at hP1
  obtain ⟨hP, hD⟩ := va_join (wr := [(h0, .inr (1, [.ref bv, .int 0, w1, .int 24])), (bv, .inl (y 0, 34, .inl g))]) (w1 := []) hP hD [] [0, 1] rfl rfl (by decide) (by decide) hk1 hFc hP1 hD1
  generalize H1 = H at hP hS ⊢
  have hP : va_P D vwCl [(h0, .inr (1, [.ref bv, .int 0, w1, .int 24])), (bv, .inl (y 0, 34, .inl g))] H := hP
  have hD : va_D A [(h0, .inr (1, [.ref bv, .int 0, w1, .int 24])), (bv, .inl (y 0, 34, .inl g))] := hD
  have hw : r1 = 5 := hw
  subst hw
  refine lv_istore_n (lv' := [(2, .int 5), (0, .ref h0), (1, .ref sx)]) hx hb dJ5_append_cf1ce_13 rfl hl (by decide) rfl (fun ls hl => ?_)
  refine lv_aload_n hx hb dJ5_append_cf1ce_14 rfl (lv_at hl 1 rfl) ?_
  refine lv_aload_n hx hb dJ5_append_cf1ce_15 rfl (lv_at hl 1 rfl) ?_
  refine va_get (D := D) (ci := 1) (v := .int 24) (C := RJ4) (T := TJ4) (N := 4) hx hb hts (by decide +kernel) hown hK hP 0 rfl rfl 3 (by decide) (hts (.fieldLink RJ5 79 "java/lang/AbstractStringBuilder" "count" "I") (by decide +kernel)) (fun _ h9 => h9) rfl dJ5_append_cf1ce_16 ?_
  refine lv_iload_n hx hb dJ5_append_cf1ce_19 rfl (lv_at hl 0 rfl) ?_
  refine lv_iadd hx hb dJ5_append_cf1ce_20 ?_
  refine lv_topi (fun v2 ev2 => ?_)
  have ev2 : v2 = 29 := ev2.trans (by decide +kernel)
  subst ev2
  have hPc := hP.sub (ws' := [(h0, .inr (1, [.ref bv, .int 0, w1, .int 24])), (bv, .inl (y 0, 34, .inl g))]) [0, 1] rfl
  have hDc := hD.sub (ws' := [(h0, .inr (1, [.ref bv, .int 0, w1, .int 24])), (bv, .inl (y 0, 34, .inl g))]) [0, 1] (by decide) rfl
  have hFc := va_free (wc := [(h0, .inr (1, [.ref bv, .int 0, w1, .int 24])), (bv, .inl (y 0, 34, .inl g))]) hD hS hA [0, 1] rfl
  refine va_callv (va_runU (As := [.int 29]) (rest := []) ⟨hx, hb, hml, hown, hts⟩ (c_ens_34_29 l D y H.size h0 bv w1 ((.int 24)) g) (va_cwU 1 hts gv_c_ASBapp_10_24_34_c_ens_34_29_100 rfl rfl rfl rfl (by decide +kernel) ⟨(Nat.le_of_ble_eq_true rfl), (Nat.le_of_ble_eq_true rfl)⟩) (zB.preV hPc hDc hK hN hE hO hT hG hS hFc (fun _ h => nomatch h) (fun _ h => nomatch h) (fun _ h => nomatch h) (fun _ h => nomatch h) (va_recv hK hPc (ci := 1) (q0 := 0) rfl rfl)) rfl rfl hl.1 rfl (lv_room (Nat.le_of_ble_eq_true rfl)) dJ5_append_cf1ce_21 ⟨(Nat.le_of_ble_eq_true rfl), (Nat.le_of_ble_eq_true rfl)⟩) hS (fun q _ h => hFc q h) hFc (fun u t H1 locs ht hvm hw hB hz1 hk1 hS => ?_)
  obtain ⟨hP1, hD1⟩ := hB
  rw [ht] at hP1
  obtain ⟨hP, hD⟩ := va_join (wr := []) (w1 := [(h0, .inr (1, [.ref bv, .int 0, w1, .int 24])), (bv, .inl (y 0, 34, .inl g))]) hP hD [0, 1] [] rfl rfl (by decide) (by decide) hk1 hFc hP1 hD1
  generalize H1 = H at hP hS ⊢
  have hP : va_P D vwCl [(h0, .inr (1, [.ref bv, .int 0, w1, .int 24])), (bv, .inl (y 0, 34, .inl g))] H := hP
  have hD : va_D A [(h0, .inr (1, [.ref bv, .int 0, w1, .int 24])), (bv, .inl (y 0, 34, .inl g))] := hD
  refine lv_aload_n hx hb dJ5_append_cf1ce_24 rfl (lv_at hl 1 rfl) ?_
  refine lv_aload_n hx hb dJ5_append_cf1ce_25 rfl (lv_at hl 1 rfl) ?_
  refine va_get (D := D) (ci := 1) (v := .int 24) (C := RJ4) (T := TJ4) (N := 4) hx hb hts (by decide +kernel) hown hK hP 0 rfl rfl 3 (by decide) (hts (.fieldLink RJ5 79 "java/lang/AbstractStringBuilder" "count" "I") (by decide +kernel)) (fun _ h9 => h9) rfl dJ5_append_cf1ce_26 ?_
  refine lv_aload_n hx hb dJ5_append_cf1ce_29 rfl (lv_at hl 2 rfl) ?_
  have hPc := hP.sub (ws' := [(h0, .inr (1, [.ref bv, .int 0, w1, .int 24])), (bv, .inl (y 0, 34, .inl g))]) [0, 1] rfl
  have hDc := hD.sub (ws' := [(h0, .inr (1, [.ref bv, .int 0, w1, .int 24])), (bv, .inl (y 0, 34, .inl g))]) [0, 1] (by decide) rfl
  have hFc := va_free (wc := [(h0, .inr (1, [.ref bv, .int 0, w1, .int 24])), (bv, .inl (y 0, 34, .inl g))]) hD hS hA [0, 1] rfl
  refine va_callv (va_runU (As := [.int 24, .ref sx]) (rest := []) ⟨hx, hb, hml, hown, hts⟩ (c_putStr_10_24_34 l D y H.size h0 bv w1 ((.int 24)) sx tx g) (va_cwU 2 hts gv_c_ASBapp_10_24_34_c_putStr_10_24_34_208 rfl rfl rfl rfl (by decide +kernel) ⟨(Nat.le_of_ble_eq_true rfl), (Nat.le_of_ble_eq_true rfl)⟩) (zB.preV hPc hDc hK hN hE hO hT hG hS hFc (fun _ h => nomatch h) (List.forall_mem_cons.mpr ⟨List.mem_of_getElem? (i := 0) rfl, (fun _ h => nomatch h)⟩) (fun _ h => nomatch h) (List.forall_mem_cons.mpr ⟨List.mem_of_getElem? (i := 0) rfl, (fun _ h => nomatch h)⟩) (va_recv hK hPc (ci := 1) (q0 := 0) rfl rfl)) rfl rfl hl.1 rfl (lv_room (Nat.le_of_ble_eq_true rfl)) dJ5_append_cf1ce_30 ⟨(Nat.le_of_ble_eq_true rfl), (Nat.le_of_ble_eq_true rfl)⟩) hS (fun q _ h => hFc q h) hFc (fun u t H1 locs ht hvm hw hB hz1 hk1 hS => ?_)
  obtain ⟨hP1, hD1⟩ := hB
  rw [ht] at hP1
  obtain ⟨hP, hD⟩ := va_join (wr := []) (w1 := [(h0, .inr (1, [.ref bv, .int 0, w1, .int 24])), (bv, .inl (y 0, 34, .inl (va_cpy zs10 g (0 : Int32).toNatClampNeg (24 : Int32).toNatClampNeg (5 : Int32).toNatClampNeg)))]) hP hD [0, 1] [] rfl rfl (by decide) (by decide) hk1 hFc hP1 hD1
  generalize H1 = H at hP hS ⊢
  have hP : va_P D vwCl [(h0, .inr (1, [.ref bv, .int 0, w1, .int 24])), (bv, .inl (y 0, 34, .inl (va_cpy zs10 g (0 : Int32).toNatClampNeg (24 : Int32).toNatClampNeg (5 : Int32).toNatClampNeg)))] H := hP
  have hD : va_D A [(h0, .inr (1, [.ref bv, .int 0, w1, .int 24])), (bv, .inl (y 0, 34, .inl (va_cpy zs10 g (0 : Int32).toNatClampNeg (24 : Int32).toNatClampNeg (5 : Int32).toNatClampNeg)))] := hD
  refine lv_aload_n hx hb dJ5_append_cf1ce_33 rfl (lv_at hl 1 rfl) ?_
  refine lv_dup hx hb dJ5_append_cf1ce_34 rfl ?_
  refine va_get (D := D) (ci := 1) (v := .int 24) (C := RJ4) (T := TJ4) (N := 4) hx hb hts (by decide +kernel) hown hK hP 0 rfl rfl 3 (by decide) (hts (.fieldLink RJ5 79 "java/lang/AbstractStringBuilder" "count" "I") (by decide +kernel)) (fun _ h9 => h9) rfl dJ5_append_cf1ce_35 ?_
  refine lv_iload_n hx hb dJ5_append_cf1ce_38 rfl (lv_at hl 0 rfl) ?_
  refine lv_iadd hx hb dJ5_append_cf1ce_39 ?_
  refine lv_topi (fun v3 ev3 => ?_)
  have ev3 : v3 = 29 := ev3.trans (by decide +kernel)
  subst ev3
  refine va_put (D := D) (ci := 1) (v := .int 29) (ty := .int) (C := RJ4) (T := TJ4) (N := 4) hx hb hts (by decide +kernel) tyJ4 tyJ4_ok nmJ4 hown hK hP hD hS 0 rfl rfl 3 (by decide) (hts (.fieldLink RJ5 79 "java/lang/AbstractStringBuilder" "count" "I") (by decide +kernel)) (fun _ h9 => h9) rfl (by decide +kernel) rfl rfl (Nat.le_of_ble_eq_true rfl) dJ5_append_cf1ce_40 (fun H locs hP hD hS => ?_)
  have hP : va_P D vwCl [(h0, .inr (1, [.ref bv, .int 0, w1, .int 29])), (bv, .inl (y 0, 34, .inl (va_cpy zs10 g (0 : Int32).toNatClampNeg (24 : Int32).toNatClampNeg (5 : Int32).toNatClampNeg)))] H := hP
  have hD : va_D A [(h0, .inr (1, [.ref bv, .int 0, w1, .int 29])), (bv, .inl (y 0, 34, .inl (va_cpy zs10 g (0 : Int32).toNatClampNeg (24 : Int32).toNatClampNeg (5 : Int32).toNatClampNeg)))] := hD
  refine lv_aload_n hx hb dJ5_append_cf1ce_43 rfl (lv_at hl 1 rfl) ?_
  have hP9 := hP.sub (ws' := [(h0, .inr (1, [.ref bv, .int 0, w1, .int 29])), (bv, .inl (y 0, 34, .inl (va_cpy zs10 g (0 : Int32).toNatClampNeg (24 : Int32).toNatClampNeg (5 : Int32).toNatClampNeg)))]) [0, 1] rfl
  have hD9 := hD.sub (ws' := [(h0, .inr (1, [.ref bv, .int 0, w1, .int 29])), (bv, .inl (y 0, 34, .inl (va_cpy zs10 g (0 : Int32).toNatClampNeg (24 : Int32).toNatClampNeg (5 : Int32).toNatClampNeg)))]) [0, 1] (by decide) rfl
  refine W.widen (k := 0) (n := 0) (Nat.le_of_ble_eq_true rfl) (Nat.le_of_ble_eq_true rfl) ?_
  exact W.aret (v := .ref h0) hx hb hr (Or.inl ⟨_, rfl⟩) (Or.inr ⟨_, rfl⟩) (fun t ht hW => ⟨⟨(some h0), (), rfl, rfl, by rw [ht]; exact hP9, hD9⟩, hS.F ht⟩) hS.2.2 dJ5_append_cf1ce_44
def wz_c_SBapp_10_24_34 : List Cond := .code yJ4_append_15ec4 cJ4_append_15ec4 2 (some (.object "java/lang/StringBuilder")) :: ([.methodLink RJ4 29 yJ5_append_cf1ce, .sameMethod RJ5 RJ5 "append" "(Ljava/lang/String;)Ljava/lang/AbstractStringBuilder;", .superclass RJ4 RJ5, .instanceMethod yJ5_append_cf1ce, .initialized RJ5] ++ (wz_c_ASBapp_10_24_34 ++ ([])))
set_option maxRecDepth 100000 in
theorem gz_c_SBapp_10_24_34_c_ASBapp_10_24_34 : GoodIn wz_c_SBapp_10_24_34 wz_c_ASBapp_10_24_34 := goodIn_sub (fun w h => List.mem_cons_of_mem _ (List.mem_append_right _ (List.mem_append_left _ h))) (by decide +kernel)
set_option maxRecDepth 100000 in
theorem gv_c_SBapp_10_24_34_c_ASBapp_10_24_34_29 : GoodIn wz_c_SBapp_10_24_34 (va_wsSU RJ4 29 yJ5_append_cf1ce wz_c_ASBapp_10_24_34) := goodIn_app (goodIn_of _ (by decide +kernel)) gz_c_SBapp_10_24_34_c_ASBapp_10_24_34
set_option maxHeartbeats 4000000 in
set_option maxRecDepth 100000 in
theorem c_SBapp_10_24_34 (l : Launch) (D : va_G) (y : Nat → ClassId) (sz : Nat) (h0 : Nat) (bv : Nat) (w1 : Value) (sx : Nat) (tx : Nat) (g : Nat → Int32) : Met l yJ4_append_15ec4 wz_c_SBapp_10_24_34 ({ frames := 4, cells := 0, slots := 0, locals := 127 }) (va_Pc [.ref h0, .ref sx] (zB D y [(h0, .inr (1, [.ref bv, .int 0, w1, .int 24])), (bv, .inl (y 0, 34, .inl g))] sz [] [("java/lang/String", "COMPACT_STRINGS", "Z", .int 1)] [] [.inr (.inl (sx, tx, 5, zs10))])) (va_Qq (fun (r : Option Nat) (_ : Unit) => r = some h0) (fun _ t => va_P D vwCl [(h0, .inr (1, [.ref bv, .int 0, w1, .int 29])), (bv, .inl (y 0, 34, .inl (va_cpy zs10 g (0 : Int32).toNatClampNeg (24 : Int32).toNatClampNeg (5 : Int32).toNatClampNeg)))] t.heap ∧ va_D (va_A [(h0, .inr (1, [.ref bv, .int 0, w1, .int 24])), (bv, .inl (y 0, 34, .inl g))] sz) [(h0, .inr (1, [.ref bv, .int 0, w1, .int 29])), (bv, .inl (y 0, 34, .inl (va_cpy zs10 g (0 : Int32).toNatClampNeg (24 : Int32).toNatClampNeg (5 : Int32).toNatClampNeg)))]) (va_A [(h0, .inr (1, [.ref bv, .int 0, w1, .int 24])), (bv, .inl (y 0, 34, .inl g))] sz)) 0 0 (va_A [(h0, .inr (1, [.ref bv, .int 0, w1, .int 24])), (bv, .inl (y 0, 34, .inl g))] sz) := by
  refine Met.ofW (cc := cJ4_append_15ec4) (maxL := 2) (ret := (some (.object "java/lang/StringBuilder"))) (by decide) rfl ?_
  intro p e s m args below meth c s₁ B hml hv
  obtain ⟨rfl, hsz, hP, hK, hD0, hN, hE, hO, hT, hG⟩ := hv
  have hx := B.exec
  have hb := B.bytes
  have hr := B.returns
  have hts := atoms_spec (ws := wz_c_SBapp_10_24_34) B.pre
  have hown : s.vm.findClass RJ4 = some m.cls := findClass_of_methodNamed B.named
  have hlocks := B.notSynchronized
  subst hsz
  have hD := hD0.self (sz := s.heap.size)
  generalize hAe : va_A [(h0, .inr (1, [.ref bv, .int 0, w1, .int 24])), (bv, .inl (y 0, 34, .inl g))] s.heap.size = A at hD hE hT hG ⊢
  have hA : ∀ q : Nat, s.heap.size ≤ q → A q := fun q h => by rw [← hAe]; exact Or.inr h
  have hS : va_S A s.heap s.heap [] := va_S.rf
  have hl := lv_entry ([.ref h0, .ref sx]) (n := 2) (Nat.le_of_ble_eq_true rfl)
  rw [lg_entry_eq]
  generalize (lg_sl ([.ref h0, .ref sx]) ++ List.replicate (2 - (lg_sl ([.ref h0, .ref sx])).length) Slot.unset).toArray = ls at hl ⊢
  have hl : lv_has ls 2 [(0, .ref h0), (1, .ref sx)] := hl
  refine lv_aload_n hx hb dJ4_append_15ec4_0 rfl (lv_at hl 0 rfl) ?_
  refine lv_aload_n hx hb dJ4_append_15ec4_1 rfl (lv_at hl 1 rfl) ?_
  have hPc := hP.sub (ws' := [(h0, .inr (1, [.ref bv, .int 0, w1, .int 24])), (bv, .inl (y 0, 34, .inl g))]) [0, 1] rfl
  have hDc := hD.sub (ws' := [(h0, .inr (1, [.ref bv, .int 0, w1, .int 24])), (bv, .inl (y 0, 34, .inl g))]) [0, 1] (by decide) rfl
  have hFc := va_free (wc := [(h0, .inr (1, [.ref bv, .int 0, w1, .int 24])), (bv, .inl (y 0, 34, .inl g))]) hD hS hA [0, 1] rfl
  refine va_callq (va_runSU (hK.1 1 _ rfl).2 (As := [.ref sx]) (rest := []) ⟨hx, hb, hml, hown, hts⟩ (c_ASBapp_10_24_34 l D y s.heap.size h0 bv w1 sx tx g) (va_cwSU 1 hts gv_c_SBapp_10_24_34_c_ASBapp_10_24_34_29 rfl rfl rfl (by decide +kernel) ⟨(Nat.le_of_ble_eq_true rfl), (Nat.le_of_ble_eq_true rfl)⟩) (zB.preV hPc hDc hK hN hE hO hT hG hS hFc (fun _ h => nomatch h) (List.forall_mem_cons.mpr ⟨List.mem_of_getElem? (i := 0) rfl, (fun _ h => nomatch h)⟩) (fun _ h => nomatch h) (List.forall_mem_cons.mpr ⟨List.mem_of_getElem? (i := 0) rfl, (fun _ h => nomatch h)⟩) (va_recv hK hPc (ci := 1) (q0 := 0) rfl rfl)) rfl rfl hl.1 rfl (lv_room (Nat.le_of_ble_eq_true rfl)) dJ4_append_15ec4_2 ⟨(Nat.le_of_ble_eq_true rfl), (Nat.le_of_ble_eq_true rfl)⟩) hS (fun q _ h => hFc q h) hFc (fun r1 u t H1 locs ht hvm hw hB hz1 hk1 hS => ?_)
  obtain ⟨hP1, hD1⟩ := hB
  rw [ht] at hP1
  obtain ⟨hP, hD⟩ := va_join (wr := []) (w1 := [(h0, .inr (1, [.ref bv, .int 0, w1, .int 29])), (bv, .inl (y 0, 34, .inl (va_cpy zs10 g (0 : Int32).toNatClampNeg (24 : Int32).toNatClampNeg (5 : Int32).toNatClampNeg)))]) hP hD [0, 1] [] rfl rfl (by decide) (by decide) hk1 hFc hP1 hD1
  generalize H1 = H at hP hS ⊢
  have hP : va_P D vwCl [(h0, .inr (1, [.ref bv, .int 0, w1, .int 29])), (bv, .inl (y 0, 34, .inl (va_cpy zs10 g (0 : Int32).toNatClampNeg (24 : Int32).toNatClampNeg (5 : Int32).toNatClampNeg)))] H := hP
  have hD : va_D A [(h0, .inr (1, [.ref bv, .int 0, w1, .int 29])), (bv, .inl (y 0, 34, .inl (va_cpy zs10 g (0 : Int32).toNatClampNeg (24 : Int32).toNatClampNeg (5 : Int32).toNatClampNeg)))] := hD
  have hw : r1 = some h0 := hw
  subst hw
  refine W.eq (g2 := F0 m 5 ls [.ref h0]) rfl ?_
  refine lv_pop hx hb dJ4_append_15ec4_5 rfl ?_
  refine lv_aload_n hx hb dJ4_append_15ec4_6 rfl (lv_at hl 0 rfl) ?_
  have hP9 := hP.sub (ws' := [(h0, .inr (1, [.ref bv, .int 0, w1, .int 29])), (bv, .inl (y 0, 34, .inl (va_cpy zs10 g (0 : Int32).toNatClampNeg (24 : Int32).toNatClampNeg (5 : Int32).toNatClampNeg)))]) [0, 1] rfl
  have hD9 := hD.sub (ws' := [(h0, .inr (1, [.ref bv, .int 0, w1, .int 29])), (bv, .inl (y 0, 34, .inl (va_cpy zs10 g (0 : Int32).toNatClampNeg (24 : Int32).toNatClampNeg (5 : Int32).toNatClampNeg)))]) [0, 1] (by decide) rfl
  refine W.widen (k := 0) (n := 0) (Nat.le_of_ble_eq_true rfl) (Nat.le_of_ble_eq_true rfl) ?_
  exact W.aret (v := .ref h0) hx hb hr (Or.inl ⟨_, rfl⟩) (Or.inr ⟨_, rfl⟩) (fun t ht hW => ⟨⟨(some h0), (), rfl, rfl, by rw [ht]; exact hP9, hD9⟩, hS.F ht⟩) hS.2.2 dJ4_append_15ec4_7
def zk19 : Nat → Int32 := va_cpy zs10 zk18 (0 : Int32).toNatClampNeg (24 : Int32).toNatClampNeg (5 : Int32).toNatClampNeg
def wz_c_chkLen_29 : List Cond := .code yJ7_checkLength_df160 cJ7_checkLength_df160 2 none :: ([] ++ ([]))
set_option maxHeartbeats 4000000 in
set_option maxRecDepth 100000 in
theorem c_chkLen_29 (l : Launch) (D : va_G) (y : Nat → ClassId) (sz : Nat)  : Met l yJ7_checkLength_df160 wz_c_chkLen_29 ({ frames := 0, cells := 0, slots := 0, locals := 0 }) (va_Pc [.int 0, .int 29] (zB D y [] sz [] [] [] [])) (va_Qv (fun _ : Unit => True) (fun _ t => va_P D vwCl [] t.heap ∧ va_D (va_A [] sz) []) (va_A [] sz)) 0 0 (va_A [] sz) := by
  refine Met.ofW (cc := cJ7_checkLength_df160) (maxL := 2) (ret := none) (by decide) rfl ?_
  intro p e s m args below meth c s₁ B hml hv
  obtain ⟨rfl, hsz, hP, hK, hD0, hN, hE, hO, hT, hG⟩ := hv
  have hx := B.exec
  have hb := B.bytes
  have hr := B.returns
  have hts := atoms_spec (ws := wz_c_chkLen_29) B.pre
  have hown : s.vm.findClass RJ7 = some m.cls := findClass_of_methodNamed B.named
  have hlocks := B.notSynchronized
  subst hsz
  have hD := hD0.self (sz := s.heap.size)
  generalize hAe : va_A [] s.heap.size = A at hD hE hT hG ⊢
  have hA : ∀ q : Nat, s.heap.size ≤ q → A q := fun q h => by rw [← hAe]; exact Or.inr h
  have hS : va_S A s.heap s.heap [] := va_S.rf
  have hl := lv_entry ([.int 0, .int 29]) (n := 2) (Nat.le_of_ble_eq_true rfl)
  rw [lg_entry_eq]
  generalize (lg_sl ([.int 0, .int 29]) ++ List.replicate (2 - (lg_sl ([.int 0, .int 29])).length) Slot.unset).toArray = ls at hl ⊢
  have hl : lv_has ls 2 [(0, .int 0), (1, .int 29)] := hl
  refine lv_iload_n hx hb dJ7_checkLength_df160_0 rfl (lv_at hl 1 rfl) ?_
  refine lv_iload_n hx hb dJ7_checkLength_df160_1 rfl (lv_at hl 0 rfl) ?_
  refine lv_icmp_ge (tgt := 37) hx hb dJ7_checkLength_df160_2 (by decide) (fun _ => ?_) (fun c9 => absurd (by decide) c9)
  have hP9 := hP.sub (ws' := []) [] rfl
  have hD9 := hD.sub (ws' := []) [] (by decide) rfl
  refine W.widen (k := 0) (n := 0) (Nat.le_of_ble_eq_true rfl) (Nat.le_of_ble_eq_true rfl) ?_
  exact W.vret hx hb hr (fun t ht hW => ⟨⟨(), rfl, trivial, by rw [ht]; exact hP9, hD9⟩, hS.F ht⟩) hS.2.2 dJ7_checkLength_df160_37
def zk20 : Nat → Int32 := va_cpy zk19 (fun _ => 0) (0 : Int32).toNatClampNeg (0 : Int32).toNatClampNeg (29 : Int32).toNatClampNeg
def wz_c_cRB_b2 : List Cond := .code yJ7_copyOfRangeByte_39247 cJ7_copyOfRangeByte_39247 5 (some (.array .byte)) :: ([.methodLink RJ7 343 yJ7_checkLength_df160, .static yJ7_checkLength_df160, .initialized RJ7, .arrayClass .byte, .methodLink RJ7 304 Lib.Math.min.name, .static Lib.Math.min.name, .initialized "java/lang/Math", .code Lib.Math.min.name Lib.Math.min.code 2 (some .int), .methodLink RJ7 150 arraycopyName, .native arraycopyName, .static arraycopyName, .initialized "java/lang/System"] ++ (wz_c_chkLen_29 ++ ([])))
set_option maxRecDepth 100000 in
theorem gz_c_cRB_b2_c_chkLen_29 : GoodIn wz_c_cRB_b2 wz_c_chkLen_29 := goodIn_sub (fun w h => List.mem_cons_of_mem _ (List.mem_append_right _ (List.mem_append_left _ h))) (by decide +kernel)
set_option maxRecDepth 100000 in
theorem gv_c_cRB_b2_c_chkLen_29_343 : GoodIn wz_c_cRB_b2 (va_wsS RJ7 343 yJ7_checkLength_df160 wz_c_chkLen_29) := goodIn_app (goodIn_of _ (by decide +kernel)) gz_c_cRB_b2_c_chkLen_29
set_option maxHeartbeats 4000000 in
set_option maxRecDepth 100000 in
theorem c_cRB_b2 (l : Launch) (D : va_G) (y : Nat → ClassId) (sz : Nat) (bv : Nat) : Met l yJ7_copyOfRangeByte_39247 wz_c_cRB_b2 ({ frames := 1, cells := 1, slots := 29, locals := 60 }) (va_Pc [.ref bv, .int 0, .int 29] (zB D y [(bv, .inl (y 0, 34, .inl zk19))] sz [] [] [] [])) (va_Qr (fun _ : Unit => True) (fun _ q2 t => va_P D vwCl [(bv, .inl (y 0, 34, .inl zk19)), (q2, .inl (y 0, 29, .inl zk20))] t.heap ∧ va_D (va_A [(bv, .inl (y 0, 34, .inl zk19))] sz) [(bv, .inl (y 0, 34, .inl zk19)), (q2, .inl (y 0, 29, .inl zk20))]) (va_A [(bv, .inl (y 0, 34, .inl zk19))] sz)) 1 29 (va_A [(bv, .inl (y 0, 34, .inl zk19))] sz) := by
  refine Met.ofW (cc := cJ7_copyOfRangeByte_39247) (maxL := 5) (ret := (some (.array .byte))) (by decide) rfl ?_
  intro p e s m args below meth c s₁ B hml hv
  obtain ⟨rfl, hsz, hP, hK, hD0, hN, hE, hO, hT, hG⟩ := hv
  have hx := B.exec
  have hb := B.bytes
  have hr := B.returns
  have hts := atoms_spec (ws := wz_c_cRB_b2) B.pre
  have hown : s.vm.findClass RJ7 = some m.cls := findClass_of_methodNamed B.named
  have hlocks := B.notSynchronized
  subst hsz
  have hD := hD0.self (sz := s.heap.size)
  generalize hAe : va_A [(bv, .inl (y 0, 34, .inl zk19))] s.heap.size = A at hD hE hT hG ⊢
  have hA : ∀ q : Nat, s.heap.size ≤ q → A q := fun q h => by rw [← hAe]; exact Or.inr h
  have hS : va_S A s.heap s.heap [] := va_S.rf
  have hl := lv_entry ([.ref bv, .int 0, .int 29]) (n := 5) (Nat.le_of_ble_eq_true rfl)
  rw [lg_entry_eq]
  generalize (lg_sl ([.ref bv, .int 0, .int 29]) ++ List.replicate (5 - (lg_sl ([.ref bv, .int 0, .int 29])).length) Slot.unset).toArray = ls at hl ⊢
  have hl : lv_has ls 5 [(0, .ref bv), (1, .int 0), (2, .int 29)] := hl
  refine lv_iload_n hx hb dJ7_copyOfRangeByte_39247_0 rfl (lv_at hl 1 rfl) ?_
  refine lv_iload_n hx hb dJ7_copyOfRangeByte_39247_1 rfl (lv_at hl 2 rfl) ?_
  have hPc := hP.sub (ws' := []) [] rfl
  have hDc := hD.sub (ws' := []) [] (by decide) rfl
  have hFc := va_free (wc := []) hD hS hA [] rfl
  refine va_callv (va_runS (As := [.int 0, .int 29]) (rest := []) ⟨hx, hb, hml, hown, hts⟩ (c_chkLen_29 l D y s.heap.size ) (va_cwS 2 hts gv_c_cRB_b2_c_chkLen_29_343 rfl rfl rfl (by decide +kernel) ⟨(Nat.le_of_ble_eq_true rfl), (Nat.le_of_ble_eq_true rfl)⟩) (zB.preS hPc hDc hK hN hE hO hT hG hS hFc (fun _ h => nomatch h) (fun _ h => nomatch h) (fun _ h => nomatch h) (fun _ h => nomatch h)) rfl rfl hl.1 rfl (lv_room (Nat.le_of_ble_eq_true rfl)) dJ7_copyOfRangeByte_39247_2 ⟨(Nat.le_of_ble_eq_true rfl), (Nat.le_of_ble_eq_true rfl)⟩) hS (fun q _ h => hFc q h) hFc (fun u t H1 locs ht hvm hw hB hz1 hk1 hS => ?_)
  obtain ⟨hP1, hD1⟩ := hB
  rw [ht] at hP1
  obtain ⟨hP, hD⟩ := va_join (wr := [(bv, .inl (y 0, 34, .inl zk19))]) (w1 := []) hP hD [] [0] rfl rfl (by decide) (by decide) hk1 hFc hP1 hD1
  generalize H1 = H at hP hS ⊢
  have hP : va_P D vwCl [(bv, .inl (y 0, 34, .inl zk19))] H := hP
  have hD : va_D A [(bv, .inl (y 0, 34, .inl zk19))] := hD
  refine lv_iload_n hx hb dJ7_copyOfRangeByte_39247_5 rfl (lv_at hl 2 rfl) ?_
  refine lv_iload_n hx hb dJ7_copyOfRangeByte_39247_6 rfl (lv_at hl 1 rfl) ?_
  refine lv_isub hx hb dJ7_copyOfRangeByte_39247_7 ?_
  refine lv_topi (fun v1 ev1 => ?_)
  have ev1 : v1 = 29 := ev1.trans (by decide +kernel)
  subst ev1
  refine lv_istore_n (lv' := [(3, .int 29), (0, .ref bv), (1, .int 0), (2, .int 29)]) hx hb dJ7_copyOfRangeByte_39247_8 rfl hl (by decide) rfl (fun ls hl => ?_)
  refine lv_iload_n hx hb dJ7_copyOfRangeByte_39247_9 rfl (lv_at hl 0 rfl) ?_
  refine zz_newa (atype := .byte) (n := 29) (N' := 29) (a0 := (29, .inl (fun _ => 0))) (ty := .byte) hx hb (hts (.arrayClass .byte) (by decide +kernel)) rfl hK 0 rfl hP hD hS hA (zz_aB 29) (by decide +kernel) (by decide +kernel) (by decide +kernel) (Nat.le_of_ble_eq_true rfl) (Nat.le_of_ble_eq_true rfl) dJ7_copyOfRangeByte_39247_10 (fun q2 H hP hD hS => ?_)
  have hP : va_P D vwCl [(bv, .inl (y 0, 34, .inl zk19)), (q2, .inl (y 0, 29, .inl (fun _ => 0)))] H := hP
  have hD : va_D A [(bv, .inl (y 0, 34, .inl zk19)), (q2, .inl (y 0, 29, .inl (fun _ => 0)))] := hD
  refine lv_astore (lv' := [(4, .ref q2), (3, .int 29), (0, .ref bv), (1, .int 0), (2, .int 29)]) hx hb dJ7_copyOfRangeByte_39247_12 hl (by decide) rfl (fun ls hl => ?_)
  refine lv_aload_n hx hb dJ7_copyOfRangeByte_39247_14 rfl (lv_at hl 2 rfl) ?_
  refine lv_iload_n hx hb dJ7_copyOfRangeByte_39247_15 rfl (lv_at hl 3 rfl) ?_
  refine lv_aload hx hb dJ7_copyOfRangeByte_39247_16 (lv_at hl 0 rfl) ?_
  refine lv_iconst (v := 0) hx hb dJ7_copyOfRangeByte_39247_18 (by decide) ?_
  refine lv_aload_n hx hb dJ7_copyOfRangeByte_39247_19 rfl (lv_at hl 2 rfl) ?_
  refine va_alen (v := 34) hx hb hK hP 0 0 rfl rfl (show Int32.ofNat 34 = (34 : Int32) from by decide) dJ7_copyOfRangeByte_39247_20 ?_
  refine lv_iload_n hx hb dJ7_copyOfRangeByte_39247_21 rfl (lv_at hl 3 rfl) ?_
  refine lv_isub hx hb dJ7_copyOfRangeByte_39247_22 ?_
  refine lv_topi (fun v3 ev3 => ?_)
  have ev3 : v3 = 34 := ev3.trans (by decide +kernel)
  subst ev3
  refine lv_iload_n hx hb dJ7_copyOfRangeByte_39247_23 rfl (lv_at hl 1 rfl) ?_
  refine va_mmin hx hb (hml.trans hl.1.symm) hown (hts (.methodLink RJ7 304 Lib.Math.min.name) (by decide +kernel)) (hts (.static Lib.Math.min.name) (by decide +kernel)) (hts (.initialized "java/lang/Math") (by decide +kernel)) (hts (.code Lib.Math.min.name Lib.Math.min.code 2 (some .int)) (by decide +kernel)) (Nat.le_of_ble_eq_true rfl) (Nat.le_of_ble_eq_true rfl) (Nat.le_of_ble_eq_true rfl) (Nat.le_of_ble_eq_true rfl) dJ7_copyOfRangeByte_39247_24 ?_
  refine lv_topi (fun v4 ev4 => ?_)
  have ev4 : v4 = 29 := ev4.trans (by decide +kernel)
  subst ev4
  refine va_copyi (ty := .byte) (sp := 0) (dp := 0) (n := 29) hx hb (hml.trans hl.1.symm) hown (hts (.methodLink RJ7 150 arraycopyName) (by decide +kernel)) (hts (.native arraycopyName) (by decide +kernel)) (hts (.static arraycopyName) (by decide +kernel)) (hts (.initialized "java/lang/System") (by decide +kernel)) hK hP hD hS 0 1 0 0 rfl rfl rfl rfl rfl (by decide +kernel) (by decide +kernel) (by decide +kernel) (by decide +kernel) (by decide +kernel) (by decide +kernel) (Nat.le_of_ble_eq_true rfl) (Nat.le_of_ble_eq_true rfl) dJ7_copyOfRangeByte_39247_27 (fun H locs hP hD hS => ?_)
  have hP : va_P D vwCl [(bv, .inl (y 0, 34, .inl zk19)), (q2, .inl (y 0, 29, .inl zk20))] H := hP
  have hD : va_D A [(bv, .inl (y 0, 34, .inl zk19)), (q2, .inl (y 0, 29, .inl zk20))] := hD
  refine lv_aload hx hb dJ7_copyOfRangeByte_39247_30 (lv_at hl 0 rfl) ?_
  have hP9 := hP.sub (ws' := [(bv, .inl (y 0, 34, .inl zk19)), (q2, .inl (y 0, 29, .inl zk20))]) [0, 1] rfl
  have hD9 := hD.sub (ws' := [(bv, .inl (y 0, 34, .inl zk19)), (q2, .inl (y 0, 29, .inl zk20))]) [0, 1] (by decide) rfl
  refine W.widen (k := 1) (n := 29) (Nat.le_of_ble_eq_true rfl) (Nat.le_of_ble_eq_true rfl) ?_
  exact W.aret (v := .ref q2) hx hb hr (Or.inr ⟨_, rfl⟩) (Or.inr ⟨_, rfl⟩) (fun t ht hW => ⟨⟨(), q2, rfl, trivial, by rw [ht]; exact hP9, hD9⟩, hS.F ht⟩) hS.2.2 dJ7_copyOfRangeByte_39247_32
def wz_c_cR_b2 : List Cond := .code yJ7_copyOfRange_39247 cJ7_copyOfRange_39247 3 (some (.array .byte)) :: ([.methodLink RJ7 339 yJ7_copyOfRangeByte_39247, .static yJ7_copyOfRangeByte_39247, .initialized RJ7] ++ (wz_c_cRB_b2 ++ ([])))
set_option maxRecDepth 100000 in
theorem gz_c_cR_b2_c_cRB_b2 : GoodIn wz_c_cR_b2 wz_c_cRB_b2 := goodIn_sub (fun w h => List.mem_cons_of_mem _ (List.mem_append_right _ (List.mem_append_left _ h))) (by decide +kernel)
set_option maxRecDepth 100000 in
theorem gv_c_cR_b2_c_cRB_b2_339 : GoodIn wz_c_cR_b2 (va_wsS RJ7 339 yJ7_copyOfRangeByte_39247 wz_c_cRB_b2) := goodIn_app (goodIn_of _ (by decide +kernel)) gz_c_cR_b2_c_cRB_b2
set_option maxHeartbeats 4000000 in
set_option maxRecDepth 100000 in
theorem c_cR_b2 (l : Launch) (D : va_G) (y : Nat → ClassId) (sz : Nat) (bv : Nat) : Met l yJ7_copyOfRange_39247 wz_c_cR_b2 ({ frames := 2, cells := 1, slots := 29, locals := 84 }) (va_Pc [.ref bv, .int 0, .int 29] (zB D y [(bv, .inl (y 0, 34, .inl zk19))] sz [] [] [] [])) (va_Qr (fun _ : Unit => True) (fun _ r1 t => va_P D vwCl [(bv, .inl (y 0, 34, .inl zk19)), (r1, .inl (y 0, 29, .inl zk20))] t.heap ∧ va_D (va_A [(bv, .inl (y 0, 34, .inl zk19))] sz) [(bv, .inl (y 0, 34, .inl zk19)), (r1, .inl (y 0, 29, .inl zk20))]) (va_A [(bv, .inl (y 0, 34, .inl zk19))] sz)) 1 29 (va_A [(bv, .inl (y 0, 34, .inl zk19))] sz) := by
  refine Met.ofW (cc := cJ7_copyOfRange_39247) (maxL := 3) (ret := (some (.array .byte))) (by decide) rfl ?_
  intro p e s m args below meth c s₁ B hml hv
  obtain ⟨rfl, hsz, hP, hK, hD0, hN, hE, hO, hT, hG⟩ := hv
  have hx := B.exec
  have hb := B.bytes
  have hr := B.returns
  have hts := atoms_spec (ws := wz_c_cR_b2) B.pre
  have hown : s.vm.findClass RJ7 = some m.cls := findClass_of_methodNamed B.named
  have hlocks := B.notSynchronized
  subst hsz
  have hD := hD0.self (sz := s.heap.size)
  generalize hAe : va_A [(bv, .inl (y 0, 34, .inl zk19))] s.heap.size = A at hD hE hT hG ⊢
  have hA : ∀ q : Nat, s.heap.size ≤ q → A q := fun q h => by rw [← hAe]; exact Or.inr h
  have hS : va_S A s.heap s.heap [] := va_S.rf
  have hl := lv_entry ([.ref bv, .int 0, .int 29]) (n := 3) (Nat.le_of_ble_eq_true rfl)
  rw [lg_entry_eq]
  generalize (lg_sl ([.ref bv, .int 0, .int 29]) ++ List.replicate (3 - (lg_sl ([.ref bv, .int 0, .int 29])).length) Slot.unset).toArray = ls at hl ⊢
  have hl : lv_has ls 3 [(0, .ref bv), (1, .int 0), (2, .int 29)] := hl
  refine lv_iload_n hx hb dJ7_copyOfRange_39247_0 rfl (lv_at hl 1 rfl) ?_
  refine lv_if_ne (tgt := 10) hx hb dJ7_copyOfRange_39247_1 (by decide) (fun c9 => absurd (by decide) c9) (fun _ => ?_)
  refine lv_iload_n hx hb dJ7_copyOfRange_39247_4 rfl (lv_at hl 2 rfl) ?_
  refine lv_aload_n hx hb dJ7_copyOfRange_39247_5 rfl (lv_at hl 0 rfl) ?_
  refine va_alen (v := 34) hx hb hK hP 0 0 rfl rfl (show Int32.ofNat 34 = (34 : Int32) from by decide) dJ7_copyOfRange_39247_6 ?_
  refine lv_icmp_eq (tgt := 17) hx hb dJ7_copyOfRange_39247_7 (by decide) (fun c9 => absurd c9 (by decide)) (fun _ => ?_)
  refine lv_aload_n hx hb dJ7_copyOfRange_39247_10 rfl (lv_at hl 0 rfl) ?_
  refine lv_iload_n hx hb dJ7_copyOfRange_39247_11 rfl (lv_at hl 1 rfl) ?_
  refine lv_iload_n hx hb dJ7_copyOfRange_39247_12 rfl (lv_at hl 2 rfl) ?_
  have hPc := hP.sub (ws' := [(bv, .inl (y 0, 34, .inl zk19))]) [0] rfl
  have hDc := hD.sub (ws' := [(bv, .inl (y 0, 34, .inl zk19))]) [0] (by decide) rfl
  have hFc := va_free (wc := [(bv, .inl (y 0, 34, .inl zk19))]) hD hS hA [0] rfl
  refine va_callr (va_runS (As := [.ref bv, .int 0, .int 29]) (rest := []) ⟨hx, hb, hml, hown, hts⟩ (c_cRB_b2 l D y s.heap.size bv) (va_cwS 3 hts gv_c_cR_b2_c_cRB_b2_339 rfl rfl rfl (by decide +kernel) ⟨(Nat.le_of_ble_eq_true rfl), (Nat.le_of_ble_eq_true rfl)⟩) (zB.preS hPc hDc hK hN hE hO hT hG hS hFc (fun _ h => nomatch h) (fun _ h => nomatch h) (fun _ h => nomatch h) (fun _ h => nomatch h)) rfl rfl hl.1 rfl (lv_room (Nat.le_of_ble_eq_true rfl)) dJ7_copyOfRange_39247_13 ⟨(Nat.le_of_ble_eq_true rfl), (Nat.le_of_ble_eq_true rfl)⟩) hS (fun q _ h => hFc q h) hFc (fun u r1 t H1 locs ht hvm hw hB hz1 hk1 hS => ?_)
  obtain ⟨hP1, hD1⟩ := hB
  rw [ht] at hP1
  obtain ⟨hP, hD⟩ := va_join (wr := []) (w1 := [(bv, .inl (y 0, 34, .inl zk19)), (r1, .inl (y 0, 29, .inl zk20))]) hP hD [0] [] rfl rfl (by decide) (by decide) hk1 hFc hP1 hD1
  generalize H1 = H at hP hS ⊢
  have hP : va_P D vwCl [(bv, .inl (y 0, 34, .inl zk19)), (r1, .inl (y 0, 29, .inl zk20))] H := hP
  have hD : va_D A [(bv, .inl (y 0, 34, .inl zk19)), (r1, .inl (y 0, 29, .inl zk20))] := hD
  have hP9 := hP.sub (ws' := [(bv, .inl (y 0, 34, .inl zk19)), (r1, .inl (y 0, 29, .inl zk20))]) [0, 1] rfl
  have hD9 := hD.sub (ws' := [(bv, .inl (y 0, 34, .inl zk19)), (r1, .inl (y 0, 29, .inl zk20))]) [0, 1] (by decide) rfl
  refine W.widen (k := 1) (n := 29) (Nat.le_of_ble_eq_true rfl) (Nat.le_of_ble_eq_true rfl) ?_
  exact W.aret (v := .ref r1) hx hb hr (Or.inr ⟨_, rfl⟩) (Or.inr ⟨_, rfl⟩) (fun t ht hW => ⟨⟨(), r1, rfl, trivial, by rw [ht]; exact hP9, hD9⟩, hS.F ht⟩) hS.2.2 dJ7_copyOfRange_39247_16
def wz_c_Si1_b2 : List Cond := .code yJ0_init_db425 cJ0_init_db425 5 none :: ([.methodLink RJ0 1 objectInit, .instanceMethod objectInit, .code objectInit ⟨#[0xb1]⟩ 1 none, .methodLink RJ0 552 ⟨"java/lang/AbstractStringBuilder", "getValue", "()[B"⟩, .sameMethod "java/lang/AbstractStringBuilder" "java/lang/AbstractStringBuilder" "getValue" "()[B", .selects RJ4 ⟨"java/lang/AbstractStringBuilder", "getValue", "()[B"⟩ yJ5_getValue_6d5f1, .instanceMethod yJ5_getValue_6d5f1, .initialized RJ5, .methodLink RJ0 549 ⟨"java/lang/AbstractStringBuilder", "length", "()I"⟩, .sameMethod RJ5 RJ5 "length" "()I", .instanceMethod yJ5_length_8abf5, .selects RJ4 ⟨"java/lang/AbstractStringBuilder", "length", "()I"⟩ yJ4_length_8abf5, .instanceMethod yJ4_length_8abf5, .initialized RJ4, .code yJ5_length_8abf5 cJ5_length_8abf5 1 (some .int), .methodLink RJ0 1047 ⟨"java/lang/AbstractStringBuilder", "isLatin1", "()Z"⟩, .sameMethod "java/lang/AbstractStringBuilder" "java/lang/AbstractStringBuilder" "isLatin1" "()Z", .selects RJ4 ⟨"java/lang/AbstractStringBuilder", "isLatin1", "()Z"⟩ yJ5_isLatin1_aae02, .instanceMethod yJ5_isLatin1_aae02, .fieldLink RJ0 15 "java/lang/String" "coder" "B", .methodLink RJ0 54 yJ7_copyOfRange_39247, .static yJ7_copyOfRange_39247, .initialized RJ7, .fieldLink RJ0 9 "java/lang/String" "value" "[B"] ++ (wsJ00 ++ (wz_c_getValue ++ (wz_c_SB_length ++ (wz_c_ASB_isLatin1 ++ (wz_c_cR_b2 ++ ([])))))))
set_option maxRecDepth 100000 in
theorem gz_c_Si1_b2_c_getValue : GoodIn wz_c_Si1_b2 wz_c_getValue := goodIn_sub (fun w h => List.mem_cons_of_mem _ (List.mem_append_right _ (List.mem_append_right _ (List.mem_append_left _ h)))) (by decide +kernel)
set_option maxRecDepth 100000 in
theorem gz_c_Si1_b2_c_SB_length : GoodIn wz_c_Si1_b2 wz_c_SB_length := goodIn_sub (fun w h => List.mem_cons_of_mem _ (List.mem_append_right _ (List.mem_append_right _ (List.mem_append_right _ (List.mem_append_left _ h))))) (by decide +kernel)
set_option maxRecDepth 100000 in
theorem gz_c_Si1_b2_c_ASB_isLatin1 : GoodIn wz_c_Si1_b2 wz_c_ASB_isLatin1 := goodIn_sub (fun w h => List.mem_cons_of_mem _ (List.mem_append_right _ (List.mem_append_right _ (List.mem_append_right _ (List.mem_append_right _ (List.mem_append_left _ h)))))) (by decide +kernel)
set_option maxRecDepth 100000 in
theorem gz_c_Si1_b2_c_cR_b2 : GoodIn wz_c_Si1_b2 wz_c_cR_b2 := goodIn_sub (fun w h => List.mem_cons_of_mem _ (List.mem_append_right _ (List.mem_append_right _ (List.mem_append_right _ (List.mem_append_right _ (List.mem_append_right _ (List.mem_append_left _ h))))))) (by decide +kernel)
set_option maxRecDepth 100000 in
theorem gv_c_Si1_b2_c_getValue_552 : GoodIn wz_c_Si1_b2 (va_wsU RJ0 552 RJ4 "java/lang/AbstractStringBuilder" ⟨"java/lang/AbstractStringBuilder", "getValue", "()[B"⟩ yJ5_getValue_6d5f1 wz_c_getValue) := goodIn_app (goodIn_of _ (by decide +kernel)) gz_c_Si1_b2_c_getValue
set_option maxRecDepth 100000 in
theorem gv_c_Si1_b2_c_SB_length_549 : GoodIn wz_c_Si1_b2 (va_wsO RJ0 549 RJ4 RJ5 ⟨"java/lang/AbstractStringBuilder", "length", "()I"⟩ yJ4_length_8abf5 wz_c_SB_length) := goodIn_app (goodIn_of _ (by decide +kernel)) gz_c_Si1_b2_c_SB_length
set_option maxRecDepth 100000 in
theorem gv_c_Si1_b2_c_ASB_isLatin1_1047 : GoodIn wz_c_Si1_b2 (va_wsU RJ0 1047 RJ4 "java/lang/AbstractStringBuilder" ⟨"java/lang/AbstractStringBuilder", "isLatin1", "()Z"⟩ yJ5_isLatin1_aae02 wz_c_ASB_isLatin1) := goodIn_app (goodIn_of _ (by decide +kernel)) gz_c_Si1_b2_c_ASB_isLatin1
set_option maxRecDepth 100000 in
theorem gv_c_Si1_b2_c_cR_b2_54 : GoodIn wz_c_Si1_b2 (va_wsS RJ0 54 yJ7_copyOfRange_39247 wz_c_cR_b2) := goodIn_app (goodIn_of _ (by decide +kernel)) gz_c_Si1_b2_c_cR_b2
set_option maxHeartbeats 4000000 in
set_option maxRecDepth 100000 in
theorem c_Si1_b2 (l : Launch) (D : va_G) (y : Nat → ClassId) (sz : Nat) (h0 : Nat) (sb : Nat) (bv : Nat) (w1 : Value) : Met l yJ0_init_db425 wz_c_Si1_b2 ({ frames := 3, cells := 1, slots := 29, locals := 106 }) (va_Pc [.ref h0, .ref sb, .null] (zB D y [(h0, .inr (0, [.null, .int 0, .int 0, .int 0])), (sb, .inr (1, [.ref bv, .int 0, w1, .int 29])), (bv, .inl (y 0, 34, .inl zk19))] sz [] [("java/lang/String", "COMPACT_STRINGS", "Z", .int 1)] [] [])) (va_Qv (fun _ : Unit => True) (fun _ t => ∃ r4 : Nat, va_P D vwCl [(h0, .inr (0, [.ref r4, .int 0, .int 0, .int 0])), (sb, .inr (1, [.ref bv, .int 0, w1, .int 29])), (bv, .inl (y 0, 34, .inl zk19)), (r4, .inl (y 0, 29, .inl zk20))] t.heap ∧ va_D (va_A [(h0, .inr (0, [.null, .int 0, .int 0, .int 0])), (sb, .inr (1, [.ref bv, .int 0, w1, .int 29])), (bv, .inl (y 0, 34, .inl zk19))] sz) [(h0, .inr (0, [.ref r4, .int 0, .int 0, .int 0])), (sb, .inr (1, [.ref bv, .int 0, w1, .int 29])), (bv, .inl (y 0, 34, .inl zk19)), (r4, .inl (y 0, 29, .inl zk20))]) (va_A [(h0, .inr (0, [.null, .int 0, .int 0, .int 0])), (sb, .inr (1, [.ref bv, .int 0, w1, .int 29])), (bv, .inl (y 0, 34, .inl zk19))] sz)) 1 29 (va_A [(h0, .inr (0, [.null, .int 0, .int 0, .int 0])), (sb, .inr (1, [.ref bv, .int 0, w1, .int 29])), (bv, .inl (y 0, 34, .inl zk19))] sz) := by
  refine Met.ofW (cc := cJ0_init_db425) (maxL := 5) (ret := none) (by decide) rfl ?_
  intro p e s m args below meth c s₁ B hml hv
  obtain ⟨rfl, hsz, hP, hK, hD0, hN, hE, hO, hT, hG⟩ := hv
  have hx := B.exec
  have hb := B.bytes
  have hr := B.returns
  have hts := atoms_spec (ws := wz_c_Si1_b2) B.pre
  have hown : s.vm.findClass RJ0 = some m.cls := findClass_of_methodNamed B.named
  have hlocks := B.notSynchronized
  have hin : meth.name = "<init>" := (name_of_methodNamed B.named B.method).1
  subst hsz
  have hD := hD0.self (sz := s.heap.size)
  generalize hAe : va_A [(h0, .inr (0, [.null, .int 0, .int 0, .int 0])), (sb, .inr (1, [.ref bv, .int 0, w1, .int 29])), (bv, .inl (y 0, 34, .inl zk19))] s.heap.size = A at hD hE hT hG ⊢
  have hA : ∀ q : Nat, s.heap.size ≤ q → A q := fun q h => by rw [← hAe]; exact Or.inr h
  have hS : va_S A s.heap s.heap [] := va_S.rf
  have hl := lv_entry ([.ref h0, .ref sb, .null]) (n := 5) (Nat.le_of_ble_eq_true rfl)
  rw [lg_entry_eq]
  generalize (lg_sl ([.ref h0, .ref sb, .null]) ++ List.replicate (5 - (lg_sl ([.ref h0, .ref sb, .null])).length) Slot.unset).toArray = ls at hl ⊢
  have hl : lv_has ls 5 [(0, .ref h0), (1, .ref sb), (2, .null)] := hl
  refine lv_aload_n hx hb dJ0_init_db425_0 rfl (lv_at hl 0 rfl) ?_
  refine W.objInit hx hb hown (hts (.methodLink RJ0 1 objectInit) (by decide +kernel)) (hts (.instanceMethod objectInit) (by decide +kernel)) (hts (.code objectInit ⟨#[0xb1]⟩ 1 none) (by decide +kernel)) rfl (by rw [hml]; exact hl.1) rfl dJ0_init_db425_1 (Nat.le_of_ble_eq_true rfl) (Nat.le_of_ble_eq_true rfl) ?_
  refine W.eq (g2 := F0 m 4 ls []) rfl ?_
  refine lv_aload_n hx hb dJ0_init_db425_4 rfl (lv_at hl 1 rfl) ?_
  have hPc := hP.sub (ws' := [(sb, .inr (1, [.ref bv, .int 0, w1, .int 29]))]) [1] rfl
  have hDc := hD.sub (ws' := [(sb, .inr (1, [.ref bv, .int 0, w1, .int 29]))]) [1] (by decide) rfl
  have hFc := va_free (wc := [(sb, .inr (1, [.ref bv, .int 0, w1, .int 29]))]) hD hS hA [1] rfl
  refine va_callq (va_runU (As := []) (rest := []) ⟨hx, hb, hml, hown, hts⟩ (c_getValue l D y s.heap.size sb bv ((.int 0)) w1 ((.int 29))) (va_cwU 0 hts gv_c_Si1_b2_c_getValue_552 rfl rfl rfl rfl (by decide +kernel) ⟨(Nat.le_of_ble_eq_true rfl), (Nat.le_of_ble_eq_true rfl)⟩) (zB.preV hPc hDc hK hN hE hO hT hG hS hFc (fun _ h => nomatch h) (fun _ h => nomatch h) (fun _ h => nomatch h) (fun _ h => nomatch h) (va_recv hK hPc (ci := 1) (q0 := 0) rfl rfl)) rfl rfl hl.1 rfl (lv_room (Nat.le_of_ble_eq_true rfl)) dJ0_init_db425_5 ⟨(Nat.le_of_ble_eq_true rfl), (Nat.le_of_ble_eq_true rfl)⟩) hS (fun q _ h => hFc q h) hFc (fun r1 u t H1 locs ht hvm hw hB hz1 hk1 hS => ?_)
  obtain ⟨hP1, hD1⟩ := hB
  rw [ht] at hP1
  obtain ⟨hP, hD⟩ := va_join (wr := [(h0, .inr (0, [.null, .int 0, .int 0, .int 0])), (bv, .inl (y 0, 34, .inl zk19))]) (w1 := [(sb, .inr (1, [.ref bv, .int 0, w1, .int 29]))]) hP hD [1] [0, 2] rfl rfl (by decide) (by decide) hk1 hFc hP1 hD1
  generalize H1 = H at hP hS ⊢
  have hP : va_P D vwCl [(h0, .inr (0, [.null, .int 0, .int 0, .int 0])), (bv, .inl (y 0, 34, .inl zk19)), (sb, .inr (1, [.ref bv, .int 0, w1, .int 29]))] H := hP
  have hD : va_D A [(h0, .inr (0, [.null, .int 0, .int 0, .int 0])), (bv, .inl (y 0, 34, .inl zk19)), (sb, .inr (1, [.ref bv, .int 0, w1, .int 29]))] := hD
  have hw : r1 = some bv := hw
  subst hw
  refine W.eq (g2 := F0 m 8 ls [.ref bv]) rfl ?_
  refine lv_astore_n (lv' := [(3, .ref bv), (0, .ref h0), (1, .ref sb), (2, .null)]) hx hb dJ0_init_db425_8 rfl hl (by decide) rfl (fun ls hl => ?_)
  refine lv_aload_n hx hb dJ0_init_db425_9 rfl (lv_at hl 2 rfl) ?_
  have hPc := hP.sub (ws' := [(sb, .inr (1, [.ref bv, .int 0, w1, .int 29]))]) [2] rfl
  have hDc := hD.sub (ws' := [(sb, .inr (1, [.ref bv, .int 0, w1, .int 29]))]) [2] (by decide) rfl
  have hFc := va_free (wc := [(sb, .inr (1, [.ref bv, .int 0, w1, .int 29]))]) hD hS hA [2] rfl
  refine va_calli (va_runU (As := []) (rest := []) ⟨hx, hb, hml, hown, hts⟩ (c_SB_length l D y H.size sb ((.ref bv)) ((.int 0)) w1 29) (va_cwO 0 hts gv_c_Si1_b2_c_SB_length_549 rfl rfl rfl (b0 := cJ5_length_8abf5) (m0 := 1) (r0 := (some .int)) (by decide +kernel) (by decide +kernel) ⟨(Nat.le_of_ble_eq_true rfl), (Nat.le_of_ble_eq_true rfl)⟩) (zB.preV hPc hDc hK hN hE hO hT hG hS hFc (fun _ h => nomatch h) (fun _ h => nomatch h) (fun _ h => nomatch h) (fun _ h => nomatch h) (va_recv hK hPc (ci := 1) (q0 := 0) rfl rfl)) rfl rfl hl.1 rfl (lv_room (Nat.le_of_ble_eq_true rfl)) dJ0_init_db425_10 ⟨(Nat.le_of_ble_eq_true rfl), (Nat.le_of_ble_eq_true rfl)⟩) hS (fun q _ h => hFc q h) hFc (fun r2 u t H1 locs ht hvm hw hB hz1 hk1 hS => ?_)
  obtain ⟨hP1, hD1⟩ := hB
  rw [ht] at hP1
  obtain ⟨hP, hD⟩ := va_join (wr := [(h0, .inr (0, [.null, .int 0, .int 0, .int 0])), (bv, .inl (y 0, 34, .inl zk19))]) (w1 := [(sb, .inr (1, [.ref bv, .int 0, w1, .int 29]))]) hP hD [2] [0, 1] rfl rfl (by decide) (by decide) hk1 hFc hP1 hD1
  generalize H1 = H at hP hS ⊢
  have hP : va_P D vwCl [(h0, .inr (0, [.null, .int 0, .int 0, .int 0])), (bv, .inl (y 0, 34, .inl zk19)), (sb, .inr (1, [.ref bv, .int 0, w1, .int 29]))] H := hP
  have hD : va_D A [(h0, .inr (0, [.null, .int 0, .int 0, .int 0])), (bv, .inl (y 0, 34, .inl zk19)), (sb, .inr (1, [.ref bv, .int 0, w1, .int 29]))] := hD
  have hw : r2 = 29 := hw
  subst hw
  refine lv_istore (lv' := [(4, .int 29), (3, .ref bv), (0, .ref h0), (1, .ref sb), (2, .null)]) hx hb dJ0_init_db425_13 hl (by decide) rfl (fun ls hl => ?_)
  refine lv_aload_n hx hb dJ0_init_db425_15 rfl (lv_at hl 3 rfl) ?_
  have hPc := hP.sub (ws' := [(sb, .inr (1, [.ref bv, .int 0, w1, .int 29]))]) [2] rfl
  have hDc := hD.sub (ws' := [(sb, .inr (1, [.ref bv, .int 0, w1, .int 29]))]) [2] (by decide) rfl
  have hFc := va_free (wc := [(sb, .inr (1, [.ref bv, .int 0, w1, .int 29]))]) hD hS hA [2] rfl
  refine va_calli (va_runU (As := []) (rest := []) ⟨hx, hb, hml, hown, hts⟩ (c_ASB_isLatin1 l D y H.size sb ((.ref bv)) w1 ((.int 29))) (va_cwU 0 hts gv_c_Si1_b2_c_ASB_isLatin1_1047 rfl rfl rfl rfl (by decide +kernel) ⟨(Nat.le_of_ble_eq_true rfl), (Nat.le_of_ble_eq_true rfl)⟩) (zB.preV hPc hDc hK hN hE hO hT hG hS hFc (fun _ h => nomatch h) (List.forall_mem_cons.mpr ⟨List.mem_of_getElem? (i := 0) rfl, (fun _ h => nomatch h)⟩) (fun _ h => nomatch h) (fun _ h => nomatch h) (va_recv hK hPc (ci := 1) (q0 := 0) rfl rfl)) rfl rfl hl.1 rfl (lv_room (Nat.le_of_ble_eq_true rfl)) dJ0_init_db425_16 ⟨(Nat.le_of_ble_eq_true rfl), (Nat.le_of_ble_eq_true rfl)⟩) hS (fun q _ h => hFc q h) hFc (fun r3 u t H1 locs ht hvm hw hB hz1 hk1 hS => ?_)
  obtain ⟨hP1, hD1⟩ := hB
  rw [ht] at hP1
  obtain ⟨hP, hD⟩ := va_join (wr := [(h0, .inr (0, [.null, .int 0, .int 0, .int 0])), (bv, .inl (y 0, 34, .inl zk19))]) (w1 := [(sb, .inr (1, [.ref bv, .int 0, w1, .int 29]))]) hP hD [2] [0, 1] rfl rfl (by decide) (by decide) hk1 hFc hP1 hD1
  generalize H1 = H at hP hS ⊢
  have hP : va_P D vwCl [(h0, .inr (0, [.null, .int 0, .int 0, .int 0])), (bv, .inl (y 0, 34, .inl zk19)), (sb, .inr (1, [.ref bv, .int 0, w1, .int 29]))] H := hP
  have hD : va_D A [(h0, .inr (0, [.null, .int 0, .int 0, .int 0])), (bv, .inl (y 0, 34, .inl zk19)), (sb, .inr (1, [.ref bv, .int 0, w1, .int 29]))] := hD
  have hw : r3 = 1 := hw
  subst hw
  refine lv_if_eq (tgt := 41) hx hb dJ0_init_db425_19 (by decide) (fun c9 => absurd c9 (by decide)) (fun _ => ?_)
  refine lv_aload_n hx hb dJ0_init_db425_22 rfl (lv_at hl 2 rfl) ?_
  refine lv_iconst (v := 0) hx hb dJ0_init_db425_23 (by decide) ?_
  refine va_putF (D := D) (ci := 0) (v := .int 0) (ty := .byte) (C := RJ0) (T := TJ0) (N := 4) hx hb hts (by decide +kernel) tyJ0 tyJ0_ok nmJ0 hown hK hP hD hS 0 rfl rfl 1 (by decide) (hts (.fieldLink RJ0 15 "java/lang/String" "coder" "B") (by decide +kernel)) (fun _ h9 => h9) rfl hin rfl (by decide +kernel) rfl rfl (Nat.le_of_ble_eq_true rfl) dJ0_init_db425_24 (fun H locs hP hD hS => ?_)
  have hP : va_P D vwCl [(h0, .inr (0, [.null, .int 0, .int 0, .int 0])), (bv, .inl (y 0, 34, .inl zk19)), (sb, .inr (1, [.ref bv, .int 0, w1, .int 29]))] H := hP
  have hD : va_D A [(h0, .inr (0, [.null, .int 0, .int 0, .int 0])), (bv, .inl (y 0, 34, .inl zk19)), (sb, .inr (1, [.ref bv, .int 0, w1, .int 29]))] := hD
  refine lv_aload_n hx hb dJ0_init_db425_27 rfl (lv_at hl 2 rfl) ?_
  refine lv_aload_n hx hb dJ0_init_db425_28 rfl (lv_at hl 1 rfl) ?_
  refine lv_iconst (v := 0) hx hb dJ0_init_db425_29 (by decide) ?_
  refine lv_iload hx hb dJ0_init_db425_30 (lv_at hl 0 rfl) ?_
  have hPc := hP.sub (ws' := [(bv, .inl (y 0, 34, .inl zk19))]) [1] rfl
  have hDc := hD.sub (ws' := [(bv, .inl (y 0, 34, .inl zk19))]) [1] (by decide) rfl
  have hFc := va_free (wc := [(bv, .inl (y 0, 34, .inl zk19))]) hD hS hA [1] rfl
  refine va_callr (va_runS (As := [.ref bv, .int 0, .int 29]) (rest := [.ref h0]) ⟨hx, hb, hml, hown, hts⟩ (c_cR_b2 l D y H.size bv) (va_cwS 3 hts gv_c_Si1_b2_c_cR_b2_54 rfl rfl rfl (by decide +kernel) ⟨(Nat.le_of_ble_eq_true rfl), (Nat.le_of_ble_eq_true rfl)⟩) (zB.preS hPc hDc hK hN hE hO hT hG hS hFc (fun _ h => nomatch h) (fun _ h => nomatch h) (fun _ h => nomatch h) (fun _ h => nomatch h)) rfl rfl hl.1 rfl (lv_room (Nat.le_of_ble_eq_true rfl)) dJ0_init_db425_32 ⟨(Nat.le_of_ble_eq_true rfl), (Nat.le_of_ble_eq_true rfl)⟩) hS (fun q _ h => hFc q h) hFc (fun u r4 t H1 locs ht hvm hw hB hz1 hk1 hS => ?_)
  obtain ⟨hP1, hD1⟩ := hB
  rw [ht] at hP1
  obtain ⟨hP, hD⟩ := va_join (wr := [(h0, .inr (0, [.null, .int 0, .int 0, .int 0])), (sb, .inr (1, [.ref bv, .int 0, w1, .int 29]))]) (w1 := [(bv, .inl (y 0, 34, .inl zk19)), (r4, .inl (y 0, 29, .inl zk20))]) hP hD [1] [0, 2] rfl rfl (by decide) (by decide) hk1 hFc hP1 hD1
  generalize H1 = H at hP hS ⊢
  have hP : va_P D vwCl [(h0, .inr (0, [.null, .int 0, .int 0, .int 0])), (sb, .inr (1, [.ref bv, .int 0, w1, .int 29])), (bv, .inl (y 0, 34, .inl zk19)), (r4, .inl (y 0, 29, .inl zk20))] H := hP
  have hD : va_D A [(h0, .inr (0, [.null, .int 0, .int 0, .int 0])), (sb, .inr (1, [.ref bv, .int 0, w1, .int 29])), (bv, .inl (y 0, 34, .inl zk19)), (r4, .inl (y 0, 29, .inl zk20))] := hD
  refine va_putF (D := D) (ci := 0) (v := .ref r4) (ty := (.array .byte)) (C := RJ0) (T := TJ0) (N := 4) hx hb hts (by decide +kernel) tyJ0 tyJ0_ok nmJ0 hown hK hP hD hS 0 rfl rfl 0 (by decide) (hts (.fieldLink RJ0 9 "java/lang/String" "value" "[B") (by decide +kernel)) (fun _ h9 => h9) rfl hin rfl (by decide +kernel) rfl rfl (Nat.le_of_ble_eq_true rfl) dJ0_init_db425_35 (fun H locs hP hD hS => ?_)
  have hP : va_P D vwCl [(h0, .inr (0, [.ref r4, .int 0, .int 0, .int 0])), (sb, .inr (1, [.ref bv, .int 0, w1, .int 29])), (bv, .inl (y 0, 34, .inl zk19)), (r4, .inl (y 0, 29, .inl zk20))] H := hP
  have hD : va_D A [(h0, .inr (0, [.ref r4, .int 0, .int 0, .int 0])), (sb, .inr (1, [.ref bv, .int 0, w1, .int 29])), (bv, .inl (y 0, 34, .inl zk19)), (r4, .inl (y 0, 29, .inl zk20))] := hD
  refine lv_goto (tgt := 97) hx hb dJ0_init_db425_38 (by decide) ?_
  have hP9 := hP.sub (ws' := [(h0, .inr (0, [.ref r4, .int 0, .int 0, .int 0])), (sb, .inr (1, [.ref bv, .int 0, w1, .int 29])), (bv, .inl (y 0, 34, .inl zk19)), (r4, .inl (y 0, 29, .inl zk20))]) [0, 1, 2, 3] rfl
  have hD9 := hD.sub (ws' := [(h0, .inr (0, [.ref r4, .int 0, .int 0, .int 0])), (sb, .inr (1, [.ref bv, .int 0, w1, .int 29])), (bv, .inl (y 0, 34, .inl zk19)), (r4, .inl (y 0, 29, .inl zk20))]) [0, 1, 2, 3] (by decide) rfl
  refine W.widen (k := 1) (n := 29) (Nat.le_of_ble_eq_true rfl) (Nat.le_of_ble_eq_true rfl) ?_
  exact W.vret hx hb hr (fun t ht hW => ⟨⟨(), rfl, trivial, r4, by rw [ht]; exact hP9, hD9⟩, hS.F ht⟩) hS.2.2 dJ0_init_db425_97
def wz_c_Si2_b2 : List Cond := .code yJ0_init_81219 cJ0_init_81219 2 none :: ([.initialized RJ0, .methodLink RJ0 489 yJ0_init_db425, .instanceMethod yJ0_init_db425] ++ (wz_c_Si1_b2 ++ ([])))
set_option maxRecDepth 100000 in
theorem gz_c_Si2_b2_c_Si1_b2 : GoodIn wz_c_Si2_b2 wz_c_Si1_b2 := goodIn_sub (fun w h => List.mem_cons_of_mem _ (List.mem_append_right _ (List.mem_append_left _ h))) (by decide +kernel)
set_option maxHeartbeats 4000000 in
set_option maxRecDepth 100000 in
theorem c_Si2_b2 (l : Launch) (D : va_G) (y : Nat → ClassId) (sz : Nat) (h0 : Nat) (sb : Nat) (bv : Nat) (w1 : Value) : Met l yJ0_init_81219 wz_c_Si2_b2 ({ frames := 4, cells := 1, slots := 29, locals := 130 }) (va_Pc [.ref h0, .ref sb] (zB D y [(h0, .inr (0, [.null, .int 0, .int 0, .int 0])), (sb, .inr (1, [.ref bv, .int 0, w1, .int 29])), (bv, .inl (y 0, 34, .inl zk19))] sz [] [("java/lang/String", "COMPACT_STRINGS", "Z", .int 1)] [] [])) (va_Qv (fun _ : Unit => True) (fun _ t => ∃ q1 : Nat, va_P D vwCl [(h0, .inr (0, [.ref q1, .int 0, .int 0, .int 0])), (sb, .inr (1, [.ref bv, .int 0, w1, .int 29])), (bv, .inl (y 0, 34, .inl zk19)), (q1, .inl (y 0, 29, .inl zk20))] t.heap ∧ va_D (va_A [(h0, .inr (0, [.null, .int 0, .int 0, .int 0])), (sb, .inr (1, [.ref bv, .int 0, w1, .int 29])), (bv, .inl (y 0, 34, .inl zk19))] sz) [(h0, .inr (0, [.ref q1, .int 0, .int 0, .int 0])), (sb, .inr (1, [.ref bv, .int 0, w1, .int 29])), (bv, .inl (y 0, 34, .inl zk19)), (q1, .inl (y 0, 29, .inl zk20))]) (va_A [(h0, .inr (0, [.null, .int 0, .int 0, .int 0])), (sb, .inr (1, [.ref bv, .int 0, w1, .int 29])), (bv, .inl (y 0, 34, .inl zk19))] sz)) 1 29 (va_A [(h0, .inr (0, [.null, .int 0, .int 0, .int 0])), (sb, .inr (1, [.ref bv, .int 0, w1, .int 29])), (bv, .inl (y 0, 34, .inl zk19))] sz) := by
  refine Met.ofW (cc := cJ0_init_81219) (maxL := 2) (ret := none) (by decide) rfl ?_
  intro p e s m args below meth c s₁ B hml hv
  obtain ⟨rfl, hsz, hP, hK, hD0, hN, hE, hO, hT, hG⟩ := hv
  have hx := B.exec
  have hb := B.bytes
  have hr := B.returns
  have hts := atoms_spec (ws := wz_c_Si2_b2) B.pre
  have hown : s.vm.findClass RJ0 = some m.cls := findClass_of_methodNamed B.named
  have hlocks := B.notSynchronized
  have hin : meth.name = "<init>" := (name_of_methodNamed B.named B.method).1
  subst hsz
  have hD := hD0.self (sz := s.heap.size)
  generalize hAe : va_A [(h0, .inr (0, [.null, .int 0, .int 0, .int 0])), (sb, .inr (1, [.ref bv, .int 0, w1, .int 29])), (bv, .inl (y 0, 34, .inl zk19))] s.heap.size = A at hD hE hT hG ⊢
  have hA : ∀ q : Nat, s.heap.size ≤ q → A q := fun q h => by rw [← hAe]; exact Or.inr h
  have hS : va_S A s.heap s.heap [] := va_S.rf
  have hl := lv_entry ([.ref h0, .ref sb]) (n := 2) (Nat.le_of_ble_eq_true rfl)
  rw [lg_entry_eq]
  generalize (lg_sl ([.ref h0, .ref sb]) ++ List.replicate (2 - (lg_sl ([.ref h0, .ref sb])).length) Slot.unset).toArray = ls at hl ⊢
  have hl : lv_has ls 2 [(0, .ref h0), (1, .ref sb)] := hl
  refine lv_aload_n hx hb dJ0_init_81219_0 rfl (lv_at hl 0 rfl) ?_
  refine lv_aload_n hx hb dJ0_init_81219_1 rfl (lv_at hl 1 rfl) ?_
  refine lv_null hx hb dJ0_init_81219_2 ?_
  have hPc := hP.sub (ws' := [(h0, .inr (0, [.null, .int 0, .int 0, .int 0])), (sb, .inr (1, [.ref bv, .int 0, w1, .int 29])), (bv, .inl (y 0, 34, .inl zk19))]) [0, 1, 2] rfl
  have hDc := hD.sub (ws' := [(h0, .inr (0, [.null, .int 0, .int 0, .int 0])), (sb, .inr (1, [.ref bv, .int 0, w1, .int 29])), (bv, .inl (y 0, 34, .inl zk19))]) [0, 1, 2] (by decide) rfl
  have hFc := va_free (wc := [(h0, .inr (0, [.null, .int 0, .int 0, .int 0])), (sb, .inr (1, [.ref bv, .int 0, w1, .int 29])), (bv, .inl (y 0, 34, .inl zk19))]) hD hS hA [0, 1, 2] rfl
  refine va_callv (va_runI (As := [.ref sb, .null]) (rest := []) ⟨hx, hb, hml, hown, hts⟩ (c_Si1_b2 l D y s.heap.size h0 sb bv w1) (cwI 2 hts gz_c_Si2_b2_c_Si1_b2 rfl rfl rfl (hts (.initialized RJ0) (by decide +kernel)) (hts (.methodLink RJ0 489 yJ0_init_db425) (by decide +kernel)) (hts (.instanceMethod yJ0_init_db425) (by decide +kernel)) rfl (by decide +kernel) ⟨(Nat.le_of_ble_eq_true rfl), (Nat.le_of_ble_eq_true rfl)⟩) (zB.preS hPc hDc hK hN hE hO hT hG hS hFc (fun _ h => nomatch h) (List.forall_mem_cons.mpr ⟨List.mem_of_getElem? (i := 0) rfl, (fun _ h => nomatch h)⟩) (fun _ h => nomatch h) (fun _ h => nomatch h)) rfl rfl hl.1 rfl (lv_room (Nat.le_of_ble_eq_true rfl)) dJ0_init_81219_3 ⟨(Nat.le_of_ble_eq_true rfl), (Nat.le_of_ble_eq_true rfl)⟩) hS (fun q _ h => hFc q h) hFc (fun u t H1 locs ht hvm hw hB hz1 hk1 hS => ?_)
  obtain ⟨q1, hP1, hD1⟩ := hB
  rw [ht] at hP1
  obtain ⟨hP, hD⟩ := va_join (wr := []) (w1 := [(h0, .inr (0, [.ref q1, .int 0, .int 0, .int 0])), (sb, .inr (1, [.ref bv, .int 0, w1, .int 29])), (bv, .inl (y 0, 34, .inl zk19)), (q1, .inl (y 0, 29, .inl zk20))]) hP hD [0, 1, 2] [] rfl rfl (by decide) (by decide) hk1 hFc hP1 hD1
  generalize H1 = H at hP hS ⊢
  have hP : va_P D vwCl [(h0, .inr (0, [.ref q1, .int 0, .int 0, .int 0])), (sb, .inr (1, [.ref bv, .int 0, w1, .int 29])), (bv, .inl (y 0, 34, .inl zk19)), (q1, .inl (y 0, 29, .inl zk20))] H := hP
  have hD : va_D A [(h0, .inr (0, [.ref q1, .int 0, .int 0, .int 0])), (sb, .inr (1, [.ref bv, .int 0, w1, .int 29])), (bv, .inl (y 0, 34, .inl zk19)), (q1, .inl (y 0, 29, .inl zk20))] := hD
  have hP9 := hP.sub (ws' := [(h0, .inr (0, [.ref q1, .int 0, .int 0, .int 0])), (sb, .inr (1, [.ref bv, .int 0, w1, .int 29])), (bv, .inl (y 0, 34, .inl zk19)), (q1, .inl (y 0, 29, .inl zk20))]) [0, 1, 2, 3] rfl
  have hD9 := hD.sub (ws' := [(h0, .inr (0, [.ref q1, .int 0, .int 0, .int 0])), (sb, .inr (1, [.ref bv, .int 0, w1, .int 29])), (bv, .inl (y 0, 34, .inl zk19)), (q1, .inl (y 0, 29, .inl zk20))]) [0, 1, 2, 3] (by decide) rfl
  refine W.widen (k := 1) (n := 29) (Nat.le_of_ble_eq_true rfl) (Nat.le_of_ble_eq_true rfl) ?_
  exact W.vret hx hb hr (fun t ht hW => ⟨⟨(), rfl, trivial, q1, by rw [ht]; exact hP9, hD9⟩, hS.F ht⟩) hS.2.2 dJ0_init_81219_6
def wz_c_toS_b2 : List Cond := .code yJ4_toString_0e30d cJ4_toString_0e30d 1 (some (.object "java/lang/String")) :: ([.classLink RJ4 18 RJ0, .instantiable RJ0 4, .initialized RJ0, .methodLink RJ4 137 yJ0_init_81219, .instanceMethod yJ0_init_81219] ++ (wsJ00 ++ (wz_c_Si2_b2 ++ ([]))))
set_option maxRecDepth 100000 in
theorem gz_c_toS_b2_c_Si2_b2 : GoodIn wz_c_toS_b2 wz_c_Si2_b2 := goodIn_sub (fun w h => List.mem_cons_of_mem _ (List.mem_append_right _ (List.mem_append_right _ (List.mem_append_left _ h)))) (by decide +kernel)
set_option maxHeartbeats 4000000 in
set_option maxRecDepth 100000 in
theorem c_toS_b2 (l : Launch) (D : va_G) (y : Nat → ClassId) (sz : Nat) (h0 : Nat) (bv : Nat) (w1 : Value) : Met l yJ4_toString_0e30d wz_c_toS_b2 ({ frames := 5, cells := 2, slots := 33, locals := 151 }) (va_Pc [.ref h0] (zB D y [(h0, .inr (1, [.ref bv, .int 0, w1, .int 29])), (bv, .inl (y 0, 34, .inl zk19))] sz [] [("java/lang/String", "COMPACT_STRINGS", "Z", .int 1)] [] [])) (va_Qr (fun _ : Unit => True) (fun _ q1 t => ∃ q2 : Nat, va_P D vwCl [(h0, .inr (1, [.ref bv, .int 0, w1, .int 29])), (bv, .inl (y 0, 34, .inl zk19)), (q1, .inr (0, [.ref q2, .int 0, .int 0, .int 0])), (q2, .inl (y 0, 29, .inl zk20))] t.heap ∧ va_D (va_A [(h0, .inr (1, [.ref bv, .int 0, w1, .int 29])), (bv, .inl (y 0, 34, .inl zk19))] sz) [(h0, .inr (1, [.ref bv, .int 0, w1, .int 29])), (bv, .inl (y 0, 34, .inl zk19)), (q1, .inr (0, [.ref q2, .int 0, .int 0, .int 0])), (q2, .inl (y 0, 29, .inl zk20))]) (va_A [(h0, .inr (1, [.ref bv, .int 0, w1, .int 29])), (bv, .inl (y 0, 34, .inl zk19))] sz)) 2 33 (va_A [(h0, .inr (1, [.ref bv, .int 0, w1, .int 29])), (bv, .inl (y 0, 34, .inl zk19))] sz) := by
  refine Met.ofW (cc := cJ4_toString_0e30d) (maxL := 1) (ret := (some (.object "java/lang/String"))) (by decide) rfl ?_
  intro p e s m args below meth c s₁ B hml hv
  obtain ⟨rfl, hsz, hP, hK, hD0, hN, hE, hO, hT, hG⟩ := hv
  have hx := B.exec
  have hb := B.bytes
  have hr := B.returns
  have hts := atoms_spec (ws := wz_c_toS_b2) B.pre
  have hown : s.vm.findClass RJ4 = some m.cls := findClass_of_methodNamed B.named
  have hlocks := B.notSynchronized
  subst hsz
  have hD := hD0.self (sz := s.heap.size)
  generalize hAe : va_A [(h0, .inr (1, [.ref bv, .int 0, w1, .int 29])), (bv, .inl (y 0, 34, .inl zk19))] s.heap.size = A at hD hE hT hG ⊢
  have hA : ∀ q : Nat, s.heap.size ≤ q → A q := fun q h => by rw [← hAe]; exact Or.inr h
  have hS : va_S A s.heap s.heap [] := va_S.rf
  have hl := lv_entry ([.ref h0]) (n := 1) (Nat.le_of_ble_eq_true rfl)
  rw [lg_entry_eq]
  generalize (lg_sl ([.ref h0]) ++ List.replicate (1 - (lg_sl ([.ref h0])).length) Slot.unset).toArray = ls at hl ⊢
  have hl : lv_has ls 1 [(0, .ref h0)] := hl
  refine va_new (ci := 0) (fs := [.null, .int 0, .int 0, .int 0]) (C := RJ0) (T := TJ0) (N := 4) hx hb hts (by decide +kernel) tyJ0 tyJ0_ok hown (hts (.classLink RJ4 18 RJ0) (by decide +kernel)) (hts (.instantiable RJ0 4) (by decide +kernel)) (hts (.initialized RJ0) (by decide +kernel)) hK hP hD hS hA rfl (by decide) (Nat.le_of_ble_eq_true rfl) (Nat.le_of_ble_eq_true rfl) dJ4_toString_0e30d_0 (fun q1 H hP hD hS => ?_)
  have hP : va_P D vwCl [(h0, .inr (1, [.ref bv, .int 0, w1, .int 29])), (bv, .inl (y 0, 34, .inl zk19)), (q1, .inr (0, [.null, .int 0, .int 0, .int 0]))] H := hP
  have hD : va_D A [(h0, .inr (1, [.ref bv, .int 0, w1, .int 29])), (bv, .inl (y 0, 34, .inl zk19)), (q1, .inr (0, [.null, .int 0, .int 0, .int 0]))] := hD
  refine lv_dup hx hb dJ4_toString_0e30d_3 rfl ?_
  refine lv_aload_n hx hb dJ4_toString_0e30d_4 rfl (lv_at hl 0 rfl) ?_
  have hPc := hP.sub (ws' := [(q1, .inr (0, [.null, .int 0, .int 0, .int 0])), (h0, .inr (1, [.ref bv, .int 0, w1, .int 29])), (bv, .inl (y 0, 34, .inl zk19))]) [2, 0, 1] rfl
  have hDc := hD.sub (ws' := [(q1, .inr (0, [.null, .int 0, .int 0, .int 0])), (h0, .inr (1, [.ref bv, .int 0, w1, .int 29])), (bv, .inl (y 0, 34, .inl zk19))]) [2, 0, 1] (by decide) rfl
  have hFc := va_free (wc := [(q1, .inr (0, [.null, .int 0, .int 0, .int 0])), (h0, .inr (1, [.ref bv, .int 0, w1, .int 29])), (bv, .inl (y 0, 34, .inl zk19))]) hD hS hA [2, 0, 1] rfl
  refine va_callv (va_runI (As := [.ref h0]) (rest := [.ref q1]) ⟨hx, hb, hml, hown, hts⟩ (c_Si2_b2 l D y H.size q1 h0 bv w1) (cwI 1 hts gz_c_toS_b2_c_Si2_b2 rfl rfl rfl (hts (.initialized RJ0) (by decide +kernel)) (hts (.methodLink RJ4 137 yJ0_init_81219) (by decide +kernel)) (hts (.instanceMethod yJ0_init_81219) (by decide +kernel)) rfl (by decide +kernel) ⟨(Nat.le_of_ble_eq_true rfl), (Nat.le_of_ble_eq_true rfl)⟩) (zB.preS hPc hDc hK hN hE hO hT hG hS hFc (fun _ h => nomatch h) (List.forall_mem_cons.mpr ⟨List.mem_of_getElem? (i := 0) rfl, (fun _ h => nomatch h)⟩) (fun _ h => nomatch h) (fun _ h => nomatch h)) rfl rfl hl.1 rfl (lv_room (Nat.le_of_ble_eq_true rfl)) dJ4_toString_0e30d_5 ⟨(Nat.le_of_ble_eq_true rfl), (Nat.le_of_ble_eq_true rfl)⟩) hS (fun q _ h => hFc q h) hFc (fun u t H1 locs ht hvm hw hB hz1 hk1 hS => ?_)
  obtain ⟨q2, hP1, hD1⟩ := hB
  rw [ht] at hP1
  obtain ⟨hP, hD⟩ := va_join (wr := []) (w1 := [(q1, .inr (0, [.ref q2, .int 0, .int 0, .int 0])), (h0, .inr (1, [.ref bv, .int 0, w1, .int 29])), (bv, .inl (y 0, 34, .inl zk19)), (q2, .inl (y 0, 29, .inl zk20))]) hP hD [2, 0, 1] [] rfl rfl (by decide) (by decide) hk1 hFc hP1 hD1
  generalize H1 = H at hP hS ⊢
  have hP : va_P D vwCl [(q1, .inr (0, [.ref q2, .int 0, .int 0, .int 0])), (h0, .inr (1, [.ref bv, .int 0, w1, .int 29])), (bv, .inl (y 0, 34, .inl zk19)), (q2, .inl (y 0, 29, .inl zk20))] H := hP
  have hD : va_D A [(q1, .inr (0, [.ref q2, .int 0, .int 0, .int 0])), (h0, .inr (1, [.ref bv, .int 0, w1, .int 29])), (bv, .inl (y 0, 34, .inl zk19)), (q2, .inl (y 0, 29, .inl zk20))] := hD
  have hP9 := hP.sub (ws' := [(h0, .inr (1, [.ref bv, .int 0, w1, .int 29])), (bv, .inl (y 0, 34, .inl zk19)), (q1, .inr (0, [.ref q2, .int 0, .int 0, .int 0])), (q2, .inl (y 0, 29, .inl zk20))]) [1, 2, 0, 3] rfl
  have hD9 := hD.sub (ws' := [(h0, .inr (1, [.ref bv, .int 0, w1, .int 29])), (bv, .inl (y 0, 34, .inl zk19)), (q1, .inr (0, [.ref q2, .int 0, .int 0, .int 0])), (q2, .inl (y 0, 29, .inl zk20))]) [1, 2, 0, 3] (by decide) rfl
  refine W.widen (k := 2) (n := 33) (Nat.le_of_ble_eq_true rfl) (Nat.le_of_ble_eq_true rfl) ?_
  exact W.aret (v := .ref q1) hx hb hr (Or.inl ⟨_, rfl⟩) (Or.inr ⟨_, rfl⟩) (fun t ht hW => ⟨⟨(), q1, rfl, trivial, q2, by rw [ht]; exact hP9, hD9⟩, hS.F ht⟩) hS.2.2 dJ4_toString_0e30d_8
def wz_c_copyOf_e2 : List Cond := .code yJ7_copyOf_9075b cJ7_copyOf_9075b 3 (some (.array .byte)) :: ([.arrayClass .byte, .methodLink RJ7 304 Lib.Math.min.name, .static Lib.Math.min.name, .initialized "java/lang/Math", .code Lib.Math.min.name Lib.Math.min.code 2 (some .int), .methodLink RJ7 150 arraycopyName, .native arraycopyName, .static arraycopyName, .initialized "java/lang/System"] ++ ([]))
set_option maxHeartbeats 4000000 in
set_option maxRecDepth 100000 in
theorem c_copyOf_e2 (l : Launch) (D : va_G) (y : Nat → ClassId) (sz : Nat) (bv : Nat) : Met l yJ7_copyOf_9075b wz_c_copyOf_e2 ({ frames := 1, cells := 1, slots := 34, locals := 60 }) (va_Pc [.ref bv, .int 34] (zB D y [(bv, .inl (y 0, 16, .inl zk5))] sz [] [] [] [])) (va_Qr (fun _ : Unit => True) (fun _ q1 t => va_P D vwCl [(bv, .inl (y 0, 16, .inl zk5)), (q1, .inl (y 0, 34, .inl zk6))] t.heap ∧ va_D (va_A [(bv, .inl (y 0, 16, .inl zk5))] sz) [(bv, .inl (y 0, 16, .inl zk5)), (q1, .inl (y 0, 34, .inl zk6))]) (va_A [(bv, .inl (y 0, 16, .inl zk5))] sz)) 1 34 (va_A [(bv, .inl (y 0, 16, .inl zk5))] sz) := by
  refine Met.ofW (cc := cJ7_copyOf_9075b) (maxL := 3) (ret := (some (.array .byte))) (by decide) rfl ?_
  intro p e s m args below meth c s₁ B hml hv
  obtain ⟨rfl, hsz, hP, hK, hD0, hN, hE, hO, hT, hG⟩ := hv
  have hx := B.exec
  have hb := B.bytes
  have hr := B.returns
  have hts := atoms_spec (ws := wz_c_copyOf_e2) B.pre
  have hown : s.vm.findClass RJ7 = some m.cls := findClass_of_methodNamed B.named
  have hlocks := B.notSynchronized
  subst hsz
  have hD := hD0.self (sz := s.heap.size)
  generalize hAe : va_A [(bv, .inl (y 0, 16, .inl zk5))] s.heap.size = A at hD hE hT hG ⊢
  have hA : ∀ q : Nat, s.heap.size ≤ q → A q := fun q h => by rw [← hAe]; exact Or.inr h
  have hS : va_S A s.heap s.heap [] := va_S.rf
  have hl := lv_entry ([.ref bv, .int 34]) (n := 3) (Nat.le_of_ble_eq_true rfl)
  rw [lg_entry_eq]
  generalize (lg_sl ([.ref bv, .int 34]) ++ List.replicate (3 - (lg_sl ([.ref bv, .int 34])).length) Slot.unset).toArray = ls at hl ⊢
  have hl : lv_has ls 3 [(0, .ref bv), (1, .int 34)] := hl
  refine lv_iload_n hx hb dJ7_copyOf_9075b_0 rfl (lv_at hl 1 rfl) ?_
  refine lv_aload_n hx hb dJ7_copyOf_9075b_1 rfl (lv_at hl 0 rfl) ?_
  refine va_alen (v := 16) hx hb hK hP 0 0 rfl rfl (show Int32.ofNat 16 = (16 : Int32) from by decide) dJ7_copyOf_9075b_2 ?_
  refine lv_icmp_ne (tgt := 14) hx hb dJ7_copyOf_9075b_3 (by decide) (fun _ => ?_) (fun c9 => absurd c9 (by decide))
  refine lv_iload_n hx hb dJ7_copyOf_9075b_14 rfl (lv_at hl 1 rfl) ?_
  refine zz_newa (atype := .byte) (n := 34) (N' := 34) (a0 := (34, .inl (fun _ => 0))) (ty := .byte) hx hb (hts (.arrayClass .byte) (by decide +kernel)) rfl hK 0 rfl hP hD hS hA (zz_aB 34) (by decide +kernel) (by decide +kernel) (by decide +kernel) (Nat.le_of_ble_eq_true rfl) (Nat.le_of_ble_eq_true rfl) dJ7_copyOf_9075b_15 (fun q1 H hP hD hS => ?_)
  have hP : va_P D vwCl [(bv, .inl (y 0, 16, .inl zk5)), (q1, .inl (y 0, 34, .inl (fun _ => 0)))] H := hP
  have hD : va_D A [(bv, .inl (y 0, 16, .inl zk5)), (q1, .inl (y 0, 34, .inl (fun _ => 0)))] := hD
  refine lv_astore_n (lv' := [(2, .ref q1), (0, .ref bv), (1, .int 34)]) hx hb dJ7_copyOf_9075b_17 rfl hl (by decide) rfl (fun ls hl => ?_)
  refine lv_aload_n hx hb dJ7_copyOf_9075b_18 rfl (lv_at hl 1 rfl) ?_
  refine lv_iconst (v := 0) hx hb dJ7_copyOf_9075b_19 (by decide) ?_
  refine lv_aload_n hx hb dJ7_copyOf_9075b_20 rfl (lv_at hl 0 rfl) ?_
  refine lv_iconst (v := 0) hx hb dJ7_copyOf_9075b_21 (by decide) ?_
  refine lv_aload_n hx hb dJ7_copyOf_9075b_22 rfl (lv_at hl 1 rfl) ?_
  refine va_alen (v := 16) hx hb hK hP 0 0 rfl rfl (show Int32.ofNat 16 = (16 : Int32) from by decide) dJ7_copyOf_9075b_23 ?_
  refine lv_iload_n hx hb dJ7_copyOf_9075b_24 rfl (lv_at hl 2 rfl) ?_
  refine va_mmin hx hb (hml.trans hl.1.symm) hown (hts (.methodLink RJ7 304 Lib.Math.min.name) (by decide +kernel)) (hts (.static Lib.Math.min.name) (by decide +kernel)) (hts (.initialized "java/lang/Math") (by decide +kernel)) (hts (.code Lib.Math.min.name Lib.Math.min.code 2 (some .int)) (by decide +kernel)) (Nat.le_of_ble_eq_true rfl) (Nat.le_of_ble_eq_true rfl) (Nat.le_of_ble_eq_true rfl) (Nat.le_of_ble_eq_true rfl) dJ7_copyOf_9075b_25 ?_
  refine lv_topi (fun v2 ev2 => ?_)
  have ev2 : v2 = 16 := ev2.trans (by decide +kernel)
  subst ev2
  refine va_copyi (ty := .byte) (sp := 0) (dp := 0) (n := 16) hx hb (hml.trans hl.1.symm) hown (hts (.methodLink RJ7 150 arraycopyName) (by decide +kernel)) (hts (.native arraycopyName) (by decide +kernel)) (hts (.static arraycopyName) (by decide +kernel)) (hts (.initialized "java/lang/System") (by decide +kernel)) hK hP hD hS 0 1 0 0 rfl rfl rfl rfl rfl (by decide +kernel) (by decide +kernel) (by decide +kernel) (by decide +kernel) (by decide +kernel) (by decide +kernel) (Nat.le_of_ble_eq_true rfl) (Nat.le_of_ble_eq_true rfl) dJ7_copyOf_9075b_28 (fun H locs hP hD hS => ?_)
  have hP : va_P D vwCl [(bv, .inl (y 0, 16, .inl zk5)), (q1, .inl (y 0, 34, .inl zk6))] H := hP
  have hD : va_D A [(bv, .inl (y 0, 16, .inl zk5)), (q1, .inl (y 0, 34, .inl zk6))] := hD
  refine lv_aload_n hx hb dJ7_copyOf_9075b_31 rfl (lv_at hl 0 rfl) ?_
  have hP9 := hP.sub (ws' := [(bv, .inl (y 0, 16, .inl zk5)), (q1, .inl (y 0, 34, .inl zk6))]) [0, 1] rfl
  have hD9 := hD.sub (ws' := [(bv, .inl (y 0, 16, .inl zk5)), (q1, .inl (y 0, 34, .inl zk6))]) [0, 1] (by decide) rfl
  refine W.widen (k := 1) (n := 34) (Nat.le_of_ble_eq_true rfl) (Nat.le_of_ble_eq_true rfl) ?_
  exact W.aret (v := .ref q1) hx hb hr (Or.inr ⟨_, rfl⟩) (Or.inr ⟨_, rfl⟩) (fun t ht hW => ⟨⟨(), q1, rfl, trivial, by rw [ht]; exact hP9, hD9⟩, hS.F ht⟩) hS.2.2 dJ7_copyOf_9075b_32
def wz_c_ens_e2 : List Cond := .code yJ5_ensureCapacityInternal_d00df cJ5_ensureCapacityInternal_d00df 3 none :: ([.fieldLink RJ5 15 "java/lang/AbstractStringBuilder" "value" "[B", .fieldLink RJ5 22 "java/lang/AbstractStringBuilder" "coder" "B", .methodLink RJ5 104 ⟨"java/lang/AbstractStringBuilder", "newCapacity", "(I)I"⟩, .sameMethod "java/lang/AbstractStringBuilder" "java/lang/AbstractStringBuilder" "newCapacity" "(I)I", .selects RJ4 ⟨"java/lang/AbstractStringBuilder", "newCapacity", "(I)I"⟩ yJ5_newCapacity_0f7a4, .instanceMethod yJ5_newCapacity_0f7a4, .initialized RJ5, .methodLink RJ5 108 yJ7_copyOf_9075b, .static yJ7_copyOf_9075b, .initialized RJ7] ++ (wsJ40 ++ (wz_c_newCap_22 ++ (wz_c_copyOf_e0 ++ ([])))))
set_option maxRecDepth 100000 in
theorem gz_c_ens_e2_c_newCap_22 : GoodIn wz_c_ens_e2 wz_c_newCap_22 := goodIn_sub (fun w h => List.mem_cons_of_mem _ (List.mem_append_right _ (List.mem_append_right _ (List.mem_append_left _ h)))) (by decide +kernel)
set_option maxRecDepth 100000 in
theorem gz_c_ens_e2_c_copyOf_e0 : GoodIn wz_c_ens_e2 wz_c_copyOf_e0 := goodIn_sub (fun w h => List.mem_cons_of_mem _ (List.mem_append_right _ (List.mem_append_right _ (List.mem_append_right _ (List.mem_append_left _ h))))) (by decide +kernel)
set_option maxRecDepth 100000 in
theorem gv_c_ens_e2_c_newCap_22_104 : GoodIn wz_c_ens_e2 (va_wsU RJ5 104 RJ4 "java/lang/AbstractStringBuilder" ⟨"java/lang/AbstractStringBuilder", "newCapacity", "(I)I"⟩ yJ5_newCapacity_0f7a4 wz_c_newCap_22) := goodIn_app (goodIn_of _ (by decide +kernel)) gz_c_ens_e2_c_newCap_22
set_option maxRecDepth 100000 in
theorem gv_c_ens_e2_c_copyOf_e0_108 : GoodIn wz_c_ens_e2 (va_wsS RJ5 108 yJ7_copyOf_9075b wz_c_copyOf_e0) := goodIn_app (goodIn_of _ (by decide +kernel)) gz_c_ens_e2_c_copyOf_e0
set_option maxHeartbeats 4000000 in
set_option maxRecDepth 100000 in
theorem c_ens_e2 (l : Launch) (D : va_G) (y : Nat → ClassId) (sz : Nat) (h0 : Nat) (bv : Nat) (w1 : Value) (w2 : Value) : Met l yJ5_ensureCapacityInternal_d00df wz_c_ens_e2 ({ frames := 3, cells := 1, slots := 34, locals := 82 }) (va_Pc [.ref h0, .int 22] (zB D y [(h0, .inr (1, [.ref bv, .int 0, w1, w2])), (bv, .inl (y 0, 16, .inl zk5))] sz [] [] [] [])) (va_Qv (fun _ : Unit => True) (fun _ t => ∃ r5 : Nat, va_P D vwCl [(h0, .inr (1, [.ref r5, .int 0, w1, w2])), (bv, .inl (y 0, 16, .inl zk5)), (r5, .inl (y 0, 34, .inl zk6))] t.heap ∧ va_D (va_A [(h0, .inr (1, [.ref bv, .int 0, w1, w2])), (bv, .inl (y 0, 16, .inl zk5))] sz) [(h0, .inr (1, [.ref r5, .int 0, w1, w2])), (bv, .inl (y 0, 16, .inl zk5)), (r5, .inl (y 0, 34, .inl zk6))]) (va_A [(h0, .inr (1, [.ref bv, .int 0, w1, w2])), (bv, .inl (y 0, 16, .inl zk5))] sz)) 1 34 (va_A [(h0, .inr (1, [.ref bv, .int 0, w1, w2])), (bv, .inl (y 0, 16, .inl zk5))] sz) := by
  refine Met.ofW (cc := cJ5_ensureCapacityInternal_d00df) (maxL := 3) (ret := none) (by decide) rfl ?_
  intro p e s m args below meth c s₁ B hml hv
  obtain ⟨rfl, hsz, hP, hK, hD0, hN, hE, hO, hT, hG⟩ := hv
  have hx := B.exec
  have hb := B.bytes
  have hr := B.returns
  have hts := atoms_spec (ws := wz_c_ens_e2) B.pre
  have hown : s.vm.findClass RJ5 = some m.cls := findClass_of_methodNamed B.named
  have hlocks := B.notSynchronized
  subst hsz
  have hD := hD0.self (sz := s.heap.size)
  generalize hAe : va_A [(h0, .inr (1, [.ref bv, .int 0, w1, w2])), (bv, .inl (y 0, 16, .inl zk5))] s.heap.size = A at hD hE hT hG ⊢
  have hA : ∀ q : Nat, s.heap.size ≤ q → A q := fun q h => by rw [← hAe]; exact Or.inr h
  have hS : va_S A s.heap s.heap [] := va_S.rf
  have hl := lv_entry ([.ref h0, .int 22]) (n := 3) (Nat.le_of_ble_eq_true rfl)
  rw [lg_entry_eq]
  generalize (lg_sl ([.ref h0, .int 22]) ++ List.replicate (3 - (lg_sl ([.ref h0, .int 22])).length) Slot.unset).toArray = ls at hl ⊢
  have hl : lv_has ls 3 [(0, .ref h0), (1, .int 22)] := hl
  refine lv_aload_n hx hb dJ5_ensureCapacityInternal_d00df_0 rfl (lv_at hl 0 rfl) ?_
  refine va_get (D := D) (ci := 1) (v := .ref bv) (C := RJ4) (T := TJ4) (N := 4) hx hb hts (by decide +kernel) hown hK hP 0 rfl rfl 0 (by decide) (hts (.fieldLink RJ5 15 "java/lang/AbstractStringBuilder" "value" "[B") (by decide +kernel)) (fun _ h9 => h9) rfl dJ5_ensureCapacityInternal_d00df_1 ?_
  refine va_alen (v := 16) hx hb hK hP 1 0 rfl rfl (show Int32.ofNat 16 = (16 : Int32) from by decide) dJ5_ensureCapacityInternal_d00df_4 ?_
  refine lv_aload_n hx hb dJ5_ensureCapacityInternal_d00df_5 rfl (lv_at hl 0 rfl) ?_
  refine va_get (D := D) (ci := 1) (v := .int 0) (C := RJ4) (T := TJ4) (N := 4) hx hb hts (by decide +kernel) hown hK hP 0 rfl rfl 1 (by decide) (hts (.fieldLink RJ5 22 "java/lang/AbstractStringBuilder" "coder" "B") (by decide +kernel)) (fun _ h9 => h9) rfl dJ5_ensureCapacityInternal_d00df_6 ?_
  refine lv_ishr hx hb dJ5_ensureCapacityInternal_d00df_9 ?_
  refine lv_topi (fun v1 ev1 => ?_)
  have ev1 : v1 = 16 := ev1.trans (by decide +kernel)
  subst ev1
  refine lv_istore_n (lv' := [(2, .int 16), (0, .ref h0), (1, .int 22)]) hx hb dJ5_ensureCapacityInternal_d00df_10 rfl hl (by decide) rfl (fun ls hl => ?_)
  refine lv_iload_n hx hb dJ5_ensureCapacityInternal_d00df_11 rfl (lv_at hl 2 rfl) ?_
  refine lv_iload_n hx hb dJ5_ensureCapacityInternal_d00df_12 rfl (lv_at hl 0 rfl) ?_
  refine lv_isub hx hb dJ5_ensureCapacityInternal_d00df_13 ?_
  refine lv_topi (fun v2 ev2 => ?_)
  have ev2 : v2 = 6 := ev2.trans (by decide +kernel)
  subst ev2
  refine lv_if_le (tgt := 38) hx hb dJ5_ensureCapacityInternal_d00df_14 (by decide) (fun c9 => absurd c9 (by decide)) (fun _ => ?_)
  refine lv_aload_n hx hb dJ5_ensureCapacityInternal_d00df_17 rfl (lv_at hl 1 rfl) ?_
  refine lv_aload_n hx hb dJ5_ensureCapacityInternal_d00df_18 rfl (lv_at hl 1 rfl) ?_
  refine va_get (D := D) (ci := 1) (v := .ref bv) (C := RJ4) (T := TJ4) (N := 4) hx hb hts (by decide +kernel) hown hK hP 0 rfl rfl 0 (by decide) (hts (.fieldLink RJ5 15 "java/lang/AbstractStringBuilder" "value" "[B") (by decide +kernel)) (fun _ h9 => h9) rfl dJ5_ensureCapacityInternal_d00df_19 ?_
  refine lv_aload_n hx hb dJ5_ensureCapacityInternal_d00df_22 rfl (lv_at hl 1 rfl) ?_
  refine lv_iload_n hx hb dJ5_ensureCapacityInternal_d00df_23 rfl (lv_at hl 2 rfl) ?_
  have hPc := hP.sub (ws' := [(h0, .inr (1, [.ref bv, .int 0, w1, w2])), (bv, .inl (y 0, 16, .inl zk5))]) [0, 1] rfl
  have hDc := hD.sub (ws' := [(h0, .inr (1, [.ref bv, .int 0, w1, w2])), (bv, .inl (y 0, 16, .inl zk5))]) [0, 1] (by decide) rfl
  have hFc := va_free (wc := [(h0, .inr (1, [.ref bv, .int 0, w1, w2])), (bv, .inl (y 0, 16, .inl zk5))]) hD hS hA [0, 1] rfl
  refine va_calli (va_runU (As := [.int 22]) (rest := [.ref bv, .ref h0]) ⟨hx, hb, hml, hown, hts⟩ (c_newCap_22 l D y s.heap.size h0 bv w1 w2 zk5) (va_cwU 1 hts gv_c_ens_e2_c_newCap_22_104 rfl rfl rfl rfl (by decide +kernel) ⟨(Nat.le_of_ble_eq_true rfl), (Nat.le_of_ble_eq_true rfl)⟩) (zB.preV hPc hDc hK hN hE hO hT hG hS hFc (fun _ h => nomatch h) (fun _ h => nomatch h) (fun _ h => nomatch h) (fun _ h => nomatch h) (va_recv hK hPc (ci := 1) (q0 := 0) rfl rfl)) rfl rfl hl.1 rfl (lv_room (Nat.le_of_ble_eq_true rfl)) dJ5_ensureCapacityInternal_d00df_24 ⟨(Nat.le_of_ble_eq_true rfl), (Nat.le_of_ble_eq_true rfl)⟩) hS (fun q _ h => hFc q h) hFc (fun r3 u t H1 locs ht hvm hw hB hz1 hk1 hS => ?_)
  obtain ⟨hP1, hD1⟩ := hB
  rw [ht] at hP1
  obtain ⟨hP, hD⟩ := va_join (wr := []) (w1 := [(h0, .inr (1, [.ref bv, .int 0, w1, w2])), (bv, .inl (y 0, 16, .inl zk5))]) hP hD [0, 1] [] rfl rfl (by decide) (by decide) hk1 hFc hP1 hD1
  generalize H1 = H at hP hS ⊢
  have hP : va_P D vwCl [(h0, .inr (1, [.ref bv, .int 0, w1, w2])), (bv, .inl (y 0, 16, .inl zk5))] H := hP
  have hD : va_D A [(h0, .inr (1, [.ref bv, .int 0, w1, w2])), (bv, .inl (y 0, 16, .inl zk5))] := hD
  have hw : r3 = 34 := hw
  subst hw
  refine lv_aload_n hx hb dJ5_ensureCapacityInternal_d00df_27 rfl (lv_at hl 1 rfl) ?_
  refine va_get (D := D) (ci := 1) (v := .int 0) (C := RJ4) (T := TJ4) (N := 4) hx hb hts (by decide +kernel) hown hK hP 0 rfl rfl 1 (by decide) (hts (.fieldLink RJ5 22 "java/lang/AbstractStringBuilder" "coder" "B") (by decide +kernel)) (fun _ h9 => h9) rfl dJ5_ensureCapacityInternal_d00df_28 ?_
  refine lv_ishl hx hb dJ5_ensureCapacityInternal_d00df_31 ?_
  refine lv_topi (fun v4 ev4 => ?_)
  have ev4 : v4 = 34 := ev4.trans (by decide +kernel)
  subst ev4
  have hPc := hP.sub (ws' := [(bv, .inl (y 0, 16, .inl zk5))]) [1] rfl
  have hDc := hD.sub (ws' := [(bv, .inl (y 0, 16, .inl zk5))]) [1] (by decide) rfl
  have hFc := va_free (wc := [(bv, .inl (y 0, 16, .inl zk5))]) hD hS hA [1] rfl
  refine va_callr (va_runS (As := [.ref bv, .int 34]) (rest := [.ref h0]) ⟨hx, hb, hml, hown, hts⟩ (c_copyOf_e0 l D y H.size bv) (va_cwS 2 hts gv_c_ens_e2_c_copyOf_e0_108 rfl rfl rfl (by decide +kernel) ⟨(Nat.le_of_ble_eq_true rfl), (Nat.le_of_ble_eq_true rfl)⟩) (zB.preS hPc hDc hK hN hE hO hT hG hS hFc (fun _ h => nomatch h) (fun _ h => nomatch h) (fun _ h => nomatch h) (fun _ h => nomatch h)) rfl rfl hl.1 rfl (lv_room (Nat.le_of_ble_eq_true rfl)) dJ5_ensureCapacityInternal_d00df_32 ⟨(Nat.le_of_ble_eq_true rfl), (Nat.le_of_ble_eq_true rfl)⟩) hS (fun q _ h => hFc q h) hFc (fun u r5 t H1 locs ht hvm hw hB hz1 hk1 hS => ?_)
  obtain ⟨hP1, hD1⟩ := hB
  rw [ht] at hP1
  obtain ⟨hP, hD⟩ := va_join (wr := [(h0, .inr (1, [.ref bv, .int 0, w1, w2]))]) (w1 := [(bv, .inl (y 0, 16, .inl zk5)), (r5, .inl (y 0, 34, .inl zk6))]) hP hD [1] [0] rfl rfl (by decide) (by decide) hk1 hFc hP1 hD1
  generalize H1 = H at hP hS ⊢
  have hP : va_P D vwCl [(h0, .inr (1, [.ref bv, .int 0, w1, w2])), (bv, .inl (y 0, 16, .inl zk5)), (r5, .inl (y 0, 34, .inl zk6))] H := hP
  have hD : va_D A [(h0, .inr (1, [.ref bv, .int 0, w1, w2])), (bv, .inl (y 0, 16, .inl zk5)), (r5, .inl (y 0, 34, .inl zk6))] := hD
  refine va_put (D := D) (ci := 1) (v := .ref r5) (ty := (.array .byte)) (C := RJ4) (T := TJ4) (N := 4) hx hb hts (by decide +kernel) tyJ4 tyJ4_ok nmJ4 hown hK hP hD hS 0 rfl rfl 0 (by decide) (hts (.fieldLink RJ5 15 "java/lang/AbstractStringBuilder" "value" "[B") (by decide +kernel)) (fun _ h9 => h9) rfl (by decide +kernel) rfl rfl (Nat.le_of_ble_eq_true rfl) dJ5_ensureCapacityInternal_d00df_35 (fun H locs hP hD hS => ?_)
  have hP : va_P D vwCl [(h0, .inr (1, [.ref r5, .int 0, w1, w2])), (bv, .inl (y 0, 16, .inl zk5)), (r5, .inl (y 0, 34, .inl zk6))] H := hP
  have hD : va_D A [(h0, .inr (1, [.ref r5, .int 0, w1, w2])), (bv, .inl (y 0, 16, .inl zk5)), (r5, .inl (y 0, 34, .inl zk6))] := hD
  have hP9 := hP.sub (ws' := [(h0, .inr (1, [.ref r5, .int 0, w1, w2])), (bv, .inl (y 0, 16, .inl zk5)), (r5, .inl (y 0, 34, .inl zk6))]) [0, 1, 2] rfl
  have hD9 := hD.sub (ws' := [(h0, .inr (1, [.ref r5, .int 0, w1, w2])), (bv, .inl (y 0, 16, .inl zk5)), (r5, .inl (y 0, 34, .inl zk6))]) [0, 1, 2] (by decide) rfl
  refine W.widen (k := 1) (n := 34) (Nat.le_of_ble_eq_true rfl) (Nat.le_of_ble_eq_true rfl) ?_
  exact W.vret hx hb hr (fun t ht hW => ⟨⟨(), rfl, trivial, r5, by rw [ht]; exact hP9, hD9⟩, hS.F ht⟩) hS.2.2 dJ5_ensureCapacityInternal_d00df_38
def wz_c_getBytes_9_9_34 : List Cond := .code yJ0_getBytes_840e7 cJ0_getBytes_840e7 4 none :: ([.methodLink RJ0 335 yJ0_coder_7d493, .instanceMethod yJ0_coder_7d493, .selects RJ0 yJ0_coder_7d493 yJ0_coder_7d493, .initialized RJ0, .fieldLink RJ0 9 "java/lang/String" "value" "[B", .methodLink RJ0 212 arraycopyName, .native arraycopyName, .static arraycopyName, .initialized "java/lang/System"] ++ (wz_c_coder_o ++ ([])))
set_option maxRecDepth 100000 in
theorem gz_c_getBytes_9_9_34_c_coder_o : GoodIn wz_c_getBytes_9_9_34 wz_c_coder_o := goodIn_sub (fun w h => List.mem_cons_of_mem _ (List.mem_append_right _ (List.mem_append_left _ h))) (by decide +kernel)
set_option maxRecDepth 100000 in
theorem gv_c_getBytes_9_9_34_c_coder_o_335 : GoodIn wz_c_getBytes_9_9_34 (wsV RJ0 335 RJ0 yJ0_coder_7d493 wz_c_coder_o) := goodIn_app (goodIn_of _ (by decide +kernel)) gz_c_getBytes_9_9_34_c_coder_o
set_option maxHeartbeats 4000000 in
set_option maxRecDepth 100000 in
theorem c_getBytes_9_9_34 (l : Launch) (D : va_G) (y : Nat → ClassId) (sz : Nat) (bv : Nat) (sx : Nat) (tx : Nat) (g : Nat → Int32) : Met l yJ0_getBytes_840e7 wz_c_getBytes_9_9_34 ({ frames := 1, cells := 0, slots := 0, locals := 60 }) (va_Pc [.ref sx, .ref bv, .int 9, .int 0] (zB D y [(bv, .inl (y 0, 34, .inl g))] sz [] [("java/lang/String", "COMPACT_STRINGS", "Z", .int 1)] [] [.inr (.inl (sx, tx, 13, zs9))])) (va_Qv (fun _ : Unit => True) (fun _ t => va_P D vwCl [(bv, .inl (y 0, 34, .inl (va_cpy zs9 g (0 : Int32).toNatClampNeg (9 : Int32).toNatClampNeg (13 : Int32).toNatClampNeg)))] t.heap ∧ va_D (va_A [(bv, .inl (y 0, 34, .inl g))] sz) [(bv, .inl (y 0, 34, .inl (va_cpy zs9 g (0 : Int32).toNatClampNeg (9 : Int32).toNatClampNeg (13 : Int32).toNatClampNeg)))]) (va_A [(bv, .inl (y 0, 34, .inl g))] sz)) 0 0 (va_A [(bv, .inl (y 0, 34, .inl g))] sz) := by
  refine Met.ofW (cc := cJ0_getBytes_840e7) (maxL := 4) (ret := none) (by decide) rfl ?_
  intro p e s m args below meth c s₁ B hml hv
  obtain ⟨rfl, hsz, hP, hK, hD0, hN, hE, hO, hT, hG⟩ := hv
  have hx := B.exec
  have hb := B.bytes
  have hr := B.returns
  have hts := atoms_spec (ws := wz_c_getBytes_9_9_34) B.pre
  have hown : s.vm.findClass RJ0 = some m.cls := findClass_of_methodNamed B.named
  have hlocks := B.notSynchronized
  subst hsz
  have hD := hD0.self (sz := s.heap.size)
  generalize hAe : va_A [(bv, .inl (y 0, 34, .inl g))] s.heap.size = A at hD hE hT hG ⊢
  have hA : ∀ q : Nat, s.heap.size ≤ q → A q := fun q h => by rw [← hAe]; exact Or.inr h
  have hS : va_S A s.heap s.heap [] := va_S.rf
  have hl := lv_entry ([.ref sx, .ref bv, .int 9, .int 0]) (n := 4) (Nat.le_of_ble_eq_true rfl)
  rw [lg_entry_eq]
  generalize (lg_sl ([.ref sx, .ref bv, .int 9, .int 0]) ++ List.replicate (4 - (lg_sl ([.ref sx, .ref bv, .int 9, .int 0])).length) Slot.unset).toArray = ls at hl ⊢
  have hl : lv_has ls 4 [(0, .ref sx), (1, .ref bv), (2, .int 9), (3, .int 0)] := hl
  refine lv_aload_n hx hb dJ0_getBytes_840e7_0 rfl (lv_at hl 0 rfl) ?_
  have hPc := hP.sub (ws' := []) [] rfl
  have hDc := hD.sub (ws' := []) [] (by decide) rfl
  have hFc := va_free (wc := []) hD hS hA [] rfl
  refine va_calli (va_runV (As := []) (rest := []) ⟨hx, hb, hml, hown, hts⟩ (c_coder_o l D y s.heap.size sx tx 13 zs9) (cwV 0 hts gv_c_getBytes_9_9_34_c_coder_o_335 rfl rfl rfl (by decide +kernel) ⟨(Nat.le_of_ble_eq_true rfl), (Nat.le_of_ble_eq_true rfl)⟩) (zB.preV hPc hDc hK hN hE hO hT hG hS hFc (fun _ h => nomatch h) (List.forall_mem_cons.mpr ⟨List.mem_of_getElem? (i := 0) rfl, (fun _ h => nomatch h)⟩) (fun _ h => nomatch h) (List.forall_mem_cons.mpr ⟨List.mem_of_getElem? (i := 0) rfl, (fun _ h => nomatch h)⟩) (zStr.recv (show zStr sx tx 13 zs9 A s s.heap from (hG (.inr (.inl (sx, tx, 13, zs9))) (List.mem_of_getElem? (i := 0) rfl))) hS)) rfl rfl hl.1 rfl (lv_room (Nat.le_of_ble_eq_true rfl)) dJ0_getBytes_840e7_1 ⟨(Nat.le_of_ble_eq_true rfl), (Nat.le_of_ble_eq_true rfl)⟩) hS (fun q _ h => hFc q h) hFc (fun r1 u t H1 locs ht hvm hw hB hz1 hk1 hS => ?_)
  obtain ⟨hP1, hD1⟩ := hB
  rw [ht] at hP1
  obtain ⟨hP, hD⟩ := va_join (wr := [(bv, .inl (y 0, 34, .inl g))]) (w1 := []) hP hD [] [0] rfl rfl (by decide) (by decide) hk1 hFc hP1 hD1
  generalize H1 = H at hP hS ⊢
  have hP : va_P D vwCl [(bv, .inl (y 0, 34, .inl g))] H := hP
  have hD : va_D A [(bv, .inl (y 0, 34, .inl g))] := hD
  have hw : r1 = 0 := hw
  subst hw
  refine lv_iload_n hx hb dJ0_getBytes_840e7_4 rfl (lv_at hl 3 rfl) ?_
  refine lv_icmp_ne (tgt := 28) hx hb dJ0_getBytes_840e7_5 (by decide) (fun c9 => absurd (by decide) c9) (fun _ => ?_)
  refine lv_aload_n hx hb dJ0_getBytes_840e7_8 rfl (lv_at hl 0 rfl) ?_
  refine vk_getf hx hb (show zStr sx tx 13 zs9 A s s.heap from (hG (.inr (.inl (sx, tx, 13, zs9))) (List.mem_of_getElem? (i := 0) rfl))).2.2.1 hS hown (hts (.fieldLink RJ0 9 "java/lang/String" "value" "[B") (by decide +kernel)) (fun _ h9 => h9) dJ0_getBytes_840e7_9 ?_
  refine lv_iconst (v := 0) hx hb dJ0_getBytes_840e7_12 (by decide) ?_
  refine lv_aload_n hx hb dJ0_getBytes_840e7_13 rfl (lv_at hl 1 rfl) ?_
  refine lv_iload_n hx hb dJ0_getBytes_840e7_14 rfl (lv_at hl 2 rfl) ?_
  refine lv_iload_n hx hb dJ0_getBytes_840e7_15 rfl (lv_at hl 3 rfl) ?_
  refine lv_ishl hx hb dJ0_getBytes_840e7_16 ?_
  refine lv_topi (fun v2 ev2 => ?_)
  have ev2 : v2 = 9 := ev2.trans (by decide +kernel)
  subst ev2
  refine lv_aload_n hx hb dJ0_getBytes_840e7_17 rfl (lv_at hl 0 rfl) ?_
  refine vk_getf hx hb (show zStr sx tx 13 zs9 A s s.heap from (hG (.inr (.inl (sx, tx, 13, zs9))) (List.mem_of_getElem? (i := 0) rfl))).2.2.1 hS hown (hts (.fieldLink RJ0 9 "java/lang/String" "value" "[B") (by decide +kernel)) (fun _ h9 => h9) dJ0_getBytes_840e7_18 ?_
  refine va_tlen (v := 13) hx hb (show zStr sx tx 13 zs9 A s s.heap from (hG (.inr (.inl (sx, tx, 13, zs9))) (List.mem_of_getElem? (i := 0) rfl))).2.2.2 hS (by decide) dJ0_getBytes_840e7_21 ?_
  refine vk_copyt (sp := 0) (dp := 9) (n := 13) (f := zs9) hx hb (hml.trans hl.1.symm) hown (hts (.methodLink RJ0 212 arraycopyName) (by decide +kernel)) (hts (.native arraycopyName) (by decide +kernel)) (hts (.static arraycopyName) (by decide +kernel)) (hts (.initialized "java/lang/System") (by decide +kernel)) hK hP hD hS (show zStr sx tx 13 zs9 A s s.heap from (hG (.inr (.inl (sx, tx, 13, zs9))) (List.mem_of_getElem? (i := 0) rfl))).2.2.2 0 0 rfl rfl (by decide +kernel) (by decide +kernel) (by decide +kernel) (by decide +kernel) (by decide +kernel) (by decide +kernel) (Nat.le_of_ble_eq_true rfl) (Nat.le_of_ble_eq_true rfl) dJ0_getBytes_840e7_22 (fun H locs hP hD hS => ?_)
  have hP : va_P D vwCl [(bv, .inl (y 0, 34, .inl (va_cpy zs9 g (0 : Int32).toNatClampNeg (9 : Int32).toNatClampNeg (13 : Int32).toNatClampNeg)))] H := hP
  have hD : va_D A [(bv, .inl (y 0, 34, .inl (va_cpy zs9 g (0 : Int32).toNatClampNeg (9 : Int32).toNatClampNeg (13 : Int32).toNatClampNeg)))] := hD
  refine lv_goto (tgt := 43) hx hb dJ0_getBytes_840e7_25 (by decide) ?_
  have hP9 := hP.sub (ws' := [(bv, .inl (y 0, 34, .inl (va_cpy zs9 g (0 : Int32).toNatClampNeg (9 : Int32).toNatClampNeg (13 : Int32).toNatClampNeg)))]) [0] rfl
  have hD9 := hD.sub (ws' := [(bv, .inl (y 0, 34, .inl (va_cpy zs9 g (0 : Int32).toNatClampNeg (9 : Int32).toNatClampNeg (13 : Int32).toNatClampNeg)))]) [0] (by decide) rfl
  refine W.widen (k := 0) (n := 0) (Nat.le_of_ble_eq_true rfl) (Nat.le_of_ble_eq_true rfl) ?_
  exact W.vret hx hb hr (fun t ht hW => ⟨⟨(), rfl, trivial, by rw [ht]; exact hP9, hD9⟩, hS.F ht⟩) hS.2.2 dJ0_getBytes_840e7_43
def wz_c_putStr_9_9_34 : List Cond := .code yJ5_putStringAt_47b60 cJ5_putStringAt_47b60 3 none :: ([.methodLink RJ5 397 ⟨"java/lang/AbstractStringBuilder", "inflateIfNeededFor", "(Ljava/lang/String;)V"⟩, .sameMethod "java/lang/AbstractStringBuilder" "java/lang/AbstractStringBuilder" "inflateIfNeededFor" "(Ljava/lang/String;)V", .selects RJ4 ⟨"java/lang/AbstractStringBuilder", "inflateIfNeededFor", "(Ljava/lang/String;)V"⟩ yJ5_inflateIfNeededFor_a7421, .instanceMethod yJ5_inflateIfNeededFor_a7421, .initialized RJ5, .fieldLink RJ5 15 "java/lang/AbstractStringBuilder" "value" "[B", .fieldLink RJ5 22 "java/lang/AbstractStringBuilder" "coder" "B", .methodLink RJ5 399 yJ0_getBytes_840e7, .instanceMethod yJ0_getBytes_840e7, .selects RJ0 yJ0_getBytes_840e7 yJ0_getBytes_840e7, .initialized RJ0] ++ (wsJ40 ++ (wz_c_inflIf ++ (wz_c_getBytes_9_9_34 ++ ([])))))
set_option maxRecDepth 100000 in
theorem gz_c_putStr_9_9_34_c_inflIf : GoodIn wz_c_putStr_9_9_34 wz_c_inflIf := goodIn_sub (fun w h => List.mem_cons_of_mem _ (List.mem_append_right _ (List.mem_append_right _ (List.mem_append_left _ h)))) (by decide +kernel)
set_option maxRecDepth 100000 in
theorem gz_c_putStr_9_9_34_c_getBytes_9_9_34 : GoodIn wz_c_putStr_9_9_34 wz_c_getBytes_9_9_34 := goodIn_sub (fun w h => List.mem_cons_of_mem _ (List.mem_append_right _ (List.mem_append_right _ (List.mem_append_right _ (List.mem_append_left _ h))))) (by decide +kernel)
set_option maxRecDepth 100000 in
theorem gv_c_putStr_9_9_34_c_inflIf_397 : GoodIn wz_c_putStr_9_9_34 (va_wsU RJ5 397 RJ4 "java/lang/AbstractStringBuilder" ⟨"java/lang/AbstractStringBuilder", "inflateIfNeededFor", "(Ljava/lang/String;)V"⟩ yJ5_inflateIfNeededFor_a7421 wz_c_inflIf) := goodIn_app (goodIn_of _ (by decide +kernel)) gz_c_putStr_9_9_34_c_inflIf
set_option maxRecDepth 100000 in
theorem gv_c_putStr_9_9_34_c_getBytes_9_9_34_399 : GoodIn wz_c_putStr_9_9_34 (wsV RJ5 399 RJ0 yJ0_getBytes_840e7 wz_c_getBytes_9_9_34) := goodIn_app (goodIn_of _ (by decide +kernel)) gz_c_putStr_9_9_34_c_getBytes_9_9_34
set_option maxHeartbeats 4000000 in
set_option maxRecDepth 100000 in
theorem c_putStr_9_9_34 (l : Launch) (D : va_G) (y : Nat → ClassId) (sz : Nat) (h0 : Nat) (bv : Nat) (w1 : Value) (w2 : Value) (sx : Nat) (tx : Nat) (g : Nat → Int32) : Met l yJ5_putStringAt_47b60 wz_c_putStr_9_9_34 ({ frames := 2, cells := 0, slots := 0, locals := 83 }) (va_Pc [.ref h0, .int 9, .ref sx] (zB D y [(h0, .inr (1, [.ref bv, .int 0, w1, w2])), (bv, .inl (y 0, 34, .inl g))] sz [] [("java/lang/String", "COMPACT_STRINGS", "Z", .int 1)] [] [.inr (.inl (sx, tx, 13, zs9))])) (va_Qv (fun _ : Unit => True) (fun _ t => va_P D vwCl [(h0, .inr (1, [.ref bv, .int 0, w1, w2])), (bv, .inl (y 0, 34, .inl (va_cpy zs9 g (0 : Int32).toNatClampNeg (9 : Int32).toNatClampNeg (13 : Int32).toNatClampNeg)))] t.heap ∧ va_D (va_A [(h0, .inr (1, [.ref bv, .int 0, w1, w2])), (bv, .inl (y 0, 34, .inl g))] sz) [(h0, .inr (1, [.ref bv, .int 0, w1, w2])), (bv, .inl (y 0, 34, .inl (va_cpy zs9 g (0 : Int32).toNatClampNeg (9 : Int32).toNatClampNeg (13 : Int32).toNatClampNeg)))]) (va_A [(h0, .inr (1, [.ref bv, .int 0, w1, w2])), (bv, .inl (y 0, 34, .inl g))] sz)) 0 0 (va_A [(h0, .inr (1, [.ref bv, .int 0, w1, w2])), (bv, .inl (y 0, 34, .inl g))] sz) := by
  refine Met.ofW (cc := cJ5_putStringAt_47b60) (maxL := 3) (ret := none) (by decide) rfl ?_
  intro p e s m args below meth c s₁ B hml hv
  obtain ⟨rfl, hsz, hP, hK, hD0, hN, hE, hO, hT, hG⟩ := hv
  have hx := B.exec
  have hb := B.bytes
  have hr := B.returns
  have hts := atoms_spec (ws := wz_c_putStr_9_9_34) B.pre
  have hown : s.vm.findClass RJ5 = some m.cls := findClass_of_methodNamed B.named
  have hlocks := B.notSynchronized
  subst hsz
  have hD := hD0.self (sz := s.heap.size)
  generalize hAe : va_A [(h0, .inr (1, [.ref bv, .int 0, w1, w2])), (bv, .inl (y 0, 34, .inl g))] s.heap.size = A at hD hE hT hG ⊢
  have hA : ∀ q : Nat, s.heap.size ≤ q → A q := fun q h => by rw [← hAe]; exact Or.inr h
  have hS : va_S A s.heap s.heap [] := va_S.rf
  have hl := lv_entry ([.ref h0, .int 9, .ref sx]) (n := 3) (Nat.le_of_ble_eq_true rfl)
  rw [lg_entry_eq]
  generalize (lg_sl ([.ref h0, .int 9, .ref sx]) ++ List.replicate (3 - (lg_sl ([.ref h0, .int 9, .ref sx])).length) Slot.unset).toArray = ls at hl ⊢
  have hl : lv_has ls 3 [(0, .ref h0), (1, .int 9), (2, .ref sx)] := hl
  refine lv_aload_n hx hb dJ5_putStringAt_47b60_0 rfl (lv_at hl 0 rfl) ?_
  refine lv_aload_n hx hb dJ5_putStringAt_47b60_1 rfl (lv_at hl 2 rfl) ?_
  have hPc := hP.sub (ws' := [(h0, .inr (1, [.ref bv, .int 0, w1, w2]))]) [0] rfl
  have hDc := hD.sub (ws' := [(h0, .inr (1, [.ref bv, .int 0, w1, w2]))]) [0] (by decide) rfl
  have hFc := va_free (wc := [(h0, .inr (1, [.ref bv, .int 0, w1, w2]))]) hD hS hA [0] rfl
  refine va_callv (va_runU (As := [.ref sx]) (rest := []) ⟨hx, hb, hml, hown, hts⟩ (c_inflIf l D y s.heap.size h0 ((.ref bv)) w1 w2 sx tx 13 zs9) (va_cwU 1 hts gv_c_putStr_9_9_34_c_inflIf_397 rfl rfl rfl rfl (by decide +kernel) ⟨(Nat.le_of_ble_eq_true rfl), (Nat.le_of_ble_eq_true rfl)⟩) (zB.preV hPc hDc hK hN hE hO hT hG hS hFc (fun _ h => nomatch h) (List.forall_mem_cons.mpr ⟨List.mem_of_getElem? (i := 0) rfl, (fun _ h => nomatch h)⟩) (fun _ h => nomatch h) (List.forall_mem_cons.mpr ⟨List.mem_of_getElem? (i := 0) rfl, (fun _ h => nomatch h)⟩) (va_recv hK hPc (ci := 1) (q0 := 0) rfl rfl)) rfl rfl hl.1 rfl (lv_room (Nat.le_of_ble_eq_true rfl)) dJ5_putStringAt_47b60_2 ⟨(Nat.le_of_ble_eq_true rfl), (Nat.le_of_ble_eq_true rfl)⟩) hS (fun q _ h => hFc q h) hFc (fun u t H1 locs ht hvm hw hB hz1 hk1 hS => ?_)
  obtain ⟨hP1, hD1⟩ := hB
  rw [ht] at hP1
  obtain ⟨hP, hD⟩ := va_join (wr := [(bv, .inl (y 0, 34, .inl g))]) (w1 := [(h0, .inr (1, [.ref bv, .int 0, w1, w2]))]) hP hD [0] [1] rfl rfl (by decide) (by decide) hk1 hFc hP1 hD1
  generalize H1 = H at hP hS ⊢
  have hP : va_P D vwCl [(bv, .inl (y 0, 34, .inl g)), (h0, .inr (1, [.ref bv, .int 0, w1, w2]))] H := hP
  have hD : va_D A [(bv, .inl (y 0, 34, .inl g)), (h0, .inr (1, [.ref bv, .int 0, w1, w2]))] := hD
  refine lv_aload_n hx hb dJ5_putStringAt_47b60_5 rfl (lv_at hl 2 rfl) ?_
  refine lv_aload_n hx hb dJ5_putStringAt_47b60_6 rfl (lv_at hl 0 rfl) ?_
  refine va_get (D := D) (ci := 1) (v := .ref bv) (C := RJ4) (T := TJ4) (N := 4) hx hb hts (by decide +kernel) hown hK hP 1 rfl rfl 0 (by decide) (hts (.fieldLink RJ5 15 "java/lang/AbstractStringBuilder" "value" "[B") (by decide +kernel)) (fun _ h9 => h9) rfl dJ5_putStringAt_47b60_7 ?_
  refine lv_iload_n hx hb dJ5_putStringAt_47b60_10 rfl (lv_at hl 1 rfl) ?_
  refine lv_aload_n hx hb dJ5_putStringAt_47b60_11 rfl (lv_at hl 0 rfl) ?_
  refine va_get (D := D) (ci := 1) (v := .int 0) (C := RJ4) (T := TJ4) (N := 4) hx hb hts (by decide +kernel) hown hK hP 1 rfl rfl 1 (by decide) (hts (.fieldLink RJ5 22 "java/lang/AbstractStringBuilder" "coder" "B") (by decide +kernel)) (fun _ h9 => h9) rfl dJ5_putStringAt_47b60_12 ?_
  have hPc := hP.sub (ws' := [(bv, .inl (y 0, 34, .inl g))]) [0] rfl
  have hDc := hD.sub (ws' := [(bv, .inl (y 0, 34, .inl g))]) [0] (by decide) rfl
  have hFc := va_free (wc := [(bv, .inl (y 0, 34, .inl g))]) hD hS hA [0] rfl
  refine va_callv (va_runV (As := [.ref bv, .int 9, .int 0]) (rest := []) ⟨hx, hb, hml, hown, hts⟩ (c_getBytes_9_9_34 l D y H.size bv sx tx g) (cwV 3 hts gv_c_putStr_9_9_34_c_getBytes_9_9_34_399 rfl rfl rfl (by decide +kernel) ⟨(Nat.le_of_ble_eq_true rfl), (Nat.le_of_ble_eq_true rfl)⟩) (zB.preV hPc hDc hK hN hE hO hT hG hS hFc (fun _ h => nomatch h) (List.forall_mem_cons.mpr ⟨List.mem_of_getElem? (i := 0) rfl, (fun _ h => nomatch h)⟩) (fun _ h => nomatch h) (List.forall_mem_cons.mpr ⟨List.mem_of_getElem? (i := 0) rfl, (fun _ h => nomatch h)⟩) (zStr.recv (show zStr sx tx 13 zs9 A s s.heap from (hG (.inr (.inl (sx, tx, 13, zs9))) (List.mem_of_getElem? (i := 0) rfl))) hS)) rfl rfl hl.1 rfl (lv_room (Nat.le_of_ble_eq_true rfl)) dJ5_putStringAt_47b60_15 ⟨(Nat.le_of_ble_eq_true rfl), (Nat.le_of_ble_eq_true rfl)⟩) hS (fun q _ h => hFc q h) hFc (fun u t H1 locs ht hvm hw hB hz1 hk1 hS => ?_)
  obtain ⟨hP1, hD1⟩ := hB
  rw [ht] at hP1
  obtain ⟨hP, hD⟩ := va_join (wr := [(h0, .inr (1, [.ref bv, .int 0, w1, w2]))]) (w1 := [(bv, .inl (y 0, 34, .inl (va_cpy zs9 g (0 : Int32).toNatClampNeg (9 : Int32).toNatClampNeg (13 : Int32).toNatClampNeg)))]) hP hD [0] [1] rfl rfl (by decide) (by decide) hk1 hFc hP1 hD1
  generalize H1 = H at hP hS ⊢
  have hP : va_P D vwCl [(h0, .inr (1, [.ref bv, .int 0, w1, w2])), (bv, .inl (y 0, 34, .inl (va_cpy zs9 g (0 : Int32).toNatClampNeg (9 : Int32).toNatClampNeg (13 : Int32).toNatClampNeg)))] H := hP
  have hD : va_D A [(h0, .inr (1, [.ref bv, .int 0, w1, w2])), (bv, .inl (y 0, 34, .inl (va_cpy zs9 g (0 : Int32).toNatClampNeg (9 : Int32).toNatClampNeg (13 : Int32).toNatClampNeg)))] := hD
  have hP9 := hP.sub (ws' := [(h0, .inr (1, [.ref bv, .int 0, w1, w2])), (bv, .inl (y 0, 34, .inl (va_cpy zs9 g (0 : Int32).toNatClampNeg (9 : Int32).toNatClampNeg (13 : Int32).toNatClampNeg)))]) [0, 1] rfl
  have hD9 := hD.sub (ws' := [(h0, .inr (1, [.ref bv, .int 0, w1, w2])), (bv, .inl (y 0, 34, .inl (va_cpy zs9 g (0 : Int32).toNatClampNeg (9 : Int32).toNatClampNeg (13 : Int32).toNatClampNeg)))]) [0, 1] (by decide) rfl
  refine W.widen (k := 0) (n := 0) (Nat.le_of_ble_eq_true rfl) (Nat.le_of_ble_eq_true rfl) ?_
  exact W.vret hx hb hr (fun t ht hW => ⟨⟨(), rfl, trivial, by rw [ht]; exact hP9, hD9⟩, hS.F ht⟩) hS.2.2 dJ5_putStringAt_47b60_18
def zk21 : Nat → Int32 := va_cpy zs9 zk6 (0 : Int32).toNatClampNeg (9 : Int32).toNatClampNeg (13 : Int32).toNatClampNeg
def wz_c_ASBapp_e2 : List Cond := .code yJ5_append_cf1ce cJ5_append_cf1ce 3 (some (.object "java/lang/AbstractStringBuilder")) :: ([.methodLink RJ5 32 yJ0_length_8abf5, .instanceMethod yJ0_length_8abf5, .selects RJ0 yJ0_length_8abf5 yJ0_length_8abf5, .initialized RJ0, .fieldLink RJ5 79 "java/lang/AbstractStringBuilder" "count" "I", .methodLink RJ5 100 ⟨"java/lang/AbstractStringBuilder", "ensureCapacityInternal", "(I)V"⟩, .sameMethod "java/lang/AbstractStringBuilder" "java/lang/AbstractStringBuilder" "ensureCapacityInternal" "(I)V", .selects RJ4 ⟨"java/lang/AbstractStringBuilder", "ensureCapacityInternal", "(I)V"⟩ yJ5_ensureCapacityInternal_d00df, .instanceMethod yJ5_ensureCapacityInternal_d00df, .initialized RJ5, .methodLink RJ5 208 ⟨"java/lang/AbstractStringBuilder", "putStringAt", "(ILjava/lang/String;)V"⟩, .sameMethod "java/lang/AbstractStringBuilder" "java/lang/AbstractStringBuilder" "putStringAt" "(ILjava/lang/String;)V", .selects RJ4 ⟨"java/lang/AbstractStringBuilder", "putStringAt", "(ILjava/lang/String;)V"⟩ yJ5_putStringAt_47b60, .instanceMethod yJ5_putStringAt_47b60] ++ (wsJ40 ++ (wz_c_len_o_13 ++ (wz_c_ens_e2 ++ (wz_c_putStr_9_9_34 ++ ([]))))))
set_option maxRecDepth 100000 in
theorem gz_c_ASBapp_e2_c_len_o_13 : GoodIn wz_c_ASBapp_e2 wz_c_len_o_13 := goodIn_sub (fun w h => List.mem_cons_of_mem _ (List.mem_append_right _ (List.mem_append_right _ (List.mem_append_left _ h)))) (by decide +kernel)
set_option maxRecDepth 100000 in
theorem gz_c_ASBapp_e2_c_ens_e2 : GoodIn wz_c_ASBapp_e2 wz_c_ens_e2 := goodIn_sub (fun w h => List.mem_cons_of_mem _ (List.mem_append_right _ (List.mem_append_right _ (List.mem_append_right _ (List.mem_append_left _ h))))) (by decide +kernel)
set_option maxRecDepth 100000 in
theorem gz_c_ASBapp_e2_c_putStr_9_9_34 : GoodIn wz_c_ASBapp_e2 wz_c_putStr_9_9_34 := goodIn_sub (fun w h => List.mem_cons_of_mem _ (List.mem_append_right _ (List.mem_append_right _ (List.mem_append_right _ (List.mem_append_right _ (List.mem_append_left _ h)))))) (by decide +kernel)
set_option maxRecDepth 100000 in
theorem gv_c_ASBapp_e2_c_len_o_13_32 : GoodIn wz_c_ASBapp_e2 (wsV RJ5 32 RJ0 yJ0_length_8abf5 wz_c_len_o_13) := goodIn_app (goodIn_of _ (by decide +kernel)) gz_c_ASBapp_e2_c_len_o_13
set_option maxRecDepth 100000 in
theorem gv_c_ASBapp_e2_c_ens_e2_100 : GoodIn wz_c_ASBapp_e2 (va_wsU RJ5 100 RJ4 "java/lang/AbstractStringBuilder" ⟨"java/lang/AbstractStringBuilder", "ensureCapacityInternal", "(I)V"⟩ yJ5_ensureCapacityInternal_d00df wz_c_ens_e2) := goodIn_app (goodIn_of _ (by decide +kernel)) gz_c_ASBapp_e2_c_ens_e2
set_option maxRecDepth 100000 in
theorem gv_c_ASBapp_e2_c_putStr_9_9_34_208 : GoodIn wz_c_ASBapp_e2 (va_wsU RJ5 208 RJ4 "java/lang/AbstractStringBuilder" ⟨"java/lang/AbstractStringBuilder", "putStringAt", "(ILjava/lang/String;)V"⟩ yJ5_putStringAt_47b60 wz_c_putStr_9_9_34) := goodIn_app (goodIn_of _ (by decide +kernel)) gz_c_ASBapp_e2_c_putStr_9_9_34
set_option maxHeartbeats 4000000 in
set_option maxRecDepth 100000 in
theorem c_ASBapp_e2 (l : Launch) (D : va_G) (y : Nat → ClassId) (sz : Nat) (h0 : Nat) (bv : Nat) (w1 : Value) (sx : Nat) (tx : Nat) : Met l yJ5_append_cf1ce wz_c_ASBapp_e2 ({ frames := 4, cells := 1, slots := 34, locals := 105 }) (va_Pc [.ref h0, .ref sx] (zB D y [(h0, .inr (1, [.ref bv, .int 0, w1, .int 9])), (bv, .inl (y 0, 16, .inl zk5))] sz [] [("java/lang/String", "COMPACT_STRINGS", "Z", .int 1)] [] [.inr (.inl (sx, tx, 13, zs9))])) (va_Qq (fun (r : Option Nat) (_ : Unit) => r = some h0) (fun _ t => ∃ q3 : Nat, va_P D vwCl [(h0, .inr (1, [.ref q3, .int 0, w1, .int 22])), (bv, .inl (y 0, 16, .inl zk5)), (q3, .inl (y 0, 34, .inl zk21))] t.heap ∧ va_D (va_A [(h0, .inr (1, [.ref bv, .int 0, w1, .int 9])), (bv, .inl (y 0, 16, .inl zk5))] sz) [(h0, .inr (1, [.ref q3, .int 0, w1, .int 22])), (bv, .inl (y 0, 16, .inl zk5)), (q3, .inl (y 0, 34, .inl zk21))]) (va_A [(h0, .inr (1, [.ref bv, .int 0, w1, .int 9])), (bv, .inl (y 0, 16, .inl zk5))] sz)) 1 34 (va_A [(h0, .inr (1, [.ref bv, .int 0, w1, .int 9])), (bv, .inl (y 0, 16, .inl zk5))] sz) := by
  refine Met.ofW (cc := cJ5_append_cf1ce) (maxL := 3) (ret := (some (.object "java/lang/AbstractStringBuilder"))) (by decide) rfl ?_
  intro p e s m args below meth c s₁ B hml hv
  obtain ⟨rfl, hsz, hP, hK, hD0, hN, hE, hO, hT, hG⟩ := hv
  have hx := B.exec
  have hb := B.bytes
  have hr := B.returns
  have hts := atoms_spec (ws := wz_c_ASBapp_e2) B.pre
  have hown : s.vm.findClass RJ5 = some m.cls := findClass_of_methodNamed B.named
  have hlocks := B.notSynchronized
  subst hsz
  have hD := hD0.self (sz := s.heap.size)
  generalize hAe : va_A [(h0, .inr (1, [.ref bv, .int 0, w1, .int 9])), (bv, .inl (y 0, 16, .inl zk5))] s.heap.size = A at hD hE hT hG ⊢
  have hA : ∀ q : Nat, s.heap.size ≤ q → A q := fun q h => by rw [← hAe]; exact Or.inr h
  have hS : va_S A s.heap s.heap [] := va_S.rf
  have hl := lv_entry ([.ref h0, .ref sx]) (n := 3) (Nat.le_of_ble_eq_true rfl)
  rw [lg_entry_eq]
  generalize (lg_sl ([.ref h0, .ref sx]) ++ List.replicate (3 - (lg_sl ([.ref h0, .ref sx])).length) Slot.unset).toArray = ls at hl ⊢
  have hl : lv_has ls 3 [(0, .ref h0), (1, .ref sx)] := hl
  refine lv_aload_n hx hb dJ5_append_cf1ce_0 rfl (lv_at hl 1 rfl) ?_
  refine lv_ifnonnull (tgt := 9) hx hb dJ5_append_cf1ce_1 (by decide) ?_
  refine lv_aload_n hx hb dJ5_append_cf1ce_9 rfl (lv_at hl 1 rfl) ?_
  have hPc := hP.sub (ws' := []) [] rfl
  have hDc := hD.sub (ws' := []) [] (by decide) rfl
  have hFc := va_free (wc := []) hD hS hA [] rfl
  refine va_calli (va_runV (As := []) (rest := []) ⟨hx, hb, hml, hown, hts⟩ (c_len_o_13 l D y s.heap.size sx tx zs9) (cwV 0 hts gv_c_ASBapp_e2_c_len_o_13_32 rfl rfl rfl (by decide +kernel) ⟨(Nat.le_of_ble_eq_true rfl), (Nat.le_of_ble_eq_true rfl)⟩) (zB.preV hPc hDc hK hN hE hO hT hG hS hFc (fun _ h => nomatch h) (List.forall_mem_cons.mpr ⟨List.mem_of_getElem? (i := 0) rfl, (fun _ h => nomatch h)⟩) (fun _ h => nomatch h) (List.forall_mem_cons.mpr ⟨List.mem_of_getElem? (i := 0) rfl, (fun _ h => nomatch h)⟩) (zStr.recv (show zStr sx tx 13 zs9 A s s.heap from (hG (.inr (.inl (sx, tx, 13, zs9))) (List.mem_of_getElem? (i := 0) rfl))) hS)) rfl rfl hl.1 rfl (lv_room (Nat.le_of_ble_eq_true rfl)) dJ5_append_cf1ce_10 ⟨(Nat.le_of_ble_eq_true rfl), (Nat.le_of_ble_eq_true rfl)⟩) hS (fun q _ h => hFc q h) hFc (fun r1 u t H1 locs ht hvm hw hB hz1 hk1 hS => ?_)
  obtain ⟨hP1, hD1⟩ := hB
  rw [ht] at hP1
  obtain ⟨hP, hD⟩ := va_join (wr := [(h0, .inr (1, [.ref bv, .int 0, w1, .int 9])), (bv, .inl (y 0, 16, .inl zk5))]) (w1 := []) hP hD [] [0, 1] rfl rfl (by decide) (by decide) hk1 hFc hP1 hD1
  generalize H1 = H at hP hS ⊢
  have hP : va_P D vwCl [(h0, .inr (1, [.ref bv, .int 0, w1, .int 9])), (bv, .inl (y 0, 16, .inl zk5))] H := hP
  have hD : va_D A [(h0, .inr (1, [.ref bv, .int 0, w1, .int 9])), (bv, .inl (y 0, 16, .inl zk5))] := hD
  have hw : r1 = 13 := hw
  subst hw
  refine lv_istore_n (lv' := [(2, .int 13), (0, .ref h0), (1, .ref sx)]) hx hb dJ5_append_cf1ce_13 rfl hl (by decide) rfl (fun ls hl => ?_)
  refine lv_aload_n hx hb dJ5_append_cf1ce_14 rfl (lv_at hl 1 rfl) ?_
  refine lv_aload_n hx hb dJ5_append_cf1ce_15 rfl (lv_at hl 1 rfl) ?_
  refine va_get (D := D) (ci := 1) (v := .int 9) (C := RJ4) (T := TJ4) (N := 4) hx hb hts (by decide +kernel) hown hK hP 0 rfl rfl 3 (by decide) (hts (.fieldLink RJ5 79 "java/lang/AbstractStringBuilder" "count" "I") (by decide +kernel)) (fun _ h9 => h9) rfl dJ5_append_cf1ce_16 ?_
  refine lv_iload_n hx hb dJ5_append_cf1ce_19 rfl (lv_at hl 0 rfl) ?_
  refine lv_iadd hx hb dJ5_append_cf1ce_20 ?_
  refine lv_topi (fun v2 ev2 => ?_)
  have ev2 : v2 = 22 := ev2.trans (by decide +kernel)
  subst ev2
  have hPc := hP.sub (ws' := [(h0, .inr (1, [.ref bv, .int 0, w1, .int 9])), (bv, .inl (y 0, 16, .inl zk5))]) [0, 1] rfl
  have hDc := hD.sub (ws' := [(h0, .inr (1, [.ref bv, .int 0, w1, .int 9])), (bv, .inl (y 0, 16, .inl zk5))]) [0, 1] (by decide) rfl
  have hFc := va_free (wc := [(h0, .inr (1, [.ref bv, .int 0, w1, .int 9])), (bv, .inl (y 0, 16, .inl zk5))]) hD hS hA [0, 1] rfl
  refine va_callv (va_runU (As := [.int 22]) (rest := []) ⟨hx, hb, hml, hown, hts⟩ (c_ens_e2 l D y H.size h0 bv w1 ((.int 9))) (va_cwU 1 hts gv_c_ASBapp_e2_c_ens_e2_100 rfl rfl rfl rfl (by decide +kernel) ⟨(Nat.le_of_ble_eq_true rfl), (Nat.le_of_ble_eq_true rfl)⟩) (zB.preV hPc hDc hK hN hE hO hT hG hS hFc (fun _ h => nomatch h) (fun _ h => nomatch h) (fun _ h => nomatch h) (fun _ h => nomatch h) (va_recv hK hPc (ci := 1) (q0 := 0) rfl rfl)) rfl rfl hl.1 rfl (lv_room (Nat.le_of_ble_eq_true rfl)) dJ5_append_cf1ce_21 ⟨(Nat.le_of_ble_eq_true rfl), (Nat.le_of_ble_eq_true rfl)⟩) hS (fun q _ h => hFc q h) hFc (fun u t H1 locs ht hvm hw hB hz1 hk1 hS => ?_)
  obtain ⟨q3, hP1, hD1⟩ := hB
  rw [ht] at hP1
  obtain ⟨hP, hD⟩ := va_join (wr := []) (w1 := [(h0, .inr (1, [.ref q3, .int 0, w1, .int 9])), (bv, .inl (y 0, 16, .inl zk5)), (q3, .inl (y 0, 34, .inl zk6))]) hP hD [0, 1] [] rfl rfl (by decide) (by decide) hk1 hFc hP1 hD1
  generalize H1 = H at hP hS ⊢
  have hP : va_P D vwCl [(h0, .inr (1, [.ref q3, .int 0, w1, .int 9])), (bv, .inl (y 0, 16, .inl zk5)), (q3, .inl (y 0, 34, .inl zk6))] H := hP
  have hD : va_D A [(h0, .inr (1, [.ref q3, .int 0, w1, .int 9])), (bv, .inl (y 0, 16, .inl zk5)), (q3, .inl (y 0, 34, .inl zk6))] := hD
  refine lv_aload_n hx hb dJ5_append_cf1ce_24 rfl (lv_at hl 1 rfl) ?_
  refine lv_aload_n hx hb dJ5_append_cf1ce_25 rfl (lv_at hl 1 rfl) ?_
  refine va_get (D := D) (ci := 1) (v := .int 9) (C := RJ4) (T := TJ4) (N := 4) hx hb hts (by decide +kernel) hown hK hP 0 rfl rfl 3 (by decide) (hts (.fieldLink RJ5 79 "java/lang/AbstractStringBuilder" "count" "I") (by decide +kernel)) (fun _ h9 => h9) rfl dJ5_append_cf1ce_26 ?_
  refine lv_aload_n hx hb dJ5_append_cf1ce_29 rfl (lv_at hl 2 rfl) ?_
  have hPc := hP.sub (ws' := [(h0, .inr (1, [.ref q3, .int 0, w1, .int 9])), (q3, .inl (y 0, 34, .inl zk6))]) [0, 2] rfl
  have hDc := hD.sub (ws' := [(h0, .inr (1, [.ref q3, .int 0, w1, .int 9])), (q3, .inl (y 0, 34, .inl zk6))]) [0, 2] (by decide) rfl
  have hFc := va_free (wc := [(h0, .inr (1, [.ref q3, .int 0, w1, .int 9])), (q3, .inl (y 0, 34, .inl zk6))]) hD hS hA [0, 2] rfl
  refine va_callv (va_runU (As := [.int 9, .ref sx]) (rest := []) ⟨hx, hb, hml, hown, hts⟩ (c_putStr_9_9_34 l D y H.size h0 q3 w1 ((.int 9)) sx tx zk6) (va_cwU 2 hts gv_c_ASBapp_e2_c_putStr_9_9_34_208 rfl rfl rfl rfl (by decide +kernel) ⟨(Nat.le_of_ble_eq_true rfl), (Nat.le_of_ble_eq_true rfl)⟩) (zB.preV hPc hDc hK hN hE hO hT hG hS hFc (fun _ h => nomatch h) (List.forall_mem_cons.mpr ⟨List.mem_of_getElem? (i := 0) rfl, (fun _ h => nomatch h)⟩) (fun _ h => nomatch h) (List.forall_mem_cons.mpr ⟨List.mem_of_getElem? (i := 0) rfl, (fun _ h => nomatch h)⟩) (va_recv hK hPc (ci := 1) (q0 := 0) rfl rfl)) rfl rfl hl.1 rfl (lv_room (Nat.le_of_ble_eq_true rfl)) dJ5_append_cf1ce_30 ⟨(Nat.le_of_ble_eq_true rfl), (Nat.le_of_ble_eq_true rfl)⟩) hS (fun q _ h => hFc q h) hFc (fun u t H1 locs ht hvm hw hB hz1 hk1 hS => ?_)
  obtain ⟨hP1, hD1⟩ := hB
  rw [ht] at hP1
  obtain ⟨hP, hD⟩ := va_join (wr := [(bv, .inl (y 0, 16, .inl zk5))]) (w1 := [(h0, .inr (1, [.ref q3, .int 0, w1, .int 9])), (q3, .inl (y 0, 34, .inl zk21))]) hP hD [0, 2] [1] rfl rfl (by decide) (by decide) hk1 hFc hP1 hD1
  generalize H1 = H at hP hS ⊢
  have hP : va_P D vwCl [(bv, .inl (y 0, 16, .inl zk5)), (h0, .inr (1, [.ref q3, .int 0, w1, .int 9])), (q3, .inl (y 0, 34, .inl zk21))] H := hP
  have hD : va_D A [(bv, .inl (y 0, 16, .inl zk5)), (h0, .inr (1, [.ref q3, .int 0, w1, .int 9])), (q3, .inl (y 0, 34, .inl zk21))] := hD
  refine lv_aload_n hx hb dJ5_append_cf1ce_33 rfl (lv_at hl 1 rfl) ?_
  refine lv_dup hx hb dJ5_append_cf1ce_34 rfl ?_
  refine va_get (D := D) (ci := 1) (v := .int 9) (C := RJ4) (T := TJ4) (N := 4) hx hb hts (by decide +kernel) hown hK hP 1 rfl rfl 3 (by decide) (hts (.fieldLink RJ5 79 "java/lang/AbstractStringBuilder" "count" "I") (by decide +kernel)) (fun _ h9 => h9) rfl dJ5_append_cf1ce_35 ?_
  refine lv_iload_n hx hb dJ5_append_cf1ce_38 rfl (lv_at hl 0 rfl) ?_
  refine lv_iadd hx hb dJ5_append_cf1ce_39 ?_
  refine lv_topi (fun v4 ev4 => ?_)
  have ev4 : v4 = 22 := ev4.trans (by decide +kernel)
  subst ev4
  refine va_put (D := D) (ci := 1) (v := .int 22) (ty := .int) (C := RJ4) (T := TJ4) (N := 4) hx hb hts (by decide +kernel) tyJ4 tyJ4_ok nmJ4 hown hK hP hD hS 1 rfl rfl 3 (by decide) (hts (.fieldLink RJ5 79 "java/lang/AbstractStringBuilder" "count" "I") (by decide +kernel)) (fun _ h9 => h9) rfl (by decide +kernel) rfl rfl (Nat.le_of_ble_eq_true rfl) dJ5_append_cf1ce_40 (fun H locs hP hD hS => ?_)
  have hP : va_P D vwCl [(bv, .inl (y 0, 16, .inl zk5)), (h0, .inr (1, [.ref q3, .int 0, w1, .int 22])), (q3, .inl (y 0, 34, .inl zk21))] H := hP
  have hD : va_D A [(bv, .inl (y 0, 16, .inl zk5)), (h0, .inr (1, [.ref q3, .int 0, w1, .int 22])), (q3, .inl (y 0, 34, .inl zk21))] := hD
  refine lv_aload_n hx hb dJ5_append_cf1ce_43 rfl (lv_at hl 1 rfl) ?_
  have hP9 := hP.sub (ws' := [(h0, .inr (1, [.ref q3, .int 0, w1, .int 22])), (bv, .inl (y 0, 16, .inl zk5)), (q3, .inl (y 0, 34, .inl zk21))]) [1, 0, 2] rfl
  have hD9 := hD.sub (ws' := [(h0, .inr (1, [.ref q3, .int 0, w1, .int 22])), (bv, .inl (y 0, 16, .inl zk5)), (q3, .inl (y 0, 34, .inl zk21))]) [1, 0, 2] (by decide) rfl
  refine W.widen (k := 1) (n := 34) (Nat.le_of_ble_eq_true rfl) (Nat.le_of_ble_eq_true rfl) ?_
  exact W.aret (v := .ref h0) hx hb hr (Or.inl ⟨_, rfl⟩) (Or.inr ⟨_, rfl⟩) (fun t ht hW => ⟨⟨(some h0), (), rfl, rfl, q3, by rw [ht]; exact hP9, hD9⟩, hS.F ht⟩) hS.2.2 dJ5_append_cf1ce_44
def wz_c_SBapp_e2 : List Cond := .code yJ4_append_15ec4 cJ4_append_15ec4 2 (some (.object "java/lang/StringBuilder")) :: ([.methodLink RJ4 29 yJ5_append_cf1ce, .sameMethod RJ5 RJ5 "append" "(Ljava/lang/String;)Ljava/lang/AbstractStringBuilder;", .superclass RJ4 RJ5, .instanceMethod yJ5_append_cf1ce, .initialized RJ5] ++ (wz_c_ASBapp_e2 ++ ([])))
set_option maxRecDepth 100000 in
theorem gz_c_SBapp_e2_c_ASBapp_e2 : GoodIn wz_c_SBapp_e2 wz_c_ASBapp_e2 := goodIn_sub (fun w h => List.mem_cons_of_mem _ (List.mem_append_right _ (List.mem_append_left _ h))) (by decide +kernel)
set_option maxRecDepth 100000 in
theorem gv_c_SBapp_e2_c_ASBapp_e2_29 : GoodIn wz_c_SBapp_e2 (va_wsSU RJ4 29 yJ5_append_cf1ce wz_c_ASBapp_e2) := goodIn_app (goodIn_of _ (by decide +kernel)) gz_c_SBapp_e2_c_ASBapp_e2
set_option maxHeartbeats 4000000 in
set_option maxRecDepth 100000 in
theorem c_SBapp_e2 (l : Launch) (D : va_G) (y : Nat → ClassId) (sz : Nat) (h0 : Nat) (bv : Nat) (w1 : Value) (sx : Nat) (tx : Nat) : Met l yJ4_append_15ec4 wz_c_SBapp_e2 ({ frames := 5, cells := 1, slots := 34, locals := 127 }) (va_Pc [.ref h0, .ref sx] (zB D y [(h0, .inr (1, [.ref bv, .int 0, w1, .int 9])), (bv, .inl (y 0, 16, .inl zk5))] sz [] [("java/lang/String", "COMPACT_STRINGS", "Z", .int 1)] [] [.inr (.inl (sx, tx, 13, zs9))])) (va_Qq (fun (r : Option Nat) (_ : Unit) => r = some h0) (fun _ t => ∃ q2 : Nat, va_P D vwCl [(h0, .inr (1, [.ref q2, .int 0, w1, .int 22])), (bv, .inl (y 0, 16, .inl zk5)), (q2, .inl (y 0, 34, .inl zk21))] t.heap ∧ va_D (va_A [(h0, .inr (1, [.ref bv, .int 0, w1, .int 9])), (bv, .inl (y 0, 16, .inl zk5))] sz) [(h0, .inr (1, [.ref q2, .int 0, w1, .int 22])), (bv, .inl (y 0, 16, .inl zk5)), (q2, .inl (y 0, 34, .inl zk21))]) (va_A [(h0, .inr (1, [.ref bv, .int 0, w1, .int 9])), (bv, .inl (y 0, 16, .inl zk5))] sz)) 1 34 (va_A [(h0, .inr (1, [.ref bv, .int 0, w1, .int 9])), (bv, .inl (y 0, 16, .inl zk5))] sz) := by
  refine Met.ofW (cc := cJ4_append_15ec4) (maxL := 2) (ret := (some (.object "java/lang/StringBuilder"))) (by decide) rfl ?_
  intro p e s m args below meth c s₁ B hml hv
  obtain ⟨rfl, hsz, hP, hK, hD0, hN, hE, hO, hT, hG⟩ := hv
  have hx := B.exec
  have hb := B.bytes
  have hr := B.returns
  have hts := atoms_spec (ws := wz_c_SBapp_e2) B.pre
  have hown : s.vm.findClass RJ4 = some m.cls := findClass_of_methodNamed B.named
  have hlocks := B.notSynchronized
  subst hsz
  have hD := hD0.self (sz := s.heap.size)
  generalize hAe : va_A [(h0, .inr (1, [.ref bv, .int 0, w1, .int 9])), (bv, .inl (y 0, 16, .inl zk5))] s.heap.size = A at hD hE hT hG ⊢
  have hA : ∀ q : Nat, s.heap.size ≤ q → A q := fun q h => by rw [← hAe]; exact Or.inr h
  have hS : va_S A s.heap s.heap [] := va_S.rf
  have hl := lv_entry ([.ref h0, .ref sx]) (n := 2) (Nat.le_of_ble_eq_true rfl)
  rw [lg_entry_eq]
  generalize (lg_sl ([.ref h0, .ref sx]) ++ List.replicate (2 - (lg_sl ([.ref h0, .ref sx])).length) Slot.unset).toArray = ls at hl ⊢
  have hl : lv_has ls 2 [(0, .ref h0), (1, .ref sx)] := hl
  refine lv_aload_n hx hb dJ4_append_15ec4_0 rfl (lv_at hl 0 rfl) ?_
  refine lv_aload_n hx hb dJ4_append_15ec4_1 rfl (lv_at hl 1 rfl) ?_
  have hPc := hP.sub (ws' := [(h0, .inr (1, [.ref bv, .int 0, w1, .int 9])), (bv, .inl (y 0, 16, .inl zk5))]) [0, 1] rfl
  have hDc := hD.sub (ws' := [(h0, .inr (1, [.ref bv, .int 0, w1, .int 9])), (bv, .inl (y 0, 16, .inl zk5))]) [0, 1] (by decide) rfl
  have hFc := va_free (wc := [(h0, .inr (1, [.ref bv, .int 0, w1, .int 9])), (bv, .inl (y 0, 16, .inl zk5))]) hD hS hA [0, 1] rfl
  refine va_callq (va_runSU (hK.1 1 _ rfl).2 (As := [.ref sx]) (rest := []) ⟨hx, hb, hml, hown, hts⟩ (c_ASBapp_e2 l D y s.heap.size h0 bv w1 sx tx) (va_cwSU 1 hts gv_c_SBapp_e2_c_ASBapp_e2_29 rfl rfl rfl (by decide +kernel) ⟨(Nat.le_of_ble_eq_true rfl), (Nat.le_of_ble_eq_true rfl)⟩) (zB.preV hPc hDc hK hN hE hO hT hG hS hFc (fun _ h => nomatch h) (List.forall_mem_cons.mpr ⟨List.mem_of_getElem? (i := 0) rfl, (fun _ h => nomatch h)⟩) (fun _ h => nomatch h) (List.forall_mem_cons.mpr ⟨List.mem_of_getElem? (i := 0) rfl, (fun _ h => nomatch h)⟩) (va_recv hK hPc (ci := 1) (q0 := 0) rfl rfl)) rfl rfl hl.1 rfl (lv_room (Nat.le_of_ble_eq_true rfl)) dJ4_append_15ec4_2 ⟨(Nat.le_of_ble_eq_true rfl), (Nat.le_of_ble_eq_true rfl)⟩) hS (fun q _ h => hFc q h) hFc (fun r1 u t H1 locs ht hvm hw hB hz1 hk1 hS => ?_)
  obtain ⟨q2, hP1, hD1⟩ := hB
  rw [ht] at hP1
  obtain ⟨hP, hD⟩ := va_join (wr := []) (w1 := [(h0, .inr (1, [.ref q2, .int 0, w1, .int 22])), (bv, .inl (y 0, 16, .inl zk5)), (q2, .inl (y 0, 34, .inl zk21))]) hP hD [0, 1] [] rfl rfl (by decide) (by decide) hk1 hFc hP1 hD1
  generalize H1 = H at hP hS ⊢
  have hP : va_P D vwCl [(h0, .inr (1, [.ref q2, .int 0, w1, .int 22])), (bv, .inl (y 0, 16, .inl zk5)), (q2, .inl (y 0, 34, .inl zk21))] H := hP
  have hD : va_D A [(h0, .inr (1, [.ref q2, .int 0, w1, .int 22])), (bv, .inl (y 0, 16, .inl zk5)), (q2, .inl (y 0, 34, .inl zk21))] := hD
  have hw : r1 = some h0 := hw
  subst hw
  refine W.eq (g2 := F0 m 5 ls [.ref h0]) rfl ?_
  refine lv_pop hx hb dJ4_append_15ec4_5 rfl ?_
  refine lv_aload_n hx hb dJ4_append_15ec4_6 rfl (lv_at hl 0 rfl) ?_
  have hP9 := hP.sub (ws' := [(h0, .inr (1, [.ref q2, .int 0, w1, .int 22])), (bv, .inl (y 0, 16, .inl zk5)), (q2, .inl (y 0, 34, .inl zk21))]) [0, 1, 2] rfl
  have hD9 := hD.sub (ws' := [(h0, .inr (1, [.ref q2, .int 0, w1, .int 22])), (bv, .inl (y 0, 16, .inl zk5)), (q2, .inl (y 0, 34, .inl zk21))]) [0, 1, 2] (by decide) rfl
  refine W.widen (k := 1) (n := 34) (Nat.le_of_ble_eq_true rfl) (Nat.le_of_ble_eq_true rfl) ?_
  exact W.aret (v := .ref h0) hx hb hr (Or.inl ⟨_, rfl⟩) (Or.inr ⟨_, rfl⟩) (fun t ht hW => ⟨⟨(some h0), (), rfl, rfl, q2, by rw [ht]; exact hP9, hD9⟩, hS.F ht⟩) hS.2.2 dJ4_append_15ec4_7
def zk22 : Nat → Int32 := va_cpy zs10 zk21 (0 : Int32).toNatClampNeg (22 : Int32).toNatClampNeg (5 : Int32).toNatClampNeg
def zk23 : Nat → Int32 := va_cpy zk22 (fun _ => 0) (0 : Int32).toNatClampNeg (0 : Int32).toNatClampNeg (27 : Int32).toNatClampNeg
def wz_c_cRB_e2 : List Cond := .code yJ7_copyOfRangeByte_39247 cJ7_copyOfRangeByte_39247 5 (some (.array .byte)) :: ([.methodLink RJ7 343 yJ7_checkLength_df160, .static yJ7_checkLength_df160, .initialized RJ7, .arrayClass .byte, .methodLink RJ7 304 Lib.Math.min.name, .static Lib.Math.min.name, .initialized "java/lang/Math", .code Lib.Math.min.name Lib.Math.min.code 2 (some .int), .methodLink RJ7 150 arraycopyName, .native arraycopyName, .static arraycopyName, .initialized "java/lang/System"] ++ (wz_c_chkLen_27 ++ ([])))
set_option maxRecDepth 100000 in
theorem gz_c_cRB_e2_c_chkLen_27 : GoodIn wz_c_cRB_e2 wz_c_chkLen_27 := goodIn_sub (fun w h => List.mem_cons_of_mem _ (List.mem_append_right _ (List.mem_append_left _ h))) (by decide +kernel)
set_option maxRecDepth 100000 in
theorem gv_c_cRB_e2_c_chkLen_27_343 : GoodIn wz_c_cRB_e2 (va_wsS RJ7 343 yJ7_checkLength_df160 wz_c_chkLen_27) := goodIn_app (goodIn_of _ (by decide +kernel)) gz_c_cRB_e2_c_chkLen_27
set_option maxHeartbeats 4000000 in
set_option maxRecDepth 100000 in
theorem c_cRB_e2 (l : Launch) (D : va_G) (y : Nat → ClassId) (sz : Nat) (bv : Nat) : Met l yJ7_copyOfRangeByte_39247 wz_c_cRB_e2 ({ frames := 1, cells := 1, slots := 27, locals := 60 }) (va_Pc [.ref bv, .int 0, .int 27] (zB D y [(bv, .inl (y 0, 34, .inl zk22))] sz [] [] [] [])) (va_Qr (fun _ : Unit => True) (fun _ q2 t => va_P D vwCl [(bv, .inl (y 0, 34, .inl zk22)), (q2, .inl (y 0, 27, .inl zk23))] t.heap ∧ va_D (va_A [(bv, .inl (y 0, 34, .inl zk22))] sz) [(bv, .inl (y 0, 34, .inl zk22)), (q2, .inl (y 0, 27, .inl zk23))]) (va_A [(bv, .inl (y 0, 34, .inl zk22))] sz)) 1 27 (va_A [(bv, .inl (y 0, 34, .inl zk22))] sz) := by
  refine Met.ofW (cc := cJ7_copyOfRangeByte_39247) (maxL := 5) (ret := (some (.array .byte))) (by decide) rfl ?_
  intro p e s m args below meth c s₁ B hml hv
  obtain ⟨rfl, hsz, hP, hK, hD0, hN, hE, hO, hT, hG⟩ := hv
  have hx := B.exec
  have hb := B.bytes
  have hr := B.returns
  have hts := atoms_spec (ws := wz_c_cRB_e2) B.pre
  have hown : s.vm.findClass RJ7 = some m.cls := findClass_of_methodNamed B.named
  have hlocks := B.notSynchronized
  subst hsz
  have hD := hD0.self (sz := s.heap.size)
  generalize hAe : va_A [(bv, .inl (y 0, 34, .inl zk22))] s.heap.size = A at hD hE hT hG ⊢
  have hA : ∀ q : Nat, s.heap.size ≤ q → A q := fun q h => by rw [← hAe]; exact Or.inr h
  have hS : va_S A s.heap s.heap [] := va_S.rf
  have hl := lv_entry ([.ref bv, .int 0, .int 27]) (n := 5) (Nat.le_of_ble_eq_true rfl)
  rw [lg_entry_eq]
  generalize (lg_sl ([.ref bv, .int 0, .int 27]) ++ List.replicate (5 - (lg_sl ([.ref bv, .int 0, .int 27])).length) Slot.unset).toArray = ls at hl ⊢
  have hl : lv_has ls 5 [(0, .ref bv), (1, .int 0), (2, .int 27)] := hl
  refine lv_iload_n hx hb dJ7_copyOfRangeByte_39247_0 rfl (lv_at hl 1 rfl) ?_
  refine lv_iload_n hx hb dJ7_copyOfRangeByte_39247_1 rfl (lv_at hl 2 rfl) ?_
  have hPc := hP.sub (ws' := []) [] rfl
  have hDc := hD.sub (ws' := []) [] (by decide) rfl
  have hFc := va_free (wc := []) hD hS hA [] rfl
  refine va_callv (va_runS (As := [.int 0, .int 27]) (rest := []) ⟨hx, hb, hml, hown, hts⟩ (c_chkLen_27 l D y s.heap.size ) (va_cwS 2 hts gv_c_cRB_e2_c_chkLen_27_343 rfl rfl rfl (by decide +kernel) ⟨(Nat.le_of_ble_eq_true rfl), (Nat.le_of_ble_eq_true rfl)⟩) (zB.preS hPc hDc hK hN hE hO hT hG hS hFc (fun _ h => nomatch h) (fun _ h => nomatch h) (fun _ h => nomatch h) (fun _ h => nomatch h)) rfl rfl hl.1 rfl (lv_room (Nat.le_of_ble_eq_true rfl)) dJ7_copyOfRangeByte_39247_2 ⟨(Nat.le_of_ble_eq_true rfl), (Nat.le_of_ble_eq_true rfl)⟩) hS (fun q _ h => hFc q h) hFc (fun u t H1 locs ht hvm hw hB hz1 hk1 hS => ?_)
  obtain ⟨hP1, hD1⟩ := hB
  rw [ht] at hP1
  obtain ⟨hP, hD⟩ := va_join (wr := [(bv, .inl (y 0, 34, .inl zk22))]) (w1 := []) hP hD [] [0] rfl rfl (by decide) (by decide) hk1 hFc hP1 hD1
  generalize H1 = H at hP hS ⊢
  have hP : va_P D vwCl [(bv, .inl (y 0, 34, .inl zk22))] H := hP
  have hD : va_D A [(bv, .inl (y 0, 34, .inl zk22))] := hD
  refine lv_iload_n hx hb dJ7_copyOfRangeByte_39247_5 rfl (lv_at hl 2 rfl) ?_
  refine lv_iload_n hx hb dJ7_copyOfRangeByte_39247_6 rfl (lv_at hl 1 rfl) ?_
  refine lv_isub hx hb dJ7_copyOfRangeByte_39247_7 ?_
  refine lv_topi (fun v1 ev1 => ?_)
  have ev1 : v1 = 27 := ev1.trans (by decide +kernel)
  subst ev1
  refine lv_istore_n (lv' := [(3, .int 27), (0, .ref bv), (1, .int 0), (2, .int 27)]) hx hb dJ7_copyOfRangeByte_39247_8 rfl hl (by decide) rfl (fun ls hl => ?_)
  refine lv_iload_n hx hb dJ7_copyOfRangeByte_39247_9 rfl (lv_at hl 0 rfl) ?_
  refine zz_newa (atype := .byte) (n := 27) (N' := 27) (a0 := (27, .inl (fun _ => 0))) (ty := .byte) hx hb (hts (.arrayClass .byte) (by decide +kernel)) rfl hK 0 rfl hP hD hS hA (zz_aB 27) (by decide +kernel) (by decide +kernel) (by decide +kernel) (Nat.le_of_ble_eq_true rfl) (Nat.le_of_ble_eq_true rfl) dJ7_copyOfRangeByte_39247_10 (fun q2 H hP hD hS => ?_)
  have hP : va_P D vwCl [(bv, .inl (y 0, 34, .inl zk22)), (q2, .inl (y 0, 27, .inl (fun _ => 0)))] H := hP
  have hD : va_D A [(bv, .inl (y 0, 34, .inl zk22)), (q2, .inl (y 0, 27, .inl (fun _ => 0)))] := hD
  refine lv_astore (lv' := [(4, .ref q2), (3, .int 27), (0, .ref bv), (1, .int 0), (2, .int 27)]) hx hb dJ7_copyOfRangeByte_39247_12 hl (by decide) rfl (fun ls hl => ?_)
  refine lv_aload_n hx hb dJ7_copyOfRangeByte_39247_14 rfl (lv_at hl 2 rfl) ?_
  refine lv_iload_n hx hb dJ7_copyOfRangeByte_39247_15 rfl (lv_at hl 3 rfl) ?_
  refine lv_aload hx hb dJ7_copyOfRangeByte_39247_16 (lv_at hl 0 rfl) ?_
  refine lv_iconst (v := 0) hx hb dJ7_copyOfRangeByte_39247_18 (by decide) ?_
  refine lv_aload_n hx hb dJ7_copyOfRangeByte_39247_19 rfl (lv_at hl 2 rfl) ?_
  refine va_alen (v := 34) hx hb hK hP 0 0 rfl rfl (show Int32.ofNat 34 = (34 : Int32) from by decide) dJ7_copyOfRangeByte_39247_20 ?_
  refine lv_iload_n hx hb dJ7_copyOfRangeByte_39247_21 rfl (lv_at hl 3 rfl) ?_
  refine lv_isub hx hb dJ7_copyOfRangeByte_39247_22 ?_
  refine lv_topi (fun v3 ev3 => ?_)
  have ev3 : v3 = 34 := ev3.trans (by decide +kernel)
  subst ev3
  refine lv_iload_n hx hb dJ7_copyOfRangeByte_39247_23 rfl (lv_at hl 1 rfl) ?_
  refine va_mmin hx hb (hml.trans hl.1.symm) hown (hts (.methodLink RJ7 304 Lib.Math.min.name) (by decide +kernel)) (hts (.static Lib.Math.min.name) (by decide +kernel)) (hts (.initialized "java/lang/Math") (by decide +kernel)) (hts (.code Lib.Math.min.name Lib.Math.min.code 2 (some .int)) (by decide +kernel)) (Nat.le_of_ble_eq_true rfl) (Nat.le_of_ble_eq_true rfl) (Nat.le_of_ble_eq_true rfl) (Nat.le_of_ble_eq_true rfl) dJ7_copyOfRangeByte_39247_24 ?_
  refine lv_topi (fun v4 ev4 => ?_)
  have ev4 : v4 = 27 := ev4.trans (by decide +kernel)
  subst ev4
  refine va_copyi (ty := .byte) (sp := 0) (dp := 0) (n := 27) hx hb (hml.trans hl.1.symm) hown (hts (.methodLink RJ7 150 arraycopyName) (by decide +kernel)) (hts (.native arraycopyName) (by decide +kernel)) (hts (.static arraycopyName) (by decide +kernel)) (hts (.initialized "java/lang/System") (by decide +kernel)) hK hP hD hS 0 1 0 0 rfl rfl rfl rfl rfl (by decide +kernel) (by decide +kernel) (by decide +kernel) (by decide +kernel) (by decide +kernel) (by decide +kernel) (Nat.le_of_ble_eq_true rfl) (Nat.le_of_ble_eq_true rfl) dJ7_copyOfRangeByte_39247_27 (fun H locs hP hD hS => ?_)
  have hP : va_P D vwCl [(bv, .inl (y 0, 34, .inl zk22)), (q2, .inl (y 0, 27, .inl zk23))] H := hP
  have hD : va_D A [(bv, .inl (y 0, 34, .inl zk22)), (q2, .inl (y 0, 27, .inl zk23))] := hD
  refine lv_aload hx hb dJ7_copyOfRangeByte_39247_30 (lv_at hl 0 rfl) ?_
  have hP9 := hP.sub (ws' := [(bv, .inl (y 0, 34, .inl zk22)), (q2, .inl (y 0, 27, .inl zk23))]) [0, 1] rfl
  have hD9 := hD.sub (ws' := [(bv, .inl (y 0, 34, .inl zk22)), (q2, .inl (y 0, 27, .inl zk23))]) [0, 1] (by decide) rfl
  refine W.widen (k := 1) (n := 27) (Nat.le_of_ble_eq_true rfl) (Nat.le_of_ble_eq_true rfl) ?_
  exact W.aret (v := .ref q2) hx hb hr (Or.inr ⟨_, rfl⟩) (Or.inr ⟨_, rfl⟩) (fun t ht hW => ⟨⟨(), q2, rfl, trivial, by rw [ht]; exact hP9, hD9⟩, hS.F ht⟩) hS.2.2 dJ7_copyOfRangeByte_39247_32
def wz_c_cR_e2 : List Cond := .code yJ7_copyOfRange_39247 cJ7_copyOfRange_39247 3 (some (.array .byte)) :: ([.methodLink RJ7 339 yJ7_copyOfRangeByte_39247, .static yJ7_copyOfRangeByte_39247, .initialized RJ7] ++ (wz_c_cRB_e2 ++ ([])))
set_option maxRecDepth 100000 in
theorem gz_c_cR_e2_c_cRB_e2 : GoodIn wz_c_cR_e2 wz_c_cRB_e2 := goodIn_sub (fun w h => List.mem_cons_of_mem _ (List.mem_append_right _ (List.mem_append_left _ h))) (by decide +kernel)
set_option maxRecDepth 100000 in
theorem gv_c_cR_e2_c_cRB_e2_339 : GoodIn wz_c_cR_e2 (va_wsS RJ7 339 yJ7_copyOfRangeByte_39247 wz_c_cRB_e2) := goodIn_app (goodIn_of _ (by decide +kernel)) gz_c_cR_e2_c_cRB_e2
set_option maxHeartbeats 4000000 in
set_option maxRecDepth 100000 in
theorem c_cR_e2 (l : Launch) (D : va_G) (y : Nat → ClassId) (sz : Nat) (bv : Nat) : Met l yJ7_copyOfRange_39247 wz_c_cR_e2 ({ frames := 2, cells := 1, slots := 27, locals := 84 }) (va_Pc [.ref bv, .int 0, .int 27] (zB D y [(bv, .inl (y 0, 34, .inl zk22))] sz [] [] [] [])) (va_Qr (fun _ : Unit => True) (fun _ r1 t => va_P D vwCl [(bv, .inl (y 0, 34, .inl zk22)), (r1, .inl (y 0, 27, .inl zk23))] t.heap ∧ va_D (va_A [(bv, .inl (y 0, 34, .inl zk22))] sz) [(bv, .inl (y 0, 34, .inl zk22)), (r1, .inl (y 0, 27, .inl zk23))]) (va_A [(bv, .inl (y 0, 34, .inl zk22))] sz)) 1 27 (va_A [(bv, .inl (y 0, 34, .inl zk22))] sz) := by
  refine Met.ofW (cc := cJ7_copyOfRange_39247) (maxL := 3) (ret := (some (.array .byte))) (by decide) rfl ?_
  intro p e s m args below meth c s₁ B hml hv
  obtain ⟨rfl, hsz, hP, hK, hD0, hN, hE, hO, hT, hG⟩ := hv
  have hx := B.exec
  have hb := B.bytes
  have hr := B.returns
  have hts := atoms_spec (ws := wz_c_cR_e2) B.pre
  have hown : s.vm.findClass RJ7 = some m.cls := findClass_of_methodNamed B.named
  have hlocks := B.notSynchronized
  subst hsz
  have hD := hD0.self (sz := s.heap.size)
  generalize hAe : va_A [(bv, .inl (y 0, 34, .inl zk22))] s.heap.size = A at hD hE hT hG ⊢
  have hA : ∀ q : Nat, s.heap.size ≤ q → A q := fun q h => by rw [← hAe]; exact Or.inr h
  have hS : va_S A s.heap s.heap [] := va_S.rf
  have hl := lv_entry ([.ref bv, .int 0, .int 27]) (n := 3) (Nat.le_of_ble_eq_true rfl)
  rw [lg_entry_eq]
  generalize (lg_sl ([.ref bv, .int 0, .int 27]) ++ List.replicate (3 - (lg_sl ([.ref bv, .int 0, .int 27])).length) Slot.unset).toArray = ls at hl ⊢
  have hl : lv_has ls 3 [(0, .ref bv), (1, .int 0), (2, .int 27)] := hl
  refine lv_iload_n hx hb dJ7_copyOfRange_39247_0 rfl (lv_at hl 1 rfl) ?_
  refine lv_if_ne (tgt := 10) hx hb dJ7_copyOfRange_39247_1 (by decide) (fun c9 => absurd (by decide) c9) (fun _ => ?_)
  refine lv_iload_n hx hb dJ7_copyOfRange_39247_4 rfl (lv_at hl 2 rfl) ?_
  refine lv_aload_n hx hb dJ7_copyOfRange_39247_5 rfl (lv_at hl 0 rfl) ?_
  refine va_alen (v := 34) hx hb hK hP 0 0 rfl rfl (show Int32.ofNat 34 = (34 : Int32) from by decide) dJ7_copyOfRange_39247_6 ?_
  refine lv_icmp_eq (tgt := 17) hx hb dJ7_copyOfRange_39247_7 (by decide) (fun c9 => absurd c9 (by decide)) (fun _ => ?_)
  refine lv_aload_n hx hb dJ7_copyOfRange_39247_10 rfl (lv_at hl 0 rfl) ?_
  refine lv_iload_n hx hb dJ7_copyOfRange_39247_11 rfl (lv_at hl 1 rfl) ?_
  refine lv_iload_n hx hb dJ7_copyOfRange_39247_12 rfl (lv_at hl 2 rfl) ?_
  have hPc := hP.sub (ws' := [(bv, .inl (y 0, 34, .inl zk22))]) [0] rfl
  have hDc := hD.sub (ws' := [(bv, .inl (y 0, 34, .inl zk22))]) [0] (by decide) rfl
  have hFc := va_free (wc := [(bv, .inl (y 0, 34, .inl zk22))]) hD hS hA [0] rfl
  refine va_callr (va_runS (As := [.ref bv, .int 0, .int 27]) (rest := []) ⟨hx, hb, hml, hown, hts⟩ (c_cRB_e2 l D y s.heap.size bv) (va_cwS 3 hts gv_c_cR_e2_c_cRB_e2_339 rfl rfl rfl (by decide +kernel) ⟨(Nat.le_of_ble_eq_true rfl), (Nat.le_of_ble_eq_true rfl)⟩) (zB.preS hPc hDc hK hN hE hO hT hG hS hFc (fun _ h => nomatch h) (fun _ h => nomatch h) (fun _ h => nomatch h) (fun _ h => nomatch h)) rfl rfl hl.1 rfl (lv_room (Nat.le_of_ble_eq_true rfl)) dJ7_copyOfRange_39247_13 ⟨(Nat.le_of_ble_eq_true rfl), (Nat.le_of_ble_eq_true rfl)⟩) hS (fun q _ h => hFc q h) hFc (fun u r1 t H1 locs ht hvm hw hB hz1 hk1 hS => ?_)
  obtain ⟨hP1, hD1⟩ := hB
  rw [ht] at hP1
  obtain ⟨hP, hD⟩ := va_join (wr := []) (w1 := [(bv, .inl (y 0, 34, .inl zk22)), (r1, .inl (y 0, 27, .inl zk23))]) hP hD [0] [] rfl rfl (by decide) (by decide) hk1 hFc hP1 hD1
  generalize H1 = H at hP hS ⊢
  have hP : va_P D vwCl [(bv, .inl (y 0, 34, .inl zk22)), (r1, .inl (y 0, 27, .inl zk23))] H := hP
  have hD : va_D A [(bv, .inl (y 0, 34, .inl zk22)), (r1, .inl (y 0, 27, .inl zk23))] := hD
  have hP9 := hP.sub (ws' := [(bv, .inl (y 0, 34, .inl zk22)), (r1, .inl (y 0, 27, .inl zk23))]) [0, 1] rfl
  have hD9 := hD.sub (ws' := [(bv, .inl (y 0, 34, .inl zk22)), (r1, .inl (y 0, 27, .inl zk23))]) [0, 1] (by decide) rfl
  refine W.widen (k := 1) (n := 27) (Nat.le_of_ble_eq_true rfl) (Nat.le_of_ble_eq_true rfl) ?_
  exact W.aret (v := .ref r1) hx hb hr (Or.inr ⟨_, rfl⟩) (Or.inr ⟨_, rfl⟩) (fun t ht hW => ⟨⟨(), r1, rfl, trivial, by rw [ht]; exact hP9, hD9⟩, hS.F ht⟩) hS.2.2 dJ7_copyOfRange_39247_16
def wz_c_Si1_e2 : List Cond := .code yJ0_init_db425 cJ0_init_db425 5 none :: ([.methodLink RJ0 1 objectInit, .instanceMethod objectInit, .code objectInit ⟨#[0xb1]⟩ 1 none, .methodLink RJ0 552 ⟨"java/lang/AbstractStringBuilder", "getValue", "()[B"⟩, .sameMethod "java/lang/AbstractStringBuilder" "java/lang/AbstractStringBuilder" "getValue" "()[B", .selects RJ4 ⟨"java/lang/AbstractStringBuilder", "getValue", "()[B"⟩ yJ5_getValue_6d5f1, .instanceMethod yJ5_getValue_6d5f1, .initialized RJ5, .methodLink RJ0 549 ⟨"java/lang/AbstractStringBuilder", "length", "()I"⟩, .sameMethod RJ5 RJ5 "length" "()I", .instanceMethod yJ5_length_8abf5, .selects RJ4 ⟨"java/lang/AbstractStringBuilder", "length", "()I"⟩ yJ4_length_8abf5, .instanceMethod yJ4_length_8abf5, .initialized RJ4, .code yJ5_length_8abf5 cJ5_length_8abf5 1 (some .int), .methodLink RJ0 1047 ⟨"java/lang/AbstractStringBuilder", "isLatin1", "()Z"⟩, .sameMethod "java/lang/AbstractStringBuilder" "java/lang/AbstractStringBuilder" "isLatin1" "()Z", .selects RJ4 ⟨"java/lang/AbstractStringBuilder", "isLatin1", "()Z"⟩ yJ5_isLatin1_aae02, .instanceMethod yJ5_isLatin1_aae02, .fieldLink RJ0 15 "java/lang/String" "coder" "B", .methodLink RJ0 54 yJ7_copyOfRange_39247, .static yJ7_copyOfRange_39247, .initialized RJ7, .fieldLink RJ0 9 "java/lang/String" "value" "[B"] ++ (wsJ00 ++ (wz_c_getValue ++ (wz_c_SB_length ++ (wz_c_ASB_isLatin1 ++ (wz_c_cR_e2 ++ ([])))))))
set_option maxRecDepth 100000 in
theorem gz_c_Si1_e2_c_getValue : GoodIn wz_c_Si1_e2 wz_c_getValue := goodIn_sub (fun w h => List.mem_cons_of_mem _ (List.mem_append_right _ (List.mem_append_right _ (List.mem_append_left _ h)))) (by decide +kernel)
set_option maxRecDepth 100000 in
theorem gz_c_Si1_e2_c_SB_length : GoodIn wz_c_Si1_e2 wz_c_SB_length := goodIn_sub (fun w h => List.mem_cons_of_mem _ (List.mem_append_right _ (List.mem_append_right _ (List.mem_append_right _ (List.mem_append_left _ h))))) (by decide +kernel)
set_option maxRecDepth 100000 in
theorem gz_c_Si1_e2_c_ASB_isLatin1 : GoodIn wz_c_Si1_e2 wz_c_ASB_isLatin1 := goodIn_sub (fun w h => List.mem_cons_of_mem _ (List.mem_append_right _ (List.mem_append_right _ (List.mem_append_right _ (List.mem_append_right _ (List.mem_append_left _ h)))))) (by decide +kernel)
set_option maxRecDepth 100000 in
theorem gz_c_Si1_e2_c_cR_e2 : GoodIn wz_c_Si1_e2 wz_c_cR_e2 := goodIn_sub (fun w h => List.mem_cons_of_mem _ (List.mem_append_right _ (List.mem_append_right _ (List.mem_append_right _ (List.mem_append_right _ (List.mem_append_right _ (List.mem_append_left _ h))))))) (by decide +kernel)
set_option maxRecDepth 100000 in
theorem gv_c_Si1_e2_c_getValue_552 : GoodIn wz_c_Si1_e2 (va_wsU RJ0 552 RJ4 "java/lang/AbstractStringBuilder" ⟨"java/lang/AbstractStringBuilder", "getValue", "()[B"⟩ yJ5_getValue_6d5f1 wz_c_getValue) := goodIn_app (goodIn_of _ (by decide +kernel)) gz_c_Si1_e2_c_getValue
set_option maxRecDepth 100000 in
theorem gv_c_Si1_e2_c_SB_length_549 : GoodIn wz_c_Si1_e2 (va_wsO RJ0 549 RJ4 RJ5 ⟨"java/lang/AbstractStringBuilder", "length", "()I"⟩ yJ4_length_8abf5 wz_c_SB_length) := goodIn_app (goodIn_of _ (by decide +kernel)) gz_c_Si1_e2_c_SB_length
set_option maxRecDepth 100000 in
theorem gv_c_Si1_e2_c_ASB_isLatin1_1047 : GoodIn wz_c_Si1_e2 (va_wsU RJ0 1047 RJ4 "java/lang/AbstractStringBuilder" ⟨"java/lang/AbstractStringBuilder", "isLatin1", "()Z"⟩ yJ5_isLatin1_aae02 wz_c_ASB_isLatin1) := goodIn_app (goodIn_of _ (by decide +kernel)) gz_c_Si1_e2_c_ASB_isLatin1
set_option maxRecDepth 100000 in
theorem gv_c_Si1_e2_c_cR_e2_54 : GoodIn wz_c_Si1_e2 (va_wsS RJ0 54 yJ7_copyOfRange_39247 wz_c_cR_e2) := goodIn_app (goodIn_of _ (by decide +kernel)) gz_c_Si1_e2_c_cR_e2
set_option maxHeartbeats 4000000 in
set_option maxRecDepth 100000 in
theorem c_Si1_e2 (l : Launch) (D : va_G) (y : Nat → ClassId) (sz : Nat) (h0 : Nat) (sb : Nat) (bv : Nat) (w1 : Value) : Met l yJ0_init_db425 wz_c_Si1_e2 ({ frames := 3, cells := 1, slots := 27, locals := 106 }) (va_Pc [.ref h0, .ref sb, .null] (zB D y [(h0, .inr (0, [.null, .int 0, .int 0, .int 0])), (sb, .inr (1, [.ref bv, .int 0, w1, .int 27])), (bv, .inl (y 0, 34, .inl zk22))] sz [] [("java/lang/String", "COMPACT_STRINGS", "Z", .int 1)] [] [])) (va_Qv (fun _ : Unit => True) (fun _ t => ∃ r4 : Nat, va_P D vwCl [(h0, .inr (0, [.ref r4, .int 0, .int 0, .int 0])), (sb, .inr (1, [.ref bv, .int 0, w1, .int 27])), (bv, .inl (y 0, 34, .inl zk22)), (r4, .inl (y 0, 27, .inl zk23))] t.heap ∧ va_D (va_A [(h0, .inr (0, [.null, .int 0, .int 0, .int 0])), (sb, .inr (1, [.ref bv, .int 0, w1, .int 27])), (bv, .inl (y 0, 34, .inl zk22))] sz) [(h0, .inr (0, [.ref r4, .int 0, .int 0, .int 0])), (sb, .inr (1, [.ref bv, .int 0, w1, .int 27])), (bv, .inl (y 0, 34, .inl zk22)), (r4, .inl (y 0, 27, .inl zk23))]) (va_A [(h0, .inr (0, [.null, .int 0, .int 0, .int 0])), (sb, .inr (1, [.ref bv, .int 0, w1, .int 27])), (bv, .inl (y 0, 34, .inl zk22))] sz)) 1 27 (va_A [(h0, .inr (0, [.null, .int 0, .int 0, .int 0])), (sb, .inr (1, [.ref bv, .int 0, w1, .int 27])), (bv, .inl (y 0, 34, .inl zk22))] sz) := by
  refine Met.ofW (cc := cJ0_init_db425) (maxL := 5) (ret := none) (by decide) rfl ?_
  intro p e s m args below meth c s₁ B hml hv
  obtain ⟨rfl, hsz, hP, hK, hD0, hN, hE, hO, hT, hG⟩ := hv
  have hx := B.exec
  have hb := B.bytes
  have hr := B.returns
  have hts := atoms_spec (ws := wz_c_Si1_e2) B.pre
  have hown : s.vm.findClass RJ0 = some m.cls := findClass_of_methodNamed B.named
  have hlocks := B.notSynchronized
  have hin : meth.name = "<init>" := (name_of_methodNamed B.named B.method).1
  subst hsz
  have hD := hD0.self (sz := s.heap.size)
  generalize hAe : va_A [(h0, .inr (0, [.null, .int 0, .int 0, .int 0])), (sb, .inr (1, [.ref bv, .int 0, w1, .int 27])), (bv, .inl (y 0, 34, .inl zk22))] s.heap.size = A at hD hE hT hG ⊢
  have hA : ∀ q : Nat, s.heap.size ≤ q → A q := fun q h => by rw [← hAe]; exact Or.inr h
  have hS : va_S A s.heap s.heap [] := va_S.rf
  have hl := lv_entry ([.ref h0, .ref sb, .null]) (n := 5) (Nat.le_of_ble_eq_true rfl)
  rw [lg_entry_eq]
  generalize (lg_sl ([.ref h0, .ref sb, .null]) ++ List.replicate (5 - (lg_sl ([.ref h0, .ref sb, .null])).length) Slot.unset).toArray = ls at hl ⊢
  have hl : lv_has ls 5 [(0, .ref h0), (1, .ref sb), (2, .null)] := hl
  refine lv_aload_n hx hb dJ0_init_db425_0 rfl (lv_at hl 0 rfl) ?_
  refine W.objInit hx hb hown (hts (.methodLink RJ0 1 objectInit) (by decide +kernel)) (hts (.instanceMethod objectInit) (by decide +kernel)) (hts (.code objectInit ⟨#[0xb1]⟩ 1 none) (by decide +kernel)) rfl (by rw [hml]; exact hl.1) rfl dJ0_init_db425_1 (Nat.le_of_ble_eq_true rfl) (Nat.le_of_ble_eq_true rfl) ?_
  refine W.eq (g2 := F0 m 4 ls []) rfl ?_
  refine lv_aload_n hx hb dJ0_init_db425_4 rfl (lv_at hl 1 rfl) ?_
  have hPc := hP.sub (ws' := [(sb, .inr (1, [.ref bv, .int 0, w1, .int 27]))]) [1] rfl
  have hDc := hD.sub (ws' := [(sb, .inr (1, [.ref bv, .int 0, w1, .int 27]))]) [1] (by decide) rfl
  have hFc := va_free (wc := [(sb, .inr (1, [.ref bv, .int 0, w1, .int 27]))]) hD hS hA [1] rfl
  refine va_callq (va_runU (As := []) (rest := []) ⟨hx, hb, hml, hown, hts⟩ (c_getValue l D y s.heap.size sb bv ((.int 0)) w1 ((.int 27))) (va_cwU 0 hts gv_c_Si1_e2_c_getValue_552 rfl rfl rfl rfl (by decide +kernel) ⟨(Nat.le_of_ble_eq_true rfl), (Nat.le_of_ble_eq_true rfl)⟩) (zB.preV hPc hDc hK hN hE hO hT hG hS hFc (fun _ h => nomatch h) (fun _ h => nomatch h) (fun _ h => nomatch h) (fun _ h => nomatch h) (va_recv hK hPc (ci := 1) (q0 := 0) rfl rfl)) rfl rfl hl.1 rfl (lv_room (Nat.le_of_ble_eq_true rfl)) dJ0_init_db425_5 ⟨(Nat.le_of_ble_eq_true rfl), (Nat.le_of_ble_eq_true rfl)⟩) hS (fun q _ h => hFc q h) hFc (fun r1 u t H1 locs ht hvm hw hB hz1 hk1 hS => ?_)
  obtain ⟨hP1, hD1⟩ := hB
  rw [ht] at hP1
  obtain ⟨hP, hD⟩ := va_join (wr := [(h0, .inr (0, [.null, .int 0, .int 0, .int 0])), (bv, .inl (y 0, 34, .inl zk22))]) (w1 := [(sb, .inr (1, [.ref bv, .int 0, w1, .int 27]))]) hP hD [1] [0, 2] rfl rfl (by decide) (by decide) hk1 hFc hP1 hD1
  generalize H1 = H at hP hS ⊢
  have hP : va_P D vwCl [(h0, .inr (0, [.null, .int 0, .int 0, .int 0])), (bv, .inl (y 0, 34, .inl zk22)), (sb, .inr (1, [.ref bv, .int 0, w1, .int 27]))] H := hP
  have hD : va_D A [(h0, .inr (0, [.null, .int 0, .int 0, .int 0])), (bv, .inl (y 0, 34, .inl zk22)), (sb, .inr (1, [.ref bv, .int 0, w1, .int 27]))] := hD
  have hw : r1 = some bv := hw
  subst hw
  refine W.eq (g2 := F0 m 8 ls [.ref bv]) rfl ?_
  refine lv_astore_n (lv' := [(3, .ref bv), (0, .ref h0), (1, .ref sb), (2, .null)]) hx hb dJ0_init_db425_8 rfl hl (by decide) rfl (fun ls hl => ?_)
  refine lv_aload_n hx hb dJ0_init_db425_9 rfl (lv_at hl 2 rfl) ?_
  have hPc := hP.sub (ws' := [(sb, .inr (1, [.ref bv, .int 0, w1, .int 27]))]) [2] rfl
  have hDc := hD.sub (ws' := [(sb, .inr (1, [.ref bv, .int 0, w1, .int 27]))]) [2] (by decide) rfl
  have hFc := va_free (wc := [(sb, .inr (1, [.ref bv, .int 0, w1, .int 27]))]) hD hS hA [2] rfl
  refine va_calli (va_runU (As := []) (rest := []) ⟨hx, hb, hml, hown, hts⟩ (c_SB_length l D y H.size sb ((.ref bv)) ((.int 0)) w1 27) (va_cwO 0 hts gv_c_Si1_e2_c_SB_length_549 rfl rfl rfl (b0 := cJ5_length_8abf5) (m0 := 1) (r0 := (some .int)) (by decide +kernel) (by decide +kernel) ⟨(Nat.le_of_ble_eq_true rfl), (Nat.le_of_ble_eq_true rfl)⟩) (zB.preV hPc hDc hK hN hE hO hT hG hS hFc (fun _ h => nomatch h) (fun _ h => nomatch h) (fun _ h => nomatch h) (fun _ h => nomatch h) (va_recv hK hPc (ci := 1) (q0 := 0) rfl rfl)) rfl rfl hl.1 rfl (lv_room (Nat.le_of_ble_eq_true rfl)) dJ0_init_db425_10 ⟨(Nat.le_of_ble_eq_true rfl), (Nat.le_of_ble_eq_true rfl)⟩) hS (fun q _ h => hFc q h) hFc (fun r2 u t H1 locs ht hvm hw hB hz1 hk1 hS => ?_)
  obtain ⟨hP1, hD1⟩ := hB
  rw [ht] at hP1
  obtain ⟨hP, hD⟩ := va_join (wr := [(h0, .inr (0, [.null, .int 0, .int 0, .int 0])), (bv, .inl (y 0, 34, .inl zk22))]) (w1 := [(sb, .inr (1, [.ref bv, .int 0, w1, .int 27]))]) hP hD [2] [0, 1] rfl rfl (by decide) (by decide) hk1 hFc hP1 hD1
  generalize H1 = H at hP hS ⊢
  have hP : va_P D vwCl [(h0, .inr (0, [.null, .int 0, .int 0, .int 0])), (bv, .inl (y 0, 34, .inl zk22)), (sb, .inr (1, [.ref bv, .int 0, w1, .int 27]))] H := hP
  have hD : va_D A [(h0, .inr (0, [.null, .int 0, .int 0, .int 0])), (bv, .inl (y 0, 34, .inl zk22)), (sb, .inr (1, [.ref bv, .int 0, w1, .int 27]))] := hD
  have hw : r2 = 27 := hw
  subst hw
  refine lv_istore (lv' := [(4, .int 27), (3, .ref bv), (0, .ref h0), (1, .ref sb), (2, .null)]) hx hb dJ0_init_db425_13 hl (by decide) rfl (fun ls hl => ?_)
  refine lv_aload_n hx hb dJ0_init_db425_15 rfl (lv_at hl 3 rfl) ?_
  have hPc := hP.sub (ws' := [(sb, .inr (1, [.ref bv, .int 0, w1, .int 27]))]) [2] rfl
  have hDc := hD.sub (ws' := [(sb, .inr (1, [.ref bv, .int 0, w1, .int 27]))]) [2] (by decide) rfl
  have hFc := va_free (wc := [(sb, .inr (1, [.ref bv, .int 0, w1, .int 27]))]) hD hS hA [2] rfl
  refine va_calli (va_runU (As := []) (rest := []) ⟨hx, hb, hml, hown, hts⟩ (c_ASB_isLatin1 l D y H.size sb ((.ref bv)) w1 ((.int 27))) (va_cwU 0 hts gv_c_Si1_e2_c_ASB_isLatin1_1047 rfl rfl rfl rfl (by decide +kernel) ⟨(Nat.le_of_ble_eq_true rfl), (Nat.le_of_ble_eq_true rfl)⟩) (zB.preV hPc hDc hK hN hE hO hT hG hS hFc (fun _ h => nomatch h) (List.forall_mem_cons.mpr ⟨List.mem_of_getElem? (i := 0) rfl, (fun _ h => nomatch h)⟩) (fun _ h => nomatch h) (fun _ h => nomatch h) (va_recv hK hPc (ci := 1) (q0 := 0) rfl rfl)) rfl rfl hl.1 rfl (lv_room (Nat.le_of_ble_eq_true rfl)) dJ0_init_db425_16 ⟨(Nat.le_of_ble_eq_true rfl), (Nat.le_of_ble_eq_true rfl)⟩) hS (fun q _ h => hFc q h) hFc (fun r3 u t H1 locs ht hvm hw hB hz1 hk1 hS => ?_)
  obtain ⟨hP1, hD1⟩ := hB
  rw [ht] at hP1
  obtain ⟨hP, hD⟩ := va_join (wr := [(h0, .inr (0, [.null, .int 0, .int 0, .int 0])), (bv, .inl (y 0, 34, .inl zk22))]) (w1 := [(sb, .inr (1, [.ref bv, .int 0, w1, .int 27]))]) hP hD [2] [0, 1] rfl rfl (by decide) (by decide) hk1 hFc hP1 hD1
  generalize H1 = H at hP hS ⊢
  have hP : va_P D vwCl [(h0, .inr (0, [.null, .int 0, .int 0, .int 0])), (bv, .inl (y 0, 34, .inl zk22)), (sb, .inr (1, [.ref bv, .int 0, w1, .int 27]))] H := hP
  have hD : va_D A [(h0, .inr (0, [.null, .int 0, .int 0, .int 0])), (bv, .inl (y 0, 34, .inl zk22)), (sb, .inr (1, [.ref bv, .int 0, w1, .int 27]))] := hD
  have hw : r3 = 1 := hw
  subst hw
  refine lv_if_eq (tgt := 41) hx hb dJ0_init_db425_19 (by decide) (fun c9 => absurd c9 (by decide)) (fun _ => ?_)
  refine lv_aload_n hx hb dJ0_init_db425_22 rfl (lv_at hl 2 rfl) ?_
  refine lv_iconst (v := 0) hx hb dJ0_init_db425_23 (by decide) ?_
  refine va_putF (D := D) (ci := 0) (v := .int 0) (ty := .byte) (C := RJ0) (T := TJ0) (N := 4) hx hb hts (by decide +kernel) tyJ0 tyJ0_ok nmJ0 hown hK hP hD hS 0 rfl rfl 1 (by decide) (hts (.fieldLink RJ0 15 "java/lang/String" "coder" "B") (by decide +kernel)) (fun _ h9 => h9) rfl hin rfl (by decide +kernel) rfl rfl (Nat.le_of_ble_eq_true rfl) dJ0_init_db425_24 (fun H locs hP hD hS => ?_)
  have hP : va_P D vwCl [(h0, .inr (0, [.null, .int 0, .int 0, .int 0])), (bv, .inl (y 0, 34, .inl zk22)), (sb, .inr (1, [.ref bv, .int 0, w1, .int 27]))] H := hP
  have hD : va_D A [(h0, .inr (0, [.null, .int 0, .int 0, .int 0])), (bv, .inl (y 0, 34, .inl zk22)), (sb, .inr (1, [.ref bv, .int 0, w1, .int 27]))] := hD
  refine lv_aload_n hx hb dJ0_init_db425_27 rfl (lv_at hl 2 rfl) ?_
  refine lv_aload_n hx hb dJ0_init_db425_28 rfl (lv_at hl 1 rfl) ?_
  refine lv_iconst (v := 0) hx hb dJ0_init_db425_29 (by decide) ?_
  refine lv_iload hx hb dJ0_init_db425_30 (lv_at hl 0 rfl) ?_
  have hPc := hP.sub (ws' := [(bv, .inl (y 0, 34, .inl zk22))]) [1] rfl
  have hDc := hD.sub (ws' := [(bv, .inl (y 0, 34, .inl zk22))]) [1] (by decide) rfl
  have hFc := va_free (wc := [(bv, .inl (y 0, 34, .inl zk22))]) hD hS hA [1] rfl
  refine va_callr (va_runS (As := [.ref bv, .int 0, .int 27]) (rest := [.ref h0]) ⟨hx, hb, hml, hown, hts⟩ (c_cR_e2 l D y H.size bv) (va_cwS 3 hts gv_c_Si1_e2_c_cR_e2_54 rfl rfl rfl (by decide +kernel) ⟨(Nat.le_of_ble_eq_true rfl), (Nat.le_of_ble_eq_true rfl)⟩) (zB.preS hPc hDc hK hN hE hO hT hG hS hFc (fun _ h => nomatch h) (fun _ h => nomatch h) (fun _ h => nomatch h) (fun _ h => nomatch h)) rfl rfl hl.1 rfl (lv_room (Nat.le_of_ble_eq_true rfl)) dJ0_init_db425_32 ⟨(Nat.le_of_ble_eq_true rfl), (Nat.le_of_ble_eq_true rfl)⟩) hS (fun q _ h => hFc q h) hFc (fun u r4 t H1 locs ht hvm hw hB hz1 hk1 hS => ?_)
  obtain ⟨hP1, hD1⟩ := hB
  rw [ht] at hP1
  obtain ⟨hP, hD⟩ := va_join (wr := [(h0, .inr (0, [.null, .int 0, .int 0, .int 0])), (sb, .inr (1, [.ref bv, .int 0, w1, .int 27]))]) (w1 := [(bv, .inl (y 0, 34, .inl zk22)), (r4, .inl (y 0, 27, .inl zk23))]) hP hD [1] [0, 2] rfl rfl (by decide) (by decide) hk1 hFc hP1 hD1
  generalize H1 = H at hP hS ⊢
  have hP : va_P D vwCl [(h0, .inr (0, [.null, .int 0, .int 0, .int 0])), (sb, .inr (1, [.ref bv, .int 0, w1, .int 27])), (bv, .inl (y 0, 34, .inl zk22)), (r4, .inl (y 0, 27, .inl zk23))] H := hP
  have hD : va_D A [(h0, .inr (0, [.null, .int 0, .int 0, .int 0])), (sb, .inr (1, [.ref bv, .int 0, w1, .int 27])), (bv, .inl (y 0, 34, .inl zk22)), (r4, .inl (y 0, 27, .inl zk23))] := hD
  refine va_putF (D := D) (ci := 0) (v := .ref r4) (ty := (.array .byte)) (C := RJ0) (T := TJ0) (N := 4) hx hb hts (by decide +kernel) tyJ0 tyJ0_ok nmJ0 hown hK hP hD hS 0 rfl rfl 0 (by decide) (hts (.fieldLink RJ0 9 "java/lang/String" "value" "[B") (by decide +kernel)) (fun _ h9 => h9) rfl hin rfl (by decide +kernel) rfl rfl (Nat.le_of_ble_eq_true rfl) dJ0_init_db425_35 (fun H locs hP hD hS => ?_)
  have hP : va_P D vwCl [(h0, .inr (0, [.ref r4, .int 0, .int 0, .int 0])), (sb, .inr (1, [.ref bv, .int 0, w1, .int 27])), (bv, .inl (y 0, 34, .inl zk22)), (r4, .inl (y 0, 27, .inl zk23))] H := hP
  have hD : va_D A [(h0, .inr (0, [.ref r4, .int 0, .int 0, .int 0])), (sb, .inr (1, [.ref bv, .int 0, w1, .int 27])), (bv, .inl (y 0, 34, .inl zk22)), (r4, .inl (y 0, 27, .inl zk23))] := hD
  refine lv_goto (tgt := 97) hx hb dJ0_init_db425_38 (by decide) ?_
  have hP9 := hP.sub (ws' := [(h0, .inr (0, [.ref r4, .int 0, .int 0, .int 0])), (sb, .inr (1, [.ref bv, .int 0, w1, .int 27])), (bv, .inl (y 0, 34, .inl zk22)), (r4, .inl (y 0, 27, .inl zk23))]) [0, 1, 2, 3] rfl
  have hD9 := hD.sub (ws' := [(h0, .inr (0, [.ref r4, .int 0, .int 0, .int 0])), (sb, .inr (1, [.ref bv, .int 0, w1, .int 27])), (bv, .inl (y 0, 34, .inl zk22)), (r4, .inl (y 0, 27, .inl zk23))]) [0, 1, 2, 3] (by decide) rfl
  refine W.widen (k := 1) (n := 27) (Nat.le_of_ble_eq_true rfl) (Nat.le_of_ble_eq_true rfl) ?_
  exact W.vret hx hb hr (fun t ht hW => ⟨⟨(), rfl, trivial, r4, by rw [ht]; exact hP9, hD9⟩, hS.F ht⟩) hS.2.2 dJ0_init_db425_97
def wz_c_Si2_e2 : List Cond := .code yJ0_init_81219 cJ0_init_81219 2 none :: ([.initialized RJ0, .methodLink RJ0 489 yJ0_init_db425, .instanceMethod yJ0_init_db425] ++ (wz_c_Si1_e2 ++ ([])))
set_option maxRecDepth 100000 in
theorem gz_c_Si2_e2_c_Si1_e2 : GoodIn wz_c_Si2_e2 wz_c_Si1_e2 := goodIn_sub (fun w h => List.mem_cons_of_mem _ (List.mem_append_right _ (List.mem_append_left _ h))) (by decide +kernel)
set_option maxHeartbeats 4000000 in
set_option maxRecDepth 100000 in
theorem c_Si2_e2 (l : Launch) (D : va_G) (y : Nat → ClassId) (sz : Nat) (h0 : Nat) (sb : Nat) (bv : Nat) (w1 : Value) : Met l yJ0_init_81219 wz_c_Si2_e2 ({ frames := 4, cells := 1, slots := 27, locals := 130 }) (va_Pc [.ref h0, .ref sb] (zB D y [(h0, .inr (0, [.null, .int 0, .int 0, .int 0])), (sb, .inr (1, [.ref bv, .int 0, w1, .int 27])), (bv, .inl (y 0, 34, .inl zk22))] sz [] [("java/lang/String", "COMPACT_STRINGS", "Z", .int 1)] [] [])) (va_Qv (fun _ : Unit => True) (fun _ t => ∃ q1 : Nat, va_P D vwCl [(h0, .inr (0, [.ref q1, .int 0, .int 0, .int 0])), (sb, .inr (1, [.ref bv, .int 0, w1, .int 27])), (bv, .inl (y 0, 34, .inl zk22)), (q1, .inl (y 0, 27, .inl zk23))] t.heap ∧ va_D (va_A [(h0, .inr (0, [.null, .int 0, .int 0, .int 0])), (sb, .inr (1, [.ref bv, .int 0, w1, .int 27])), (bv, .inl (y 0, 34, .inl zk22))] sz) [(h0, .inr (0, [.ref q1, .int 0, .int 0, .int 0])), (sb, .inr (1, [.ref bv, .int 0, w1, .int 27])), (bv, .inl (y 0, 34, .inl zk22)), (q1, .inl (y 0, 27, .inl zk23))]) (va_A [(h0, .inr (0, [.null, .int 0, .int 0, .int 0])), (sb, .inr (1, [.ref bv, .int 0, w1, .int 27])), (bv, .inl (y 0, 34, .inl zk22))] sz)) 1 27 (va_A [(h0, .inr (0, [.null, .int 0, .int 0, .int 0])), (sb, .inr (1, [.ref bv, .int 0, w1, .int 27])), (bv, .inl (y 0, 34, .inl zk22))] sz) := by
  refine Met.ofW (cc := cJ0_init_81219) (maxL := 2) (ret := none) (by decide) rfl ?_
  intro p e s m args below meth c s₁ B hml hv
  obtain ⟨rfl, hsz, hP, hK, hD0, hN, hE, hO, hT, hG⟩ := hv
  have hx := B.exec
  have hb := B.bytes
  have hr := B.returns
  have hts := atoms_spec (ws := wz_c_Si2_e2) B.pre
  have hown : s.vm.findClass RJ0 = some m.cls := findClass_of_methodNamed B.named
  have hlocks := B.notSynchronized
  have hin : meth.name = "<init>" := (name_of_methodNamed B.named B.method).1
  subst hsz
  have hD := hD0.self (sz := s.heap.size)
  generalize hAe : va_A [(h0, .inr (0, [.null, .int 0, .int 0, .int 0])), (sb, .inr (1, [.ref bv, .int 0, w1, .int 27])), (bv, .inl (y 0, 34, .inl zk22))] s.heap.size = A at hD hE hT hG ⊢
  have hA : ∀ q : Nat, s.heap.size ≤ q → A q := fun q h => by rw [← hAe]; exact Or.inr h
  have hS : va_S A s.heap s.heap [] := va_S.rf
  have hl := lv_entry ([.ref h0, .ref sb]) (n := 2) (Nat.le_of_ble_eq_true rfl)
  rw [lg_entry_eq]
  generalize (lg_sl ([.ref h0, .ref sb]) ++ List.replicate (2 - (lg_sl ([.ref h0, .ref sb])).length) Slot.unset).toArray = ls at hl ⊢
  have hl : lv_has ls 2 [(0, .ref h0), (1, .ref sb)] := hl
  refine lv_aload_n hx hb dJ0_init_81219_0 rfl (lv_at hl 0 rfl) ?_
  refine lv_aload_n hx hb dJ0_init_81219_1 rfl (lv_at hl 1 rfl) ?_
  refine lv_null hx hb dJ0_init_81219_2 ?_
  have hPc := hP.sub (ws' := [(h0, .inr (0, [.null, .int 0, .int 0, .int 0])), (sb, .inr (1, [.ref bv, .int 0, w1, .int 27])), (bv, .inl (y 0, 34, .inl zk22))]) [0, 1, 2] rfl
  have hDc := hD.sub (ws' := [(h0, .inr (0, [.null, .int 0, .int 0, .int 0])), (sb, .inr (1, [.ref bv, .int 0, w1, .int 27])), (bv, .inl (y 0, 34, .inl zk22))]) [0, 1, 2] (by decide) rfl
  have hFc := va_free (wc := [(h0, .inr (0, [.null, .int 0, .int 0, .int 0])), (sb, .inr (1, [.ref bv, .int 0, w1, .int 27])), (bv, .inl (y 0, 34, .inl zk22))]) hD hS hA [0, 1, 2] rfl
  refine va_callv (va_runI (As := [.ref sb, .null]) (rest := []) ⟨hx, hb, hml, hown, hts⟩ (c_Si1_e2 l D y s.heap.size h0 sb bv w1) (cwI 2 hts gz_c_Si2_e2_c_Si1_e2 rfl rfl rfl (hts (.initialized RJ0) (by decide +kernel)) (hts (.methodLink RJ0 489 yJ0_init_db425) (by decide +kernel)) (hts (.instanceMethod yJ0_init_db425) (by decide +kernel)) rfl (by decide +kernel) ⟨(Nat.le_of_ble_eq_true rfl), (Nat.le_of_ble_eq_true rfl)⟩) (zB.preS hPc hDc hK hN hE hO hT hG hS hFc (fun _ h => nomatch h) (List.forall_mem_cons.mpr ⟨List.mem_of_getElem? (i := 0) rfl, (fun _ h => nomatch h)⟩) (fun _ h => nomatch h) (fun _ h => nomatch h)) rfl rfl hl.1 rfl (lv_room (Nat.le_of_ble_eq_true rfl)) dJ0_init_81219_3 ⟨(Nat.le_of_ble_eq_true rfl), (Nat.le_of_ble_eq_true rfl)⟩) hS (fun q _ h => hFc q h) hFc (fun u t H1 locs ht hvm hw hB hz1 hk1 hS => ?_)
  obtain ⟨q1, hP1, hD1⟩ := hB
  rw [ht] at hP1
  obtain ⟨hP, hD⟩ := va_join (wr := []) (w1 := [(h0, .inr (0, [.ref q1, .int 0, .int 0, .int 0])), (sb, .inr (1, [.ref bv, .int 0, w1, .int 27])), (bv, .inl (y 0, 34, .inl zk22)), (q1, .inl (y 0, 27, .inl zk23))]) hP hD [0, 1, 2] [] rfl rfl (by decide) (by decide) hk1 hFc hP1 hD1
  generalize H1 = H at hP hS ⊢
  have hP : va_P D vwCl [(h0, .inr (0, [.ref q1, .int 0, .int 0, .int 0])), (sb, .inr (1, [.ref bv, .int 0, w1, .int 27])), (bv, .inl (y 0, 34, .inl zk22)), (q1, .inl (y 0, 27, .inl zk23))] H := hP
  have hD : va_D A [(h0, .inr (0, [.ref q1, .int 0, .int 0, .int 0])), (sb, .inr (1, [.ref bv, .int 0, w1, .int 27])), (bv, .inl (y 0, 34, .inl zk22)), (q1, .inl (y 0, 27, .inl zk23))] := hD
  have hP9 := hP.sub (ws' := [(h0, .inr (0, [.ref q1, .int 0, .int 0, .int 0])), (sb, .inr (1, [.ref bv, .int 0, w1, .int 27])), (bv, .inl (y 0, 34, .inl zk22)), (q1, .inl (y 0, 27, .inl zk23))]) [0, 1, 2, 3] rfl
  have hD9 := hD.sub (ws' := [(h0, .inr (0, [.ref q1, .int 0, .int 0, .int 0])), (sb, .inr (1, [.ref bv, .int 0, w1, .int 27])), (bv, .inl (y 0, 34, .inl zk22)), (q1, .inl (y 0, 27, .inl zk23))]) [0, 1, 2, 3] (by decide) rfl
  refine W.widen (k := 1) (n := 27) (Nat.le_of_ble_eq_true rfl) (Nat.le_of_ble_eq_true rfl) ?_
  exact W.vret hx hb hr (fun t ht hW => ⟨⟨(), rfl, trivial, q1, by rw [ht]; exact hP9, hD9⟩, hS.F ht⟩) hS.2.2 dJ0_init_81219_6
def wz_c_toS_e2 : List Cond := .code yJ4_toString_0e30d cJ4_toString_0e30d 1 (some (.object "java/lang/String")) :: ([.classLink RJ4 18 RJ0, .instantiable RJ0 4, .initialized RJ0, .methodLink RJ4 137 yJ0_init_81219, .instanceMethod yJ0_init_81219] ++ (wsJ00 ++ (wz_c_Si2_e2 ++ ([]))))
set_option maxRecDepth 100000 in
theorem gz_c_toS_e2_c_Si2_e2 : GoodIn wz_c_toS_e2 wz_c_Si2_e2 := goodIn_sub (fun w h => List.mem_cons_of_mem _ (List.mem_append_right _ (List.mem_append_right _ (List.mem_append_left _ h)))) (by decide +kernel)
set_option maxHeartbeats 4000000 in
set_option maxRecDepth 100000 in
theorem c_toS_e2 (l : Launch) (D : va_G) (y : Nat → ClassId) (sz : Nat) (h0 : Nat) (bv : Nat) (w1 : Value) : Met l yJ4_toString_0e30d wz_c_toS_e2 ({ frames := 5, cells := 2, slots := 31, locals := 151 }) (va_Pc [.ref h0] (zB D y [(h0, .inr (1, [.ref bv, .int 0, w1, .int 27])), (bv, .inl (y 0, 34, .inl zk22))] sz [] [("java/lang/String", "COMPACT_STRINGS", "Z", .int 1)] [] [])) (va_Qr (fun _ : Unit => True) (fun _ q1 t => ∃ q2 : Nat, va_P D vwCl [(h0, .inr (1, [.ref bv, .int 0, w1, .int 27])), (bv, .inl (y 0, 34, .inl zk22)), (q1, .inr (0, [.ref q2, .int 0, .int 0, .int 0])), (q2, .inl (y 0, 27, .inl zk23))] t.heap ∧ va_D (va_A [(h0, .inr (1, [.ref bv, .int 0, w1, .int 27])), (bv, .inl (y 0, 34, .inl zk22))] sz) [(h0, .inr (1, [.ref bv, .int 0, w1, .int 27])), (bv, .inl (y 0, 34, .inl zk22)), (q1, .inr (0, [.ref q2, .int 0, .int 0, .int 0])), (q2, .inl (y 0, 27, .inl zk23))]) (va_A [(h0, .inr (1, [.ref bv, .int 0, w1, .int 27])), (bv, .inl (y 0, 34, .inl zk22))] sz)) 2 31 (va_A [(h0, .inr (1, [.ref bv, .int 0, w1, .int 27])), (bv, .inl (y 0, 34, .inl zk22))] sz) := by
  refine Met.ofW (cc := cJ4_toString_0e30d) (maxL := 1) (ret := (some (.object "java/lang/String"))) (by decide) rfl ?_
  intro p e s m args below meth c s₁ B hml hv
  obtain ⟨rfl, hsz, hP, hK, hD0, hN, hE, hO, hT, hG⟩ := hv
  have hx := B.exec
  have hb := B.bytes
  have hr := B.returns
  have hts := atoms_spec (ws := wz_c_toS_e2) B.pre
  have hown : s.vm.findClass RJ4 = some m.cls := findClass_of_methodNamed B.named
  have hlocks := B.notSynchronized
  subst hsz
  have hD := hD0.self (sz := s.heap.size)
  generalize hAe : va_A [(h0, .inr (1, [.ref bv, .int 0, w1, .int 27])), (bv, .inl (y 0, 34, .inl zk22))] s.heap.size = A at hD hE hT hG ⊢
  have hA : ∀ q : Nat, s.heap.size ≤ q → A q := fun q h => by rw [← hAe]; exact Or.inr h
  have hS : va_S A s.heap s.heap [] := va_S.rf
  have hl := lv_entry ([.ref h0]) (n := 1) (Nat.le_of_ble_eq_true rfl)
  rw [lg_entry_eq]
  generalize (lg_sl ([.ref h0]) ++ List.replicate (1 - (lg_sl ([.ref h0])).length) Slot.unset).toArray = ls at hl ⊢
  have hl : lv_has ls 1 [(0, .ref h0)] := hl
  refine va_new (ci := 0) (fs := [.null, .int 0, .int 0, .int 0]) (C := RJ0) (T := TJ0) (N := 4) hx hb hts (by decide +kernel) tyJ0 tyJ0_ok hown (hts (.classLink RJ4 18 RJ0) (by decide +kernel)) (hts (.instantiable RJ0 4) (by decide +kernel)) (hts (.initialized RJ0) (by decide +kernel)) hK hP hD hS hA rfl (by decide) (Nat.le_of_ble_eq_true rfl) (Nat.le_of_ble_eq_true rfl) dJ4_toString_0e30d_0 (fun q1 H hP hD hS => ?_)
  have hP : va_P D vwCl [(h0, .inr (1, [.ref bv, .int 0, w1, .int 27])), (bv, .inl (y 0, 34, .inl zk22)), (q1, .inr (0, [.null, .int 0, .int 0, .int 0]))] H := hP
  have hD : va_D A [(h0, .inr (1, [.ref bv, .int 0, w1, .int 27])), (bv, .inl (y 0, 34, .inl zk22)), (q1, .inr (0, [.null, .int 0, .int 0, .int 0]))] := hD
  refine lv_dup hx hb dJ4_toString_0e30d_3 rfl ?_
  refine lv_aload_n hx hb dJ4_toString_0e30d_4 rfl (lv_at hl 0 rfl) ?_
  have hPc := hP.sub (ws' := [(q1, .inr (0, [.null, .int 0, .int 0, .int 0])), (h0, .inr (1, [.ref bv, .int 0, w1, .int 27])), (bv, .inl (y 0, 34, .inl zk22))]) [2, 0, 1] rfl
  have hDc := hD.sub (ws' := [(q1, .inr (0, [.null, .int 0, .int 0, .int 0])), (h0, .inr (1, [.ref bv, .int 0, w1, .int 27])), (bv, .inl (y 0, 34, .inl zk22))]) [2, 0, 1] (by decide) rfl
  have hFc := va_free (wc := [(q1, .inr (0, [.null, .int 0, .int 0, .int 0])), (h0, .inr (1, [.ref bv, .int 0, w1, .int 27])), (bv, .inl (y 0, 34, .inl zk22))]) hD hS hA [2, 0, 1] rfl
  refine va_callv (va_runI (As := [.ref h0]) (rest := [.ref q1]) ⟨hx, hb, hml, hown, hts⟩ (c_Si2_e2 l D y H.size q1 h0 bv w1) (cwI 1 hts gz_c_toS_e2_c_Si2_e2 rfl rfl rfl (hts (.initialized RJ0) (by decide +kernel)) (hts (.methodLink RJ4 137 yJ0_init_81219) (by decide +kernel)) (hts (.instanceMethod yJ0_init_81219) (by decide +kernel)) rfl (by decide +kernel) ⟨(Nat.le_of_ble_eq_true rfl), (Nat.le_of_ble_eq_true rfl)⟩) (zB.preS hPc hDc hK hN hE hO hT hG hS hFc (fun _ h => nomatch h) (List.forall_mem_cons.mpr ⟨List.mem_of_getElem? (i := 0) rfl, (fun _ h => nomatch h)⟩) (fun _ h => nomatch h) (fun _ h => nomatch h)) rfl rfl hl.1 rfl (lv_room (Nat.le_of_ble_eq_true rfl)) dJ4_toString_0e30d_5 ⟨(Nat.le_of_ble_eq_true rfl), (Nat.le_of_ble_eq_true rfl)⟩) hS (fun q _ h => hFc q h) hFc (fun u t H1 locs ht hvm hw hB hz1 hk1 hS => ?_)
  obtain ⟨q2, hP1, hD1⟩ := hB
  rw [ht] at hP1
  obtain ⟨hP, hD⟩ := va_join (wr := []) (w1 := [(q1, .inr (0, [.ref q2, .int 0, .int 0, .int 0])), (h0, .inr (1, [.ref bv, .int 0, w1, .int 27])), (bv, .inl (y 0, 34, .inl zk22)), (q2, .inl (y 0, 27, .inl zk23))]) hP hD [2, 0, 1] [] rfl rfl (by decide) (by decide) hk1 hFc hP1 hD1
  generalize H1 = H at hP hS ⊢
  have hP : va_P D vwCl [(q1, .inr (0, [.ref q2, .int 0, .int 0, .int 0])), (h0, .inr (1, [.ref bv, .int 0, w1, .int 27])), (bv, .inl (y 0, 34, .inl zk22)), (q2, .inl (y 0, 27, .inl zk23))] H := hP
  have hD : va_D A [(q1, .inr (0, [.ref q2, .int 0, .int 0, .int 0])), (h0, .inr (1, [.ref bv, .int 0, w1, .int 27])), (bv, .inl (y 0, 34, .inl zk22)), (q2, .inl (y 0, 27, .inl zk23))] := hD
  have hP9 := hP.sub (ws' := [(h0, .inr (1, [.ref bv, .int 0, w1, .int 27])), (bv, .inl (y 0, 34, .inl zk22)), (q1, .inr (0, [.ref q2, .int 0, .int 0, .int 0])), (q2, .inl (y 0, 27, .inl zk23))]) [1, 2, 0, 3] rfl
  have hD9 := hD.sub (ws' := [(h0, .inr (1, [.ref bv, .int 0, w1, .int 27])), (bv, .inl (y 0, 34, .inl zk22)), (q1, .inr (0, [.ref q2, .int 0, .int 0, .int 0])), (q2, .inl (y 0, 27, .inl zk23))]) [1, 2, 0, 3] (by decide) rfl
  refine W.widen (k := 2) (n := 31) (Nat.le_of_ble_eq_true rfl) (Nat.le_of_ble_eq_true rfl) ?_
  exact W.aret (v := .ref q1) hx hb hr (Or.inl ⟨_, rfl⟩) (Or.inr ⟨_, rfl⟩) (fun t ht hW => ⟨⟨(), q1, rfl, trivial, q2, by rw [ht]; exact hP9, hD9⟩, hS.F ht⟩) hS.2.2 dJ4_toString_0e30d_8

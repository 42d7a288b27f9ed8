def wz_c_X8_init : List Cond := .code yX8_init cX8_init 2 none :: ([.initialized RX10, .methodLink RX8 3 yX10_init, .instanceMethod yX10_init] ++ (wz_c_X10_init_X8 ++ ([])))
set_option maxRecDepth 100000 in
theorem gz_c_X8_init_c_X10_init_X8 : GoodIn wz_c_X8_init wz_c_X10_init_X8 := goodIn_sub (fun w h => List.mem_cons_of_mem _ (List.mem_append_right _ (List.mem_append_left _ h))) (by decide +kernel)
set_option maxHeartbeats 4000000 in
set_option maxRecDepth 100000 in
theorem c_X8_init (l : Launch) (D : va_G) (y : Nat → ClassId) (sz : Nat) (h0 : Nat) (b : Nat) : Met l yX8_init wz_c_X8_init ({ frames := 2, cells := 0, slots := 0, locals := 35 }) (va_Pc [.ref h0, .ref b] (zB D y [(h0, .inr (12, [.null, .int 0, .int 0, .int 0, .int 0, .int 0, .int 0, .int 0, .long 0, .long 0, .long 0, .int 0, .int 0, .int 0, .int 0, .int 0, .int 0, .int 0])), (b, .inl (y 0, 0, .inl (fun _ => 0)))] sz [] [] [] [])) (va_Qv (fun _ : Unit => True) (fun _ t => va_P D vwCl [(h0, .inr (12, [.ref b, .int 0, .int 0, .int 0, .int 0, .int 0, .int 0, .int 0, .long 0, .long 0, .long 0, .int 0, .int 0, .int 0, .int 0, .int 0, .int 0, .int 0])), (b, .inl (y 0, 0, .inl (fun _ => 0)))] t.heap ∧ va_D (va_A [(h0, .inr (12, [.null, .int 0, .int 0, .int 0, .int 0, .int 0, .int 0, .int 0, .long 0, .long 0, .long 0, .int 0, .int 0, .int 0, .int 0, .int 0, .int 0, .int 0])), (b, .inl (y 0, 0, .inl (fun _ => 0)))] sz) [(h0, .inr (12, [.ref b, .int 0, .int 0, .int 0, .int 0, .int 0, .int 0, .int 0, .long 0, .long 0, .long 0, .int 0, .int 0, .int 0, .int 0, .int 0, .int 0, .int 0])), (b, .inl (y 0, 0, .inl (fun _ => 0)))]) (va_A [(h0, .inr (12, [.null, .int 0, .int 0, .int 0, .int 0, .int 0, .int 0, .int 0, .long 0, .long 0, .long 0, .int 0, .int 0, .int 0, .int 0, .int 0, .int 0, .int 0])), (b, .inl (y 0, 0, .inl (fun _ => 0)))] sz)) 0 0 (va_A [(h0, .inr (12, [.null, .int 0, .int 0, .int 0, .int 0, .int 0, .int 0, .int 0, .long 0, .long 0, .long 0, .int 0, .int 0, .int 0, .int 0, .int 0, .int 0, .int 0])), (b, .inl (y 0, 0, .inl (fun _ => 0)))] sz) := by
  refine Met.ofW (cc := cX8_init) (maxL := 2) (ret := none) (by decide) rfl ?_
  intro p e s m args below meth c s₁ B hml hv
  obtain ⟨rfl, hsz, hP, hK, hD0, hN, hE, hO, hT, hG⟩ := hv
  have hx := B.exec
  have hb := B.bytes
  have hr := B.returns
  have hts := atoms_spec (ws := wz_c_X8_init) B.pre
  have hown : s.vm.findClass RX8 = some m.cls := findClass_of_methodNamed B.named
  have hlocks := B.notSynchronized
  have hin : meth.name = "<init>" := (name_of_methodNamed B.named B.method).1
  subst hsz
  have hD := hD0.self (sz := s.heap.size)
  generalize hAe : va_A [(h0, .inr (12, [.null, .int 0, .int 0, .int 0, .int 0, .int 0, .int 0, .int 0, .long 0, .long 0, .long 0, .int 0, .int 0, .int 0, .int 0, .int 0, .int 0, .int 0])), (b, .inl (y 0, 0, .inl (fun _ => 0)))] s.heap.size = A at hD hE hT hG ⊢
  have hA : ∀ q : Nat, s.heap.size ≤ q → A q := fun q h => by rw [← hAe]; exact Or.inr h
  have hS : va_S A s.heap s.heap [] := va_S.rf
  have hl := lv_entry ([.ref h0, .ref b]) (n := 2) (Nat.le_of_ble_eq_true rfl)
  rw [lg_entry_eq]
  generalize (lg_sl ([.ref h0, .ref b]) ++ List.replicate (2 - (lg_sl ([.ref h0, .ref b])).length) Slot.unset).toArray = ls at hl ⊢
  have hl : lv_has ls 2 [(0, .ref h0), (1, .ref b)] := hl
  refine lv_aload_n hx hb dX8_init_0 rfl (lv_at hl 0 rfl) ?_
  refine lv_aload_n hx hb dX8_init_1 rfl (lv_at hl 1 rfl) ?_
  refine lv_iconst (v := 0) hx hb dX8_init_2 (by decide) ?_
  refine lv_aload_n hx hb dX8_init_3 rfl (lv_at hl 1 rfl) ?_
  refine va_alen (v := 0) hx hb hK hP 1 0 rfl rfl (by decide) dX8_init_4 ?_
  have hPc := hP.sub (ws' := [(h0, .inr (12, [.null, .int 0, .int 0, .int 0, .int 0, .int 0, .int 0, .int 0, .long 0, .long 0, .long 0, .int 0, .int 0, .int 0, .int 0, .int 0, .int 0, .int 0]))]) [0] rfl
  have hDc := hD.sub (ws' := [(h0, .inr (12, [.null, .int 0, .int 0, .int 0, .int 0, .int 0, .int 0, .int 0, .long 0, .long 0, .long 0, .int 0, .int 0, .int 0, .int 0, .int 0, .int 0, .int 0]))]) [0] (by decide) rfl
  have hFc := va_free (wc := [(h0, .inr (12, [.null, .int 0, .int 0, .int 0, .int 0, .int 0, .int 0, .int 0, .long 0, .long 0, .long 0, .int 0, .int 0, .int 0, .int 0, .int 0, .int 0, .int 0]))]) hD hS hA [0] rfl
  refine va_callv (va_runI (As := [.ref b, .int 0, .int 0]) (rest := []) ⟨hx, hb, hml, hown, hts⟩ (c_X10_init_X8 l D y s.heap.size h0 b 0 0) (cwI 3 hts gz_c_X8_init_c_X10_init_X8 rfl rfl rfl (hts (.initialized RX10) (by decide +kernel)) (hts (.methodLink RX8 3 yX10_init) (by decide +kernel)) (hts (.instanceMethod yX10_init) (by decide +kernel)) rfl (by decide +kernel) ⟨(Nat.le_of_ble_eq_true rfl), (Nat.le_of_ble_eq_true rfl)⟩) (zB.preS hPc hDc hK hN hE hO hT hG hS hFc (fun _ h => nomatch h) (fun _ h => nomatch h) (fun _ h => nomatch h) (fun _ h => nomatch h)) rfl rfl hl.1 rfl (lv_room (Nat.le_of_ble_eq_true rfl)) dX8_init_5 ⟨(Nat.le_of_ble_eq_true rfl), (Nat.le_of_ble_eq_true rfl)⟩) hS (fun q _ h => hFc q h) hFc (fun u t H1 locs ht hvm hw hB hz1 hk1 hS => ?_)
  obtain ⟨hP1, hD1⟩ := hB
  rw [ht] at hP1
  obtain ⟨hP, hD⟩ := va_join (wr := [(b, .inl (y 0, 0, .inl (fun _ => 0)))]) (w1 := [(h0, .inr (12, [.ref b, .int 0, .int 0, .int 0, .int 0, .int 0, .int 0, .int 0, .long 0, .long 0, .long 0, .int 0, .int 0, .int 0, .int 0, .int 0, .int 0, .int 0]))]) hP hD [0] [1] rfl rfl (by decide) (by decide) hk1 hFc hP1 hD1
  generalize H1 = H at hP hS ⊢
  have hP : va_P D vwCl [(b, .inl (y 0, 0, .inl (fun _ => 0))), (h0, .inr (12, [.ref b, .int 0, .int 0, .int 0, .int 0, .int 0, .int 0, .int 0, .long 0, .long 0, .long 0, .int 0, .int 0, .int 0, .int 0, .int 0, .int 0, .int 0]))] H := hP
  have hD : va_D A [(b, .inl (y 0, 0, .inl (fun _ => 0))), (h0, .inr (12, [.ref b, .int 0, .int 0, .int 0, .int 0, .int 0, .int 0, .int 0, .long 0, .long 0, .long 0, .int 0, .int 0, .int 0, .int 0, .int 0, .int 0, .int 0]))] := hD
  have hP9 := hP.sub (ws' := [(h0, .inr (12, [.ref b, .int 0, .int 0, .int 0, .int 0, .int 0, .int 0, .int 0, .long 0, .long 0, .long 0, .int 0, .int 0, .int 0, .int 0, .int 0, .int 0, .int 0])), (b, .inl (y 0, 0, .inl (fun _ => 0)))]) [1, 0] rfl
  have hD9 := hD.sub (ws' := [(h0, .inr (12, [.ref b, .int 0, .int 0, .int 0, .int 0, .int 0, .int 0, .int 0, .long 0, .long 0, .long 0, .int 0, .int 0, .int 0, .int 0, .int 0, .int 0, .int 0])), (b, .inl (y 0, 0, .inl (fun _ => 0)))]) [1, 0] (by decide) rfl
  refine W.widen (k := 0) (n := 0) (Nat.le_of_ble_eq_true rfl) (Nat.le_of_ble_eq_true rfl) ?_
  exact W.vret hx hb hr (fun t ht hW => ⟨⟨(), rfl, trivial, by rw [ht]; exact hP9, hD9⟩, hS.F ht⟩) hS.2.2 dX8_init_8
def wz_c_AbsColl_init : List Cond := .code yJxa1e45_init_da8c8 cJxa1e45_init_da8c8 1 none :: ([.methodLink RJxa1e45 1 objectInit, .instanceMethod objectInit, .code objectInit ⟨#[0xb1]⟩ 1 none] ++ ([]))
set_option maxHeartbeats 4000000 in
set_option maxRecDepth 100000 in
theorem c_AbsColl_init (l : Launch) (D : va_G) (y : Nat → ClassId) (sz : Nat) (h0 : Nat) : Met l yJxa1e45_init_da8c8 wz_c_AbsColl_init ({ frames := 1, cells := 0, slots := 0, locals := 12 }) (va_Pc [.ref h0] (zB D y [(h0, .inr (3, [.int 0, .null, .int 0]))] sz [] [] [] [])) (va_Qv (fun _ : Unit => True) (fun _ t => va_P D vwCl [(h0, .inr (3, [.int 0, .null, .int 0]))] t.heap ∧ va_D (va_A [(h0, .inr (3, [.int 0, .null, .int 0]))] sz) [(h0, .inr (3, [.int 0, .null, .int 0]))]) (va_A [(h0, .inr (3, [.int 0, .null, .int 0]))] sz)) 0 0 (va_A [(h0, .inr (3, [.int 0, .null, .int 0]))] sz) := by
  refine Met.ofW (cc := cJxa1e45_init_da8c8) (maxL := 1) (ret := none) (by decide) rfl ?_
  intro p e s m args below meth c s₁ B hml hv
  obtain ⟨rfl, hsz, hP, hK, hD0, hN, hE, hO, hT, hG⟩ := hv
  have hx := B.exec
  have hb := B.bytes
  have hr := B.returns
  have hts := atoms_spec (ws := wz_c_AbsColl_init) B.pre
  have hown : s.vm.findClass RJxa1e45 = some m.cls := findClass_of_methodNamed B.named
  have hlocks := B.notSynchronized
  have hin : meth.name = "<init>" := (name_of_methodNamed B.named B.method).1
  subst hsz
  have hD := hD0.self (sz := s.heap.size)
  generalize hAe : va_A [(h0, .inr (3, [.int 0, .null, .int 0]))] s.heap.size = A at hD hE hT hG ⊢
  have hA : ∀ q : Nat, s.heap.size ≤ q → A q := fun q h => by rw [← hAe]; exact Or.inr h
  have hS : va_S A s.heap s.heap [] := va_S.rf
  have hl := lv_entry ([.ref h0]) (n := 1) (Nat.le_of_ble_eq_true rfl)
  rw [lg_entry_eq]
  generalize (lg_sl ([.ref h0]) ++ List.replicate (1 - (lg_sl ([.ref h0])).length) Slot.unset).toArray = ls at hl ⊢
  have hl : lv_has ls 1 [(0, .ref h0)] := hl
  refine lv_aload_n hx hb dJxa1e45_init_da8c8_0 rfl (lv_at hl 0 rfl) ?_
  refine W.objInit hx hb hown (hts (.methodLink RJxa1e45 1 objectInit) (by decide +kernel)) (hts (.instanceMethod objectInit) (by decide +kernel)) (hts (.code objectInit ⟨#[0xb1]⟩ 1 none) (by decide +kernel)) rfl (by rw [hml]; exact hl.1) rfl dJxa1e45_init_da8c8_1 (Nat.le_of_ble_eq_true rfl) (Nat.le_of_ble_eq_true rfl) ?_
  refine W.eq (g2 := F0 m 4 ls []) rfl ?_
  have hP9 := hP.sub (ws' := [(h0, .inr (3, [.int 0, .null, .int 0]))]) [0] rfl
  have hD9 := hD.sub (ws' := [(h0, .inr (3, [.int 0, .null, .int 0]))]) [0] (by decide) rfl
  refine W.widen (k := 0) (n := 0) (Nat.le_of_ble_eq_true rfl) (Nat.le_of_ble_eq_true rfl) ?_
  exact W.vret hx hb hr (fun t ht hW => ⟨⟨(), rfl, trivial, by rw [ht]; exact hP9, hD9⟩, hS.F ht⟩) hS.2.2 dJxa1e45_init_da8c8_4
def wz_c_AbsList_init : List Cond := .code yJxc12de_init_da8c8 cJxc12de_init_da8c8 1 none :: ([.initialized RJxa1e45, .methodLink RJxc12de 1 yJxa1e45_init_da8c8, .instanceMethod yJxa1e45_init_da8c8, .fieldLink RJxc12de 7 "java/util/AbstractList" "modCount" "I"] ++ (wsJx4a65c0 ++ (wz_c_AbsColl_init ++ ([]))))
set_option maxRecDepth 100000 in
theorem gz_c_AbsList_init_c_AbsColl_init : GoodIn wz_c_AbsList_init wz_c_AbsColl_init := goodIn_sub (fun w h => List.mem_cons_of_mem _ (List.mem_append_right _ (List.mem_append_right _ (List.mem_append_left _ h)))) (by decide +kernel)
set_option maxHeartbeats 4000000 in
set_option maxRecDepth 100000 in
theorem c_AbsList_init (l : Launch) (D : va_G) (y : Nat → ClassId) (sz : Nat) (h0 : Nat) : Met l yJxc12de_init_da8c8 wz_c_AbsList_init ({ frames := 2, cells := 0, slots := 0, locals := 32 }) (va_Pc [.ref h0] (zB D y [(h0, .inr (3, [.int 0, .null, .int 0]))] sz [] [] [] [])) (va_Qv (fun _ : Unit => True) (fun _ t => va_P D vwCl [(h0, .inr (3, [.int 0, .null, .int 0]))] t.heap ∧ va_D (va_A [(h0, .inr (3, [.int 0, .null, .int 0]))] sz) [(h0, .inr (3, [.int 0, .null, .int 0]))]) (va_A [(h0, .inr (3, [.int 0, .null, .int 0]))] sz)) 0 0 (va_A [(h0, .inr (3, [.int 0, .null, .int 0]))] sz) := by
  refine Met.ofW (cc := cJxc12de_init_da8c8) (maxL := 1) (ret := none) (by decide) rfl ?_
  intro p e s m args below meth c s₁ B hml hv
  obtain ⟨rfl, hsz, hP, hK, hD0, hN, hE, hO, hT, hG⟩ := hv
  have hx := B.exec
  have hb := B.bytes
  have hr := B.returns
  have hts := atoms_spec (ws := wz_c_AbsList_init) B.pre
  have hown : s.vm.findClass RJxc12de = some m.cls := findClass_of_methodNamed B.named
  have hlocks := B.notSynchronized
  have hin : meth.name = "<init>" := (name_of_methodNamed B.named B.method).1
  subst hsz
  have hD := hD0.self (sz := s.heap.size)
  generalize hAe : va_A [(h0, .inr (3, [.int 0, .null, .int 0]))] s.heap.size = A at hD hE hT hG ⊢
  have hA : ∀ q : Nat, s.heap.size ≤ q → A q := fun q h => by rw [← hAe]; exact Or.inr h
  have hS : va_S A s.heap s.heap [] := va_S.rf
  have hl := lv_entry ([.ref h0]) (n := 1) (Nat.le_of_ble_eq_true rfl)
  rw [lg_entry_eq]
  generalize (lg_sl ([.ref h0]) ++ List.replicate (1 - (lg_sl ([.ref h0])).length) Slot.unset).toArray = ls at hl ⊢
  have hl : lv_has ls 1 [(0, .ref h0)] := hl
  refine lv_aload_n hx hb dJxc12de_init_da8c8_0 rfl (lv_at hl 0 rfl) ?_
  have hPc := hP.sub (ws' := [(h0, .inr (3, [.int 0, .null, .int 0]))]) [0] rfl
  have hDc := hD.sub (ws' := [(h0, .inr (3, [.int 0, .null, .int 0]))]) [0] (by decide) rfl
  have hFc := va_free (wc := [(h0, .inr (3, [.int 0, .null, .int 0]))]) hD hS hA [0] rfl
  refine va_callv (va_runI (As := []) (rest := []) ⟨hx, hb, hml, hown, hts⟩ (c_AbsColl_init l D y s.heap.size h0) (cwI 0 hts gz_c_AbsList_init_c_AbsColl_init rfl rfl rfl (hts (.initialized RJxa1e45) (by decide +kernel)) (hts (.methodLink RJxc12de 1 yJxa1e45_init_da8c8) (by decide +kernel)) (hts (.instanceMethod yJxa1e45_init_da8c8) (by decide +kernel)) rfl (by decide +kernel) ⟨(Nat.le_of_ble_eq_true rfl), (Nat.le_of_ble_eq_true rfl)⟩) (zB.preS hPc hDc hK hN hE hO hT hG hS hFc (fun _ h => nomatch h) (fun _ h => nomatch h) (fun _ h => nomatch h) (fun _ h => nomatch h)) rfl rfl hl.1 rfl (lv_room (Nat.le_of_ble_eq_true rfl)) dJxc12de_init_da8c8_1 ⟨(Nat.le_of_ble_eq_true rfl), (Nat.le_of_ble_eq_true rfl)⟩) hS (fun q _ h => hFc q h) hFc (fun u t H1 locs ht hvm hw hB hz1 hk1 hS => ?_)
  obtain ⟨hP1, hD1⟩ := hB
  rw [ht] at hP1
  obtain ⟨hP, hD⟩ := va_join (wr := []) (w1 := [(h0, .inr (3, [.int 0, .null, .int 0]))]) hP hD [0] [] rfl rfl (by decide) (by decide) hk1 hFc hP1 hD1
  generalize H1 = H at hP hS ⊢
  have hP : va_P D vwCl [(h0, .inr (3, [.int 0, .null, .int 0]))] H := hP
  have hD : va_D A [(h0, .inr (3, [.int 0, .null, .int 0]))] := hD
  refine lv_aload_n hx hb dJxc12de_init_da8c8_4 rfl (lv_at hl 0 rfl) ?_
  refine lv_iconst (v := 0) hx hb dJxc12de_init_da8c8_5 (by decide) ?_
  refine va_put (D := D) (ci := 3) (v := .int 0) (ty := .int) (C := RJx4a65c) (T := TJx4a65c) (N := 3) hx hb hts (by decide +kernel) tyJx4a65c tyJx4a65c_ok nmJx4a65c hown hK hP hD hS 0 rfl rfl 0 (by decide) (hts (.fieldLink RJxc12de 7 "java/util/AbstractList" "modCount" "I") (by decide +kernel)) (fun _ h9 => h9) rfl (by decide +kernel) rfl rfl (Nat.le_of_ble_eq_true rfl) dJxc12de_init_da8c8_6 (fun H locs hP hD hS => ?_)
  have hP : va_P D vwCl [(h0, .inr (3, [.int 0, .null, .int 0]))] H := hP
  have hD : va_D A [(h0, .inr (3, [.int 0, .null, .int 0]))] := hD
  have hP9 := hP.sub (ws' := [(h0, .inr (3, [.int 0, .null, .int 0]))]) [0] rfl
  have hD9 := hD.sub (ws' := [(h0, .inr (3, [.int 0, .null, .int 0]))]) [0] (by decide) rfl
  refine W.widen (k := 0) (n := 0) (Nat.le_of_ble_eq_true rfl) (Nat.le_of_ble_eq_true rfl) ?_
  exact W.vret hx hb hr (fun t ht hW => ⟨⟨(), rfl, trivial, by rw [ht]; exact hP9, hD9⟩, hS.F ht⟩) hS.2.2 dJxc12de_init_da8c8_9
def wz_c_ArrayList_init : List Cond := .code yJx4a65c_init_da8c8 cJx4a65c_init_da8c8 1 none :: ([.initialized RJxc12de, .methodLink RJx4a65c 1 yJxc12de_init_da8c8, .instanceMethod yJxc12de_init_da8c8, .fieldLink RJx4a65c 39 "java/util/ArrayList" "DEFAULTCAPACITY_EMPTY_ELEMENTDATA" "[Ljava/lang/Object;", .fieldLink RJx4a65c 9 "java/util/ArrayList" "elementData" "[Ljava/lang/Object;"] ++ (wsJx4a65c0 ++ (wz_c_AbsList_init ++ ([]))))
set_option maxRecDepth 100000 in
theorem gz_c_ArrayList_init_c_AbsList_init : GoodIn wz_c_ArrayList_init wz_c_AbsList_init := goodIn_sub (fun w h => List.mem_cons_of_mem _ (List.mem_append_right _ (List.mem_append_right _ (List.mem_append_left _ h)))) (by decide +kernel)
set_option maxHeartbeats 4000000 in
set_option maxRecDepth 100000 in
theorem c_ArrayList_init (l : Launch) (D : va_G) (y : Nat → ClassId) (sz : Nat) (h0 : Nat) (e0 : Nat) : Met l yJx4a65c_init_da8c8 wz_c_ArrayList_init ({ frames := 3, cells := 0, slots := 0, locals := 52 }) (va_Pc [.ref h0] (zB D y [(h0, .inr (3, [.int 0, .null, .int 0]))] sz [] [("java/util/ArrayList", "DEFAULTCAPACITY_EMPTY_ELEMENTDATA", "[Ljava/lang/Object;", .ref e0)] [] [])) (va_Qv (fun _ : Unit => True) (fun _ t => va_P D vwCl [(h0, .inr (3, [.int 0, .ref e0, .int 0]))] t.heap ∧ va_D (va_A [(h0, .inr (3, [.int 0, .null, .int 0]))] sz) [(h0, .inr (3, [.int 0, .ref e0, .int 0]))]) (va_A [(h0, .inr (3, [.int 0, .null, .int 0]))] sz)) 0 0 (va_A [(h0, .inr (3, [.int 0, .null, .int 0]))] sz) := by
  refine Met.ofW (cc := cJx4a65c_init_da8c8) (maxL := 1) (ret := none) (by decide) rfl ?_
  intro p e s m args below meth c s₁ B hml hv
  obtain ⟨rfl, hsz, hP, hK, hD0, hN, hE, hO, hT, hG⟩ := hv
  have hx := B.exec
  have hb := B.bytes
  have hr := B.returns
  have hts := atoms_spec (ws := wz_c_ArrayList_init) B.pre
  have hown : s.vm.findClass RJx4a65c = some m.cls := findClass_of_methodNamed B.named
  have hlocks := B.notSynchronized
  have hin : meth.name = "<init>" := (name_of_methodNamed B.named B.method).1
  subst hsz
  have hD := hD0.self (sz := s.heap.size)
  generalize hAe : va_A [(h0, .inr (3, [.int 0, .null, .int 0]))] s.heap.size = A at hD hE hT hG ⊢
  have hA : ∀ q : Nat, s.heap.size ≤ q → A q := fun q h => by rw [← hAe]; exact Or.inr h
  have hS : va_S A s.heap s.heap [] := va_S.rf
  have hl := lv_entry ([.ref h0]) (n := 1) (Nat.le_of_ble_eq_true rfl)
  rw [lg_entry_eq]
  generalize (lg_sl ([.ref h0]) ++ List.replicate (1 - (lg_sl ([.ref h0])).length) Slot.unset).toArray = ls at hl ⊢
  have hl : lv_has ls 1 [(0, .ref h0)] := hl
  refine lv_aload_n hx hb dJx4a65c_init_da8c8_0 rfl (lv_at hl 0 rfl) ?_
  have hPc := hP.sub (ws' := [(h0, .inr (3, [.int 0, .null, .int 0]))]) [0] rfl
  have hDc := hD.sub (ws' := [(h0, .inr (3, [.int 0, .null, .int 0]))]) [0] (by decide) rfl
  have hFc := va_free (wc := [(h0, .inr (3, [.int 0, .null, .int 0]))]) hD hS hA [0] rfl
  refine va_callv (va_runI (As := []) (rest := []) ⟨hx, hb, hml, hown, hts⟩ (c_AbsList_init l D y s.heap.size h0) (cwI 0 hts gz_c_ArrayList_init_c_AbsList_init rfl rfl rfl (hts (.initialized RJxc12de) (by decide +kernel)) (hts (.methodLink RJx4a65c 1 yJxc12de_init_da8c8) (by decide +kernel)) (hts (.instanceMethod yJxc12de_init_da8c8) (by decide +kernel)) rfl (by decide +kernel) ⟨(Nat.le_of_ble_eq_true rfl), (Nat.le_of_ble_eq_true rfl)⟩) (zB.preS hPc hDc hK hN hE hO hT hG hS hFc (fun _ h => nomatch h) (fun _ h => nomatch h) (fun _ h => nomatch h) (fun _ h => nomatch h)) rfl rfl hl.1 rfl (lv_room (Nat.le_of_ble_eq_true rfl)) dJx4a65c_init_da8c8_1 ⟨(Nat.le_of_ble_eq_true rfl), (Nat.le_of_ble_eq_true rfl)⟩) hS (fun q _ h => hFc q h) hFc (fun u t H1 locs ht hvm hw hB hz1 hk1 hS => ?_)
  obtain ⟨hP1, hD1⟩ := hB
  rw [ht] at hP1
  obtain ⟨hP, hD⟩ := va_join (wr := []) (w1 := [(h0, .inr (3, [.int 0, .null, .int 0]))]) hP hD [0] [] rfl rfl (by decide) (by decide) hk1 hFc hP1 hD1
  generalize H1 = H at hP hS ⊢
  have hP : va_P D vwCl [(h0, .inr (3, [.int 0, .null, .int 0]))] H := hP
  have hD : va_D A [(h0, .inr (3, [.int 0, .null, .int 0]))] := hD
  refine lv_aload_n hx hb dJx4a65c_init_da8c8_4 rfl (lv_at hl 0 rfl) ?_
  refine va_gets hx hb (hE ("java/util/ArrayList", "DEFAULTCAPACITY_EMPTY_ELEMENTDATA", "[Ljava/lang/Object;", .ref e0) (List.mem_of_getElem? (i := 0) rfl)) hS hown (hts (.fieldLink RJx4a65c 39 "java/util/ArrayList" "DEFAULTCAPACITY_EMPTY_ELEMENTDATA" "[Ljava/lang/Object;") (by decide +kernel)) (fun _ h9 => h9) dJx4a65c_init_da8c8_5 ?_
  refine va_put (D := D) (ci := 3) (v := .ref e0) (ty := (.array (.object "java/lang/Object"))) (C := RJx4a65c) (T := TJx4a65c) (N := 3) hx hb hts (by decide +kernel) tyJx4a65c tyJx4a65c_ok nmJx4a65c hown hK hP hD hS 0 rfl rfl 1 (by decide) (hts (.fieldLink RJx4a65c 9 "java/util/ArrayList" "elementData" "[Ljava/lang/Object;") (by decide +kernel)) (fun _ h9 => h9) rfl (by decide +kernel) rfl rfl (Nat.le_of_ble_eq_true rfl) dJx4a65c_init_da8c8_8 (fun H locs hP hD hS => ?_)
  have hP : va_P D vwCl [(h0, .inr (3, [.int 0, .ref e0, .int 0]))] H := hP
  have hD : va_D A [(h0, .inr (3, [.int 0, .ref e0, .int 0]))] := hD
  have hP9 := hP.sub (ws' := [(h0, .inr (3, [.int 0, .ref e0, .int 0]))]) [0] rfl
  have hD9 := hD.sub (ws' := [(h0, .inr (3, [.int 0, .ref e0, .int 0]))]) [0] (by decide) rfl
  refine W.widen (k := 0) (n := 0) (Nat.le_of_ble_eq_true rfl) (Nat.le_of_ble_eq_true rfl) ?_
  exact W.vret hx hb hr (fun t ht hW => ⟨⟨(), rfl, trivial, by rw [ht]; exact hP9, hD9⟩, hS.F ht⟩) hS.2.2 dJx4a65c_init_da8c8_11
def wz_c_X5_init : List Cond := .code yX5_init cX5_init 2 none :: ([.initialized RX10, .methodLink RX5 3 yX10_init, .instanceMethod yX10_init, .classLink RX5 9 RJx4a65c, .instantiable RJx4a65c 3, .initialized RJx4a65c, .methodLink RX5 11 yJx4a65c_init_da8c8, .instanceMethod yJx4a65c_init_da8c8, .fieldLink RX5 14 "SignetRing$Place" "seals" "Ljava/util/ArrayList;"] ++ (wsJx4a65c0 ++ (wsX30 ++ (wz_c_X10_init_X3 ++ (wz_c_ArrayList_init ++ ([]))))))
set_option maxRecDepth 100000 in
theorem gz_c_X5_init_c_X10_init_X3 : GoodIn wz_c_X5_init wz_c_X10_init_X3 := goodIn_sub (fun w h => List.mem_cons_of_mem _ (List.mem_append_right _ (List.mem_append_right _ (List.mem_append_right _ (List.mem_append_left _ h))))) (by decide +kernel)
set_option maxRecDepth 100000 in
theorem gz_c_X5_init_c_ArrayList_init : GoodIn wz_c_X5_init wz_c_ArrayList_init := goodIn_sub (fun w h => List.mem_cons_of_mem _ (List.mem_append_right _ (List.mem_append_right _ (List.mem_append_right _ (List.mem_append_right _ (List.mem_append_left _ h)))))) (by decide +kernel)
set_option maxHeartbeats 4000000 in
set_option maxRecDepth 100000 in
theorem c_X5_init (l : Launch) (D : va_G) (y : Nat → ClassId) (sz : Nat) (h0 : Nat) (b : Nat) (e0 : Nat) : Met l yX5_init wz_c_X5_init ({ frames := 4, cells := 1, slots := 3, locals := 72 }) (va_Pc [.ref h0, .ref b] (zB D y [(h0, .inr (7, [.null, .int 0, .null, .int 0, .int 0, .null, .null, .null, .null, .int 0, .int 0, .long 0, .int 0, .int 0, .int 0, .null, .int 0])), (b, .inl (y 0, 0, .inl (fun _ => 0)))] sz [] [("java/util/ArrayList", "DEFAULTCAPACITY_EMPTY_ELEMENTDATA", "[Ljava/lang/Object;", .ref e0)] [] [])) (va_Qv (fun _ : Unit => True) (fun _ t => ∃ q1 : Nat, va_P D vwCl [(h0, .inr (7, [.ref q1, .int 0, .ref b, .int 0, .int 0, .null, .null, .null, .null, .int 0, .int 0, .long 0, .int 0, .int 0, .int 0, .null, .int 0])), (b, .inl (y 0, 0, .inl (fun _ => 0))), (q1, .inr (3, [.int 0, .ref e0, .int 0]))] t.heap ∧ va_D (va_A [(h0, .inr (7, [.null, .int 0, .null, .int 0, .int 0, .null, .null, .null, .null, .int 0, .int 0, .long 0, .int 0, .int 0, .int 0, .null, .int 0])), (b, .inl (y 0, 0, .inl (fun _ => 0)))] sz) [(h0, .inr (7, [.ref q1, .int 0, .ref b, .int 0, .int 0, .null, .null, .null, .null, .int 0, .int 0, .long 0, .int 0, .int 0, .int 0, .null, .int 0])), (b, .inl (y 0, 0, .inl (fun _ => 0))), (q1, .inr (3, [.int 0, .ref e0, .int 0]))]) (va_A [(h0, .inr (7, [.null, .int 0, .null, .int 0, .int 0, .null, .null, .null, .null, .int 0, .int 0, .long 0, .int 0, .int 0, .int 0, .null, .int 0])), (b, .inl (y 0, 0, .inl (fun _ => 0)))] sz)) 1 3 (va_A [(h0, .inr (7, [.null, .int 0, .null, .int 0, .int 0, .null, .null, .null, .null, .int 0, .int 0, .long 0, .int 0, .int 0, .int 0, .null, .int 0])), (b, .inl (y 0, 0, .inl (fun _ => 0)))] sz) := by
  refine Met.ofW (cc := cX5_init) (maxL := 2) (ret := none) (by decide) rfl ?_
  intro p e s m args below meth c s₁ B hml hv
  obtain ⟨rfl, hsz, hP, hK, hD0, hN, hE, hO, hT, hG⟩ := hv
  have hx := B.exec
  have hb := B.bytes
  have hr := B.returns
  have hts := atoms_spec (ws := wz_c_X5_init) B.pre
  have hown : s.vm.findClass RX5 = some m.cls := findClass_of_methodNamed B.named
  have hlocks := B.notSynchronized
  have hin : meth.name = "<init>" := (name_of_methodNamed B.named B.method).1
  subst hsz
  have hD := hD0.self (sz := s.heap.size)
  generalize hAe : va_A [(h0, .inr (7, [.null, .int 0, .null, .int 0, .int 0, .null, .null, .null, .null, .int 0, .int 0, .long 0, .int 0, .int 0, .int 0, .null, .int 0])), (b, .inl (y 0, 0, .inl (fun _ => 0)))] s.heap.size = A at hD hE hT hG ⊢
  have hA : ∀ q : Nat, s.heap.size ≤ q → A q := fun q h => by rw [← hAe]; exact Or.inr h
  have hS : va_S A s.heap s.heap [] := va_S.rf
  have hl := lv_entry ([.ref h0, .ref b]) (n := 2) (Nat.le_of_ble_eq_true rfl)
  rw [lg_entry_eq]
  generalize (lg_sl ([.ref h0, .ref b]) ++ List.replicate (2 - (lg_sl ([.ref h0, .ref b])).length) Slot.unset).toArray = ls at hl ⊢
  have hl : lv_has ls 2 [(0, .ref h0), (1, .ref b)] := hl
  refine lv_aload_n hx hb dX5_init_0 rfl (lv_at hl 0 rfl) ?_
  refine lv_aload_n hx hb dX5_init_1 rfl (lv_at hl 1 rfl) ?_
  refine lv_iconst (v := 0) hx hb dX5_init_2 (by decide) ?_
  refine lv_aload_n hx hb dX5_init_3 rfl (lv_at hl 1 rfl) ?_
  refine va_alen (v := 0) hx hb hK hP 1 0 rfl rfl (by decide) dX5_init_4 ?_
  have hPc := hP.sub (ws' := [(h0, .inr (7, [.null, .int 0, .null, .int 0, .int 0, .null, .null, .null, .null, .int 0, .int 0, .long 0, .int 0, .int 0, .int 0, .null, .int 0]))]) [0] rfl
  have hDc := hD.sub (ws' := [(h0, .inr (7, [.null, .int 0, .null, .int 0, .int 0, .null, .null, .null, .null, .int 0, .int 0, .long 0, .int 0, .int 0, .int 0, .null, .int 0]))]) [0] (by decide) rfl
  have hFc := va_free (wc := [(h0, .inr (7, [.null, .int 0, .null, .int 0, .int 0, .null, .null, .null, .null, .int 0, .int 0, .long 0, .int 0, .int 0, .int 0, .null, .int 0]))]) hD hS hA [0] rfl
  refine va_callv (va_runI (As := [.ref b, .int 0, .int 0]) (rest := []) ⟨hx, hb, hml, hown, hts⟩ (c_X10_init_X3 l D y s.heap.size h0 b 0 0) (cwI 3 hts gz_c_X5_init_c_X10_init_X3 rfl rfl rfl (hts (.initialized RX10) (by decide +kernel)) (hts (.methodLink RX5 3 yX10_init) (by decide +kernel)) (hts (.instanceMethod yX10_init) (by decide +kernel)) rfl (by decide +kernel) ⟨(Nat.le_of_ble_eq_true rfl), (Nat.le_of_ble_eq_true rfl)⟩) (zB.preS hPc hDc hK hN hE hO hT hG hS hFc (fun _ h => nomatch h) (fun _ h => nomatch h) (fun _ h => nomatch h) (fun _ h => nomatch h)) rfl rfl hl.1 rfl (lv_room (Nat.le_of_ble_eq_true rfl)) dX5_init_5 ⟨(Nat.le_of_ble_eq_true rfl), (Nat.le_of_ble_eq_true rfl)⟩) hS (fun q _ h => hFc q h) hFc (fun u t H1 locs ht hvm hw hB hz1 hk1 hS => ?_)
  obtain ⟨hP1, hD1⟩ := hB
  rw [ht] at hP1
  obtain ⟨hP, hD⟩ := va_join (wr := [(b, .inl (y 0, 0, .inl (fun _ => 0)))]) (w1 := [(h0, .inr (7, [.null, .int 0, .ref b, .int 0, .int 0, .null, .null, .null, .null, .int 0, .int 0, .long 0, .int 0, .int 0, .int 0, .null, .int 0]))]) hP hD [0] [1] rfl rfl (by decide) (by decide) hk1 hFc hP1 hD1
  generalize H1 = H at hP hS ⊢
  have hP : va_P D vwCl [(b, .inl (y 0, 0, .inl (fun _ => 0))), (h0, .inr (7, [.null, .int 0, .ref b, .int 0, .int 0, .null, .null, .null, .null, .int 0, .int 0, .long 0, .int 0, .int 0, .int 0, .null, .int 0]))] H := hP
  have hD : va_D A [(b, .inl (y 0, 0, .inl (fun _ => 0))), (h0, .inr (7, [.null, .int 0, .ref b, .int 0, .int 0, .null, .null, .null, .null, .int 0, .int 0, .long 0, .int 0, .int 0, .int 0, .null, .int 0]))] := hD
  refine lv_aload_n hx hb dX5_init_8 rfl (lv_at hl 0 rfl) ?_
  refine va_new (ci := 3) (fs := [.int 0, .null, .int 0]) (C := RJx4a65c) (T := TJx4a65c) (N := 3) hx hb hts (by decide +kernel) tyJx4a65c tyJx4a65c_ok hown (hts (.classLink RX5 9 RJx4a65c) (by decide +kernel)) (hts (.instantiable RJx4a65c 3) (by decide +kernel)) (hts (.initialized RJx4a65c) (by decide +kernel)) hK hP hD hS hA rfl (by decide) (Nat.le_of_ble_eq_true rfl) (Nat.le_of_ble_eq_true rfl) dX5_init_9 (fun q1 H hP hD hS => ?_)
  have hP : va_P D vwCl [(b, .inl (y 0, 0, .inl (fun _ => 0))), (h0, .inr (7, [.null, .int 0, .ref b, .int 0, .int 0, .null, .null, .null, .null, .int 0, .int 0, .long 0, .int 0, .int 0, .int 0, .null, .int 0])), (q1, .inr (3, [.int 0, .null, .int 0]))] H := hP
  have hD : va_D A [(b, .inl (y 0, 0, .inl (fun _ => 0))), (h0, .inr (7, [.null, .int 0, .ref b, .int 0, .int 0, .null, .null, .null, .null, .int 0, .int 0, .long 0, .int 0, .int 0, .int 0, .null, .int 0])), (q1, .inr (3, [.int 0, .null, .int 0]))] := hD
  refine lv_dup hx hb dX5_init_12 rfl ?_
  have hPc := hP.sub (ws' := [(q1, .inr (3, [.int 0, .null, .int 0]))]) [2] rfl
  have hDc := hD.sub (ws' := [(q1, .inr (3, [.int 0, .null, .int 0]))]) [2] (by decide) rfl
  have hFc := va_free (wc := [(q1, .inr (3, [.int 0, .null, .int 0]))]) hD hS hA [2] rfl
  refine va_callv (va_runI (As := []) (rest := [.ref q1, .ref h0]) ⟨hx, hb, hml, hown, hts⟩ (c_ArrayList_init l D y H.size q1 e0) (cwI 0 hts gz_c_X5_init_c_ArrayList_init rfl rfl rfl (hts (.initialized RJx4a65c) (by decide +kernel)) (hts (.methodLink RX5 11 yJx4a65c_init_da8c8) (by decide +kernel)) (hts (.instanceMethod yJx4a65c_init_da8c8) (by decide +kernel)) rfl (by decide +kernel) ⟨(Nat.le_of_ble_eq_true rfl), (Nat.le_of_ble_eq_true rfl)⟩) (zB.preS hPc hDc hK hN hE hO hT hG hS hFc (fun _ h => nomatch h) (List.forall_mem_cons.mpr ⟨List.mem_of_getElem? (i := 0) rfl, (fun _ h => nomatch h)⟩) (fun _ h => nomatch h) (fun _ h => nomatch h)) rfl rfl hl.1 rfl (lv_room (Nat.le_of_ble_eq_true rfl)) dX5_init_13 ⟨(Nat.le_of_ble_eq_true rfl), (Nat.le_of_ble_eq_true rfl)⟩) hS (fun q _ h => hFc q h) hFc (fun u t H1 locs ht hvm hw hB hz1 hk1 hS => ?_)
  obtain ⟨hP1, hD1⟩ := hB
  rw [ht] at hP1
  obtain ⟨hP, hD⟩ := va_join (wr := [(b, .inl (y 0, 0, .inl (fun _ => 0))), (h0, .inr (7, [.null, .int 0, .ref b, .int 0, .int 0, .null, .null, .null, .null, .int 0, .int 0, .long 0, .int 0, .int 0, .int 0, .null, .int 0]))]) (w1 := [(q1, .inr (3, [.int 0, .ref e0, .int 0]))]) hP hD [2] [0, 1] rfl rfl (by decide) (by decide) hk1 hFc hP1 hD1
  generalize H1 = H at hP hS ⊢
  have hP : va_P D vwCl [(b, .inl (y 0, 0, .inl (fun _ => 0))), (h0, .inr (7, [.null, .int 0, .ref b, .int 0, .int 0, .null, .null, .null, .null, .int 0, .int 0, .long 0, .int 0, .int 0, .int 0, .null, .int 0])), (q1, .inr (3, [.int 0, .ref e0, .int 0]))] H := hP
  have hD : va_D A [(b, .inl (y 0, 0, .inl (fun _ => 0))), (h0, .inr (7, [.null, .int 0, .ref b, .int 0, .int 0, .null, .null, .null, .null, .int 0, .int 0, .long 0, .int 0, .int 0, .int 0, .null, .int 0])), (q1, .inr (3, [.int 0, .ref e0, .int 0]))] := hD
  refine va_putF (D := D) (ci := 7) (v := .ref q1) (ty := (.object "java/util/ArrayList")) (C := RX3) (T := TX3) (N := 17) hx hb hts (by decide +kernel) tyX3 tyX3_ok nmX3 hown hK hP hD hS 1 rfl rfl 0 (by decide) (hts (.fieldLink RX5 14 "SignetRing$Place" "seals" "Ljava/util/ArrayList;") (by decide +kernel)) (fun _ h9 => h9) rfl hin rfl (by decide +kernel) rfl rfl (Nat.le_of_ble_eq_true rfl) dX5_init_16 (fun H locs hP hD hS => ?_)
  have hP : va_P D vwCl [(b, .inl (y 0, 0, .inl (fun _ => 0))), (h0, .inr (7, [.ref q1, .int 0, .ref b, .int 0, .int 0, .null, .null, .null, .null, .int 0, .int 0, .long 0, .int 0, .int 0, .int 0, .null, .int 0])), (q1, .inr (3, [.int 0, .ref e0, .int 0]))] H := hP
  have hD : va_D A [(b, .inl (y 0, 0, .inl (fun _ => 0))), (h0, .inr (7, [.ref q1, .int 0, .ref b, .int 0, .int 0, .null, .null, .null, .null, .int 0, .int 0, .long 0, .int 0, .int 0, .int 0, .null, .int 0])), (q1, .inr (3, [.int 0, .ref e0, .int 0]))] := hD
  have hP9 := hP.sub (ws' := [(h0, .inr (7, [.ref q1, .int 0, .ref b, .int 0, .int 0, .null, .null, .null, .null, .int 0, .int 0, .long 0, .int 0, .int 0, .int 0, .null, .int 0])), (b, .inl (y 0, 0, .inl (fun _ => 0))), (q1, .inr (3, [.int 0, .ref e0, .int 0]))]) [1, 0, 2] rfl
  have hD9 := hD.sub (ws' := [(h0, .inr (7, [.ref q1, .int 0, .ref b, .int 0, .int 0, .null, .null, .null, .null, .int 0, .int 0, .long 0, .int 0, .int 0, .int 0, .null, .int 0])), (b, .inl (y 0, 0, .inl (fun _ => 0))), (q1, .inr (3, [.int 0, .ref e0, .int 0]))]) [1, 0, 2] (by decide) rfl
  refine W.widen (k := 1) (n := 3) (Nat.le_of_ble_eq_true rfl) (Nat.le_of_ble_eq_true rfl) ?_
  exact W.vret hx hb hr (fun t ht hW => ⟨⟨(), rfl, trivial, q1, by rw [ht]; exact hP9, hD9⟩, hS.F ht⟩) hS.2.2 dX5_init_19
def wz_c_X3_init : List Cond := .code yX3_init cX3_init 3 none :: ([.initialized RX5, .methodLink RX3 3 yX5_init, .instanceMethod yX5_init, .classLink RX3 9 RJx4a65c, .instantiable RJx4a65c 3, .initialized RJx4a65c, .methodLink RX3 11 yJx4a65c_init_da8c8, .instanceMethod yJx4a65c_init_da8c8, .fieldLink RX3 14 "SignetRing$Key" "users" "Ljava/util/ArrayList;", .fieldLink RX3 20 "SignetRing$Key" "parts" "Ljava/util/ArrayList;", .arrayClass .byte, .fieldLink RX3 23 "SignetRing$Key" "print" "[B", .fieldLink RX3 27 "SignetRing$Key" "owner" "LSignetRing$Key;"] ++ (wsJx4a65c0 ++ (wsX30 ++ (wz_c_X5_init ++ (wz_c_ArrayList_init ++ ([]))))))
set_option maxRecDepth 100000 in
theorem gz_c_X3_init_c_X5_init : GoodIn wz_c_X3_init wz_c_X5_init := goodIn_sub (fun w h => List.mem_cons_of_mem _ (List.mem_append_right _ (List.mem_append_right _ (List.mem_append_right _ (List.mem_append_left _ h))))) (by decide +kernel)
set_option maxRecDepth 100000 in
theorem gz_c_X3_init_c_ArrayList_init : GoodIn wz_c_X3_init wz_c_ArrayList_init := goodIn_sub (fun w h => List.mem_cons_of_mem _ (List.mem_append_right _ (List.mem_append_right _ (List.mem_append_right _ (List.mem_append_right _ (List.mem_append_left _ h)))))) (by decide +kernel)
set_option maxHeartbeats 4000000 in
set_option maxRecDepth 100000 in
theorem c_X3_init (l : Launch) (D : va_G) (y : Nat → ClassId) (sz : Nat) (h0 : Nat) (b : Nat) (e0 : Nat) : Met l yX3_init wz_c_X3_init ({ frames := 5, cells := 4, slots := 29, locals := 93 }) (va_Pc [.ref h0, .ref b, .null] (zB D y [(h0, .inr (7, [.null, .int 0, .null, .int 0, .int 0, .null, .null, .null, .null, .int 0, .int 0, .long 0, .int 0, .int 0, .int 0, .null, .int 0])), (b, .inl (y 0, 0, .inl (fun _ => 0)))] sz [] [("java/util/ArrayList", "DEFAULTCAPACITY_EMPTY_ELEMENTDATA", "[Ljava/lang/Object;", .ref e0)] [] [])) (va_Qv (fun _ : Unit => True) (fun _ t => ∃ q1 q2 q3 q4 : Nat, va_P D vwCl [(h0, .inr (7, [.ref q1, .int 0, .ref b, .int 0, .int 0, .ref h0, .ref q2, .ref q3, .ref q4, .int 0, .int 0, .long 0, .int 0, .int 0, .int 0, .null, .int 0])), (b, .inl (y 0, 0, .inl (fun _ => 0))), (q1, .inr (3, [.int 0, .ref e0, .int 0])), (q2, .inr (3, [.int 0, .ref e0, .int 0])), (q3, .inr (3, [.int 0, .ref e0, .int 0])), (q4, .inl (y 0, 20, .inl (fun _ => 0)))] t.heap ∧ va_D (va_A [(h0, .inr (7, [.null, .int 0, .null, .int 0, .int 0, .null, .null, .null, .null, .int 0, .int 0, .long 0, .int 0, .int 0, .int 0, .null, .int 0])), (b, .inl (y 0, 0, .inl (fun _ => 0)))] sz) [(h0, .inr (7, [.ref q1, .int 0, .ref b, .int 0, .int 0, .ref h0, .ref q2, .ref q3, .ref q4, .int 0, .int 0, .long 0, .int 0, .int 0, .int 0, .null, .int 0])), (b, .inl (y 0, 0, .inl (fun _ => 0))), (q1, .inr (3, [.int 0, .ref e0, .int 0])), (q2, .inr (3, [.int 0, .ref e0, .int 0])), (q3, .inr (3, [.int 0, .ref e0, .int 0])), (q4, .inl (y 0, 20, .inl (fun _ => 0)))]) (va_A [(h0, .inr (7, [.null, .int 0, .null, .int 0, .int 0, .null, .null, .null, .null, .int 0, .int 0, .long 0, .int 0, .int 0, .int 0, .null, .int 0])), (b, .inl (y 0, 0, .inl (fun _ => 0)))] sz)) 4 29 (va_A [(h0, .inr (7, [.null, .int 0, .null, .int 0, .int 0, .null, .null, .null, .null, .int 0, .int 0, .long 0, .int 0, .int 0, .int 0, .null, .int 0])), (b, .inl (y 0, 0, .inl (fun _ => 0)))] sz) := by
  refine Met.ofW (cc := cX3_init) (maxL := 3) (ret := none) (by decide) rfl ?_
  intro p e s m args below meth c s₁ B hml hv
  obtain ⟨rfl, hsz, hP, hK, hD0, hN, hE, hO, hT, hG⟩ := hv
  have hx := B.exec
  have hb := B.bytes
  have hr := B.returns
  have hts := atoms_spec (ws := wz_c_X3_init) B.pre
  have hown : s.vm.findClass RX3 = some m.cls := findClass_of_methodNamed B.named
  have hlocks := B.notSynchronized
  have hin : meth.name = "<init>" := (name_of_methodNamed B.named B.method).1
  subst hsz
  have hD := hD0.self (sz := s.heap.size)
  generalize hAe : va_A [(h0, .inr (7, [.null, .int 0, .null, .int 0, .int 0, .null, .null, .null, .null, .int 0, .int 0, .long 0, .int 0, .int 0, .int 0, .null, .int 0])), (b, .inl (y 0, 0, .inl (fun _ => 0)))] s.heap.size = A at hD hE hT hG ⊢
  have hA : ∀ q : Nat, s.heap.size ≤ q → A q := fun q h => by rw [← hAe]; exact Or.inr h
  have hS : va_S A s.heap s.heap [] := va_S.rf
  have hl := lv_entry ([.ref h0, .ref b, .null]) (n := 3) (Nat.le_of_ble_eq_true rfl)
  rw [lg_entry_eq]
  generalize (lg_sl ([.ref h0, .ref b, .null]) ++ List.replicate (3 - (lg_sl ([.ref h0, .ref b, .null])).length) Slot.unset).toArray = ls at hl ⊢
  have hl : lv_has ls 3 [(0, .ref h0), (1, .ref b), (2, .null)] := hl
  refine lv_aload_n hx hb dX3_init_0 rfl (lv_at hl 0 rfl) ?_
  refine lv_aload_n hx hb dX3_init_1 rfl (lv_at hl 1 rfl) ?_
  have hPc := hP.sub (ws' := [(h0, .inr (7, [.null, .int 0, .null, .int 0, .int 0, .null, .null, .null, .null, .int 0, .int 0, .long 0, .int 0, .int 0, .int 0, .null, .int 0])), (b, .inl (y 0, 0, .inl (fun _ => 0)))]) [0, 1] rfl
  have hDc := hD.sub (ws' := [(h0, .inr (7, [.null, .int 0, .null, .int 0, .int 0, .null, .null, .null, .null, .int 0, .int 0, .long 0, .int 0, .int 0, .int 0, .null, .int 0])), (b, .inl (y 0, 0, .inl (fun _ => 0)))]) [0, 1] (by decide) rfl
  have hFc := va_free (wc := [(h0, .inr (7, [.null, .int 0, .null, .int 0, .int 0, .null, .null, .null, .null, .int 0, .int 0, .long 0, .int 0, .int 0, .int 0, .null, .int 0])), (b, .inl (y 0, 0, .inl (fun _ => 0)))]) hD hS hA [0, 1] rfl
  refine va_callv (va_runI (As := [.ref b]) (rest := []) ⟨hx, hb, hml, hown, hts⟩ (c_X5_init l D y s.heap.size h0 b e0) (cwI 1 hts gz_c_X3_init_c_X5_init rfl rfl rfl (hts (.initialized RX5) (by decide +kernel)) (hts (.methodLink RX3 3 yX5_init) (by decide +kernel)) (hts (.instanceMethod yX5_init) (by decide +kernel)) rfl (by decide +kernel) ⟨(Nat.le_of_ble_eq_true rfl), (Nat.le_of_ble_eq_true rfl)⟩) (zB.preS hPc hDc hK hN hE hO hT hG hS hFc (fun _ h => nomatch h) (List.forall_mem_cons.mpr ⟨List.mem_of_getElem? (i := 0) rfl, (fun _ h => nomatch h)⟩) (fun _ h => nomatch h) (fun _ h => nomatch h)) rfl rfl hl.1 rfl (lv_room (Nat.le_of_ble_eq_true rfl)) dX3_init_2 ⟨(Nat.le_of_ble_eq_true rfl), (Nat.le_of_ble_eq_true rfl)⟩) hS (fun q _ h => hFc q h) hFc (fun u t H1 locs ht hvm hw hB hz1 hk1 hS => ?_)
  obtain ⟨q1, hP1, hD1⟩ := hB
  rw [ht] at hP1
  obtain ⟨hP, hD⟩ := va_join (wr := []) (w1 := [(h0, .inr (7, [.ref q1, .int 0, .ref b, .int 0, .int 0, .null, .null, .null, .null, .int 0, .int 0, .long 0, .int 0, .int 0, .int 0, .null, .int 0])), (b, .inl (y 0, 0, .inl (fun _ => 0))), (q1, .inr (3, [.int 0, .ref e0, .int 0]))]) hP hD [0, 1] [] rfl rfl (by decide) (by decide) hk1 hFc hP1 hD1
  generalize H1 = H at hP hS ⊢
  have hP : va_P D vwCl [(h0, .inr (7, [.ref q1, .int 0, .ref b, .int 0, .int 0, .null, .null, .null, .null, .int 0, .int 0, .long 0, .int 0, .int 0, .int 0, .null, .int 0])), (b, .inl (y 0, 0, .inl (fun _ => 0))), (q1, .inr (3, [.int 0, .ref e0, .int 0]))] H := hP
  have hD : va_D A [(h0, .inr (7, [.ref q1, .int 0, .ref b, .int 0, .int 0, .null, .null, .null, .null, .int 0, .int 0, .long 0, .int 0, .int 0, .int 0, .null, .int 0])), (b, .inl (y 0, 0, .inl (fun _ => 0))), (q1, .inr (3, [.int 0, .ref e0, .int 0]))] := hD
  refine lv_aload_n hx hb dX3_init_5 rfl (lv_at hl 0 rfl) ?_
  refine va_new (ci := 3) (fs := [.int 0, .null, .int 0]) (C := RJx4a65c) (T := TJx4a65c) (N := 3) hx hb hts (by decide +kernel) tyJx4a65c tyJx4a65c_ok hown (hts (.classLink RX3 9 RJx4a65c) (by decide +kernel)) (hts (.instantiable RJx4a65c 3) (by decide +kernel)) (hts (.initialized RJx4a65c) (by decide +kernel)) hK hP hD hS hA rfl (by decide) (Nat.le_of_ble_eq_true rfl) (Nat.le_of_ble_eq_true rfl) dX3_init_6 (fun q2 H hP hD hS => ?_)
  have hP : va_P D vwCl [(h0, .inr (7, [.ref q1, .int 0, .ref b, .int 0, .int 0, .null, .null, .null, .null, .int 0, .int 0, .long 0, .int 0, .int 0, .int 0, .null, .int 0])), (b, .inl (y 0, 0, .inl (fun _ => 0))), (q1, .inr (3, [.int 0, .ref e0, .int 0])), (q2, .inr (3, [.int 0, .null, .int 0]))] H := hP
  have hD : va_D A [(h0, .inr (7, [.ref q1, .int 0, .ref b, .int 0, .int 0, .null, .null, .null, .null, .int 0, .int 0, .long 0, .int 0, .int 0, .int 0, .null, .int 0])), (b, .inl (y 0, 0, .inl (fun _ => 0))), (q1, .inr (3, [.int 0, .ref e0, .int 0])), (q2, .inr (3, [.int 0, .null, .int 0]))] := hD
  refine lv_dup hx hb dX3_init_9 rfl ?_
  have hPc := hP.sub (ws' := [(q2, .inr (3, [.int 0, .null, .int 0]))]) [3] rfl
  have hDc := hD.sub (ws' := [(q2, .inr (3, [.int 0, .null, .int 0]))]) [3] (by decide) rfl
  have hFc := va_free (wc := [(q2, .inr (3, [.int 0, .null, .int 0]))]) hD hS hA [3] rfl
  refine va_callv (va_runI (As := []) (rest := [.ref q2, .ref h0]) ⟨hx, hb, hml, hown, hts⟩ (c_ArrayList_init l D y H.size q2 e0) (cwI 0 hts gz_c_X3_init_c_ArrayList_init rfl rfl rfl (hts (.initialized RJx4a65c) (by decide +kernel)) (hts (.methodLink RX3 11 yJx4a65c_init_da8c8) (by decide +kernel)) (hts (.instanceMethod yJx4a65c_init_da8c8) (by decide +kernel)) rfl (by decide +kernel) ⟨(Nat.le_of_ble_eq_true rfl), (Nat.le_of_ble_eq_true rfl)⟩) (zB.preS hPc hDc hK hN hE hO hT hG hS hFc (fun _ h => nomatch h) (List.forall_mem_cons.mpr ⟨List.mem_of_getElem? (i := 0) rfl, (fun _ h => nomatch h)⟩) (fun _ h => nomatch h) (fun _ h => nomatch h)) rfl rfl hl.1 rfl (lv_room (Nat.le_of_ble_eq_true rfl)) dX3_init_10 ⟨(Nat.le_of_ble_eq_true rfl), (Nat.le_of_ble_eq_true rfl)⟩) hS (fun q _ h => hFc q h) hFc (fun u t H1 locs ht hvm hw hB hz1 hk1 hS => ?_)
  obtain ⟨hP1, hD1⟩ := hB
  rw [ht] at hP1
  obtain ⟨hP, hD⟩ := va_join (wr := [(h0, .inr (7, [.ref q1, .int 0, .ref b, .int 0, .int 0, .null, .null, .null, .null, .int 0, .int 0, .long 0, .int 0, .int 0, .int 0, .null, .int 0])), (b, .inl (y 0, 0, .inl (fun _ => 0))), (q1, .inr (3, [.int 0, .ref e0, .int 0]))]) (w1 := [(q2, .inr (3, [.int 0, .ref e0, .int 0]))]) hP hD [3] [0, 1, 2] rfl rfl (by decide) (by decide) hk1 hFc hP1 hD1
  generalize H1 = H at hP hS ⊢
  have hP : va_P D vwCl [(h0, .inr (7, [.ref q1, .int 0, .ref b, .int 0, .int 0, .null, .null, .null, .null, .int 0, .int 0, .long 0, .int 0, .int 0, .int 0, .null, .int 0])), (b, .inl (y 0, 0, .inl (fun _ => 0))), (q1, .inr (3, [.int 0, .ref e0, .int 0])), (q2, .inr (3, [.int 0, .ref e0, .int 0]))] H := hP
  have hD : va_D A [(h0, .inr (7, [.ref q1, .int 0, .ref b, .int 0, .int 0, .null, .null, .null, .null, .int 0, .int 0, .long 0, .int 0, .int 0, .int 0, .null, .int 0])), (b, .inl (y 0, 0, .inl (fun _ => 0))), (q1, .inr (3, [.int 0, .ref e0, .int 0])), (q2, .inr (3, [.int 0, .ref e0, .int 0]))] := hD
  refine va_putF (D := D) (ci := 7) (v := .ref q2) (ty := (.object "java/util/ArrayList")) (C := RX3) (T := TX3) (N := 17) hx hb hts (by decide +kernel) tyX3 tyX3_ok nmX3 hown hK hP hD hS 0 rfl rfl 6 (by decide) (hts (.fieldLink RX3 14 "SignetRing$Key" "users" "Ljava/util/ArrayList;") (by decide +kernel)) (fun _ h9 => h9) rfl hin rfl (by decide +kernel) rfl rfl (Nat.le_of_ble_eq_true rfl) dX3_init_13 (fun H locs hP hD hS => ?_)
  have hP : va_P D vwCl [(h0, .inr (7, [.ref q1, .int 0, .ref b, .int 0, .int 0, .null, .ref q2, .null, .null, .int 0, .int 0, .long 0, .int 0, .int 0, .int 0, .null, .int 0])), (b, .inl (y 0, 0, .inl (fun _ => 0))), (q1, .inr (3, [.int 0, .ref e0, .int 0])), (q2, .inr (3, [.int 0, .ref e0, .int 0]))] H := hP
  have hD : va_D A [(h0, .inr (7, [.ref q1, .int 0, .ref b, .int 0, .int 0, .null, .ref q2, .null, .null, .int 0, .int 0, .long 0, .int 0, .int 0, .int 0, .null, .int 0])), (b, .inl (y 0, 0, .inl (fun _ => 0))), (q1, .inr (3, [.int 0, .ref e0, .int 0])), (q2, .inr (3, [.int 0, .ref e0, .int 0]))] := hD
  refine lv_aload_n hx hb dX3_init_16 rfl (lv_at hl 0 rfl) ?_
  refine va_new (ci := 3) (fs := [.int 0, .null, .int 0]) (C := RJx4a65c) (T := TJx4a65c) (N := 3) hx hb hts (by decide +kernel) tyJx4a65c tyJx4a65c_ok hown (hts (.classLink RX3 9 RJx4a65c) (by decide +kernel)) (hts (.instantiable RJx4a65c 3) (by decide +kernel)) (hts (.initialized RJx4a65c) (by decide +kernel)) hK hP hD hS hA rfl (by decide) (Nat.le_of_ble_eq_true rfl) (Nat.le_of_ble_eq_true rfl) dX3_init_17 (fun q3 H hP hD hS => ?_)
  have hP : va_P D vwCl [(h0, .inr (7, [.ref q1, .int 0, .ref b, .int 0, .int 0, .null, .ref q2, .null, .null, .int 0, .int 0, .long 0, .int 0, .int 0, .int 0, .null, .int 0])), (b, .inl (y 0, 0, .inl (fun _ => 0))), (q1, .inr (3, [.int 0, .ref e0, .int 0])), (q2, .inr (3, [.int 0, .ref e0, .int 0])), (q3, .inr (3, [.int 0, .null, .int 0]))] H := hP
  have hD : va_D A [(h0, .inr (7, [.ref q1, .int 0, .ref b, .int 0, .int 0, .null, .ref q2, .null, .null, .int 0, .int 0, .long 0, .int 0, .int 0, .int 0, .null, .int 0])), (b, .inl (y 0, 0, .inl (fun _ => 0))), (q1, .inr (3, [.int 0, .ref e0, .int 0])), (q2, .inr (3, [.int 0, .ref e0, .int 0])), (q3, .inr (3, [.int 0, .null, .int 0]))] := hD
  refine lv_dup hx hb dX3_init_20 rfl ?_
  have hPc := hP.sub (ws' := [(q3, .inr (3, [.int 0, .null, .int 0]))]) [4] rfl
  have hDc := hD.sub (ws' := [(q3, .inr (3, [.int 0, .null, .int 0]))]) [4] (by decide) rfl
  have hFc := va_free (wc := [(q3, .inr (3, [.int 0, .null, .int 0]))]) hD hS hA [4] rfl
  refine va_callv (va_runI (As := []) (rest := [.ref q3, .ref h0]) ⟨hx, hb, hml, hown, hts⟩ (c_ArrayList_init l D y H.size q3 e0) (cwI 0 hts gz_c_X3_init_c_ArrayList_init rfl rfl rfl (hts (.initialized RJx4a65c) (by decide +kernel)) (hts (.methodLink RX3 11 yJx4a65c_init_da8c8) (by decide +kernel)) (hts (.instanceMethod yJx4a65c_init_da8c8) (by decide +kernel)) rfl (by decide +kernel) ⟨(Nat.le_of_ble_eq_true rfl), (Nat.le_of_ble_eq_true rfl)⟩) (zB.preS hPc hDc hK hN hE hO hT hG hS hFc (fun _ h => nomatch h) (List.forall_mem_cons.mpr ⟨List.mem_of_getElem? (i := 0) rfl, (fun _ h => nomatch h)⟩) (fun _ h => nomatch h) (fun _ h => nomatch h)) rfl rfl hl.1 rfl (lv_room (Nat.le_of_ble_eq_true rfl)) dX3_init_21 ⟨(Nat.le_of_ble_eq_true rfl), (Nat.le_of_ble_eq_true rfl)⟩) hS (fun q _ h => hFc q h) hFc (fun u t H1 locs ht hvm hw hB hz1 hk1 hS => ?_)
  obtain ⟨hP1, hD1⟩ := hB
  rw [ht] at hP1
  obtain ⟨hP, hD⟩ := va_join (wr := [(h0, .inr (7, [.ref q1, .int 0, .ref b, .int 0, .int 0, .null, .ref q2, .null, .null, .int 0, .int 0, .long 0, .int 0, .int 0, .int 0, .null, .int 0])), (b, .inl (y 0, 0, .inl (fun _ => 0))), (q1, .inr (3, [.int 0, .ref e0, .int 0])), (q2, .inr (3, [.int 0, .ref e0, .int 0]))]) (w1 := [(q3, .inr (3, [.int 0, .ref e0, .int 0]))]) hP hD [4] [0, 1, 2, 3] rfl rfl (by decide) (by decide) hk1 hFc hP1 hD1
  generalize H1 = H at hP hS ⊢
  have hP : va_P D vwCl [(h0, .inr (7, [.ref q1, .int 0, .ref b, .int 0, .int 0, .null, .ref q2, .null, .null, .int 0, .int 0, .long 0, .int 0, .int 0, .int 0, .null, .int 0])), (b, .inl (y 0, 0, .inl (fun _ => 0))), (q1, .inr (3, [.int 0, .ref e0, .int 0])), (q2, .inr (3, [.int 0, .ref e0, .int 0])), (q3, .inr (3, [.int 0, .ref e0, .int 0]))] H := hP
  have hD : va_D A [(h0, .inr (7, [.ref q1, .int 0, .ref b, .int 0, .int 0, .null, .ref q2, .null, .null, .int 0, .int 0, .long 0, .int 0, .int 0, .int 0, .null, .int 0])), (b, .inl (y 0, 0, .inl (fun _ => 0))), (q1, .inr (3, [.int 0, .ref e0, .int 0])), (q2, .inr (3, [.int 0, .ref e0, .int 0])), (q3, .inr (3, [.int 0, .ref e0, .int 0]))] := hD
  refine va_putF (D := D) (ci := 7) (v := .ref q3) (ty := (.object "java/util/ArrayList")) (C := RX3) (T := TX3) (N := 17) hx hb hts (by decide +kernel) tyX3 tyX3_ok nmX3 hown hK hP hD hS 0 rfl rfl 7 (by decide) (hts (.fieldLink RX3 20 "SignetRing$Key" "parts" "Ljava/util/ArrayList;") (by decide +kernel)) (fun _ h9 => h9) rfl hin rfl (by decide +kernel) rfl rfl (Nat.le_of_ble_eq_true rfl) dX3_init_24 (fun H locs hP hD hS => ?_)
  have hP : va_P D vwCl [(h0, .inr (7, [.ref q1, .int 0, .ref b, .int 0, .int 0, .null, .ref q2, .ref q3, .null, .int 0, .int 0, .long 0, .int 0, .int 0, .int 0, .null, .int 0])), (b, .inl (y 0, 0, .inl (fun _ => 0))), (q1, .inr (3, [.int 0, .ref e0, .int 0])), (q2, .inr (3, [.int 0, .ref e0, .int 0])), (q3, .inr (3, [.int 0, .ref e0, .int 0]))] H := hP
  have hD : va_D A [(h0, .inr (7, [.ref q1, .int 0, .ref b, .int 0, .int 0, .null, .ref q2, .ref q3, .null, .int 0, .int 0, .long 0, .int 0, .int 0, .int 0, .null, .int 0])), (b, .inl (y 0, 0, .inl (fun _ => 0))), (q1, .inr (3, [.int 0, .ref e0, .int 0])), (q2, .inr (3, [.int 0, .ref e0, .int 0])), (q3, .inr (3, [.int 0, .ref e0, .int 0]))] := hD
  refine lv_aload_n hx hb dX3_init_27 rfl (lv_at hl 0 rfl) ?_
  refine lv_bipush (v := 20) hx hb dX3_init_28 (by decide) ?_
  refine zz_newa (atype := .byte) (n := 20) (N' := 20) (a0 := (20, .inl (fun _ => 0))) (ty := .byte) hx hb (hts (.arrayClass .byte) (by decide +kernel)) rfl hK 0 rfl hP hD hS hA (zz_aB 20) (by decide +kernel) (by decide +kernel) (by decide +kernel) (Nat.le_of_ble_eq_true rfl) (Nat.le_of_ble_eq_true rfl) dX3_init_30 (fun q4 H hP hD hS => ?_)
  have hP : va_P D vwCl [(h0, .inr (7, [.ref q1, .int 0, .ref b, .int 0, .int 0, .null, .ref q2, .ref q3, .null, .int 0, .int 0, .long 0, .int 0, .int 0, .int 0, .null, .int 0])), (b, .inl (y 0, 0, .inl (fun _ => 0))), (q1, .inr (3, [.int 0, .ref e0, .int 0])), (q2, .inr (3, [.int 0, .ref e0, .int 0])), (q3, .inr (3, [.int 0, .ref e0, .int 0])), (q4, .inl (y 0, 20, .inl (fun _ => 0)))] H := hP
  have hD : va_D A [(h0, .inr (7, [.ref q1, .int 0, .ref b, .int 0, .int 0, .null, .ref q2, .ref q3, .null, .int 0, .int 0, .long 0, .int 0, .int 0, .int 0, .null, .int 0])), (b, .inl (y 0, 0, .inl (fun _ => 0))), (q1, .inr (3, [.int 0, .ref e0, .int 0])), (q2, .inr (3, [.int 0, .ref e0, .int 0])), (q3, .inr (3, [.int 0, .ref e0, .int 0])), (q4, .inl (y 0, 20, .inl (fun _ => 0)))] := hD
  refine va_putF (D := D) (ci := 7) (v := .ref q4) (ty := (.array .byte)) (C := RX3) (T := TX3) (N := 17) hx hb hts (by decide +kernel) tyX3 tyX3_ok nmX3 hown hK hP hD hS 0 rfl rfl 8 (by decide) (hts (.fieldLink RX3 23 "SignetRing$Key" "print" "[B") (by decide +kernel)) (fun _ h9 => h9) rfl hin rfl (by decide +kernel) rfl rfl (Nat.le_of_ble_eq_true rfl) dX3_init_32 (fun H locs hP hD hS => ?_)
  have hP : va_P D vwCl [(h0, .inr (7, [.ref q1, .int 0, .ref b, .int 0, .int 0, .null, .ref q2, .ref q3, .ref q4, .int 0, .int 0, .long 0, .int 0, .int 0, .int 0, .null, .int 0])), (b, .inl (y 0, 0, .inl (fun _ => 0))), (q1, .inr (3, [.int 0, .ref e0, .int 0])), (q2, .inr (3, [.int 0, .ref e0, .int 0])), (q3, .inr (3, [.int 0, .ref e0, .int 0])), (q4, .inl (y 0, 20, .inl (fun _ => 0)))] H := hP
  have hD : va_D A [(h0, .inr (7, [.ref q1, .int 0, .ref b, .int 0, .int 0, .null, .ref q2, .ref q3, .ref q4, .int 0, .int 0, .long 0, .int 0, .int 0, .int 0, .null, .int 0])), (b, .inl (y 0, 0, .inl (fun _ => 0))), (q1, .inr (3, [.int 0, .ref e0, .int 0])), (q2, .inr (3, [.int 0, .ref e0, .int 0])), (q3, .inr (3, [.int 0, .ref e0, .int 0])), (q4, .inl (y 0, 20, .inl (fun _ => 0)))] := hD
  refine lv_aload_n hx hb dX3_init_35 rfl (lv_at hl 0 rfl) ?_
  refine lv_aload_nN hx hb dX3_init_36 rfl (lv_at hl 2 rfl) ?_
  refine lv_ifnonnullN hx hb dX3_init_37 ?_
  refine lv_aload_n hx hb dX3_init_40 rfl (lv_at hl 0 rfl) ?_
  refine lv_goto (tgt := 45) hx hb dX3_init_41 (by decide) ?_
  refine va_putF (D := D) (ci := 7) (v := .ref h0) (ty := (.object "SignetRing$Key")) (C := RX3) (T := TX3) (N := 17) hx hb hts (by decide +kernel) tyX3 tyX3_ok nmX3 hown hK hP hD hS 0 rfl rfl 5 (by decide) (hts (.fieldLink RX3 27 "SignetRing$Key" "owner" "LSignetRing$Key;") (by decide +kernel)) (fun _ h9 => h9) rfl hin rfl (by decide +kernel) rfl rfl (Nat.le_of_ble_eq_true rfl) dX3_init_45 (fun H locs hP hD hS => ?_)
  have hP : va_P D vwCl [(h0, .inr (7, [.ref q1, .int 0, .ref b, .int 0, .int 0, .ref h0, .ref q2, .ref q3, .ref q4, .int 0, .int 0, .long 0, .int 0, .int 0, .int 0, .null, .int 0])), (b, .inl (y 0, 0, .inl (fun _ => 0))), (q1, .inr (3, [.int 0, .ref e0, .int 0])), (q2, .inr (3, [.int 0, .ref e0, .int 0])), (q3, .inr (3, [.int 0, .ref e0, .int 0])), (q4, .inl (y 0, 20, .inl (fun _ => 0)))] H := hP
  have hD : va_D A [(h0, .inr (7, [.ref q1, .int 0, .ref b, .int 0, .int 0, .ref h0, .ref q2, .ref q3, .ref q4, .int 0, .int 0, .long 0, .int 0, .int 0, .int 0, .null, .int 0])), (b, .inl (y 0, 0, .inl (fun _ => 0))), (q1, .inr (3, [.int 0, .ref e0, .int 0])), (q2, .inr (3, [.int 0, .ref e0, .int 0])), (q3, .inr (3, [.int 0, .ref e0, .int 0])), (q4, .inl (y 0, 20, .inl (fun _ => 0)))] := hD
  have hP9 := hP.sub (ws' := [(h0, .inr (7, [.ref q1, .int 0, .ref b, .int 0, .int 0, .ref h0, .ref q2, .ref q3, .ref q4, .int 0, .int 0, .long 0, .int 0, .int 0, .int 0, .null, .int 0])), (b, .inl (y 0, 0, .inl (fun _ => 0))), (q1, .inr (3, [.int 0, .ref e0, .int 0])), (q2, .inr (3, [.int 0, .ref e0, .int 0])), (q3, .inr (3, [.int 0, .ref e0, .int 0])), (q4, .inl (y 0, 20, .inl (fun _ => 0)))]) [0, 1, 2, 3, 4, 5] rfl
  have hD9 := hD.sub (ws' := [(h0, .inr (7, [.ref q1, .int 0, .ref b, .int 0, .int 0, .ref h0, .ref q2, .ref q3, .ref q4, .int 0, .int 0, .long 0, .int 0, .int 0, .int 0, .null, .int 0])), (b, .inl (y 0, 0, .inl (fun _ => 0))), (q1, .inr (3, [.int 0, .ref e0, .int 0])), (q2, .inr (3, [.int 0, .ref e0, .int 0])), (q3, .inr (3, [.int 0, .ref e0, .int 0])), (q4, .inl (y 0, 20, .inl (fun _ => 0)))]) [0, 1, 2, 3, 4, 5] (by decide) rfl
  refine W.widen (k := 4) (n := 29) (Nat.le_of_ble_eq_true rfl) (Nat.le_of_ble_eq_true rfl) ?_
  exact W.vret hx hb hr (fun t ht hW => ⟨⟨(), rfl, trivial, q1, q2, q3, q4, by rw [ht]; exact hP9, hD9⟩, hS.F ht⟩) hS.2.2 dX3_init_48

def wz_c_size : List Cond := .code yJx4a65c_size_8abf5 cJx4a65c_size_8abf5 1 (some .int) :: ([.fieldLink RJx4a65c 48 "java/util/ArrayList" "size" "I"] ++ (wsJx4a65c0 ++ ([])))
set_option maxHeartbeats 4000000 in
set_option maxRecDepth 100000 in
theorem c_size (l : Launch) (D : va_G) (y : Nat → ClassId) (sz : Nat) (h0 : Nat) (w1 : Value) (w2 : Value) (n : Int32) : Met l yJx4a65c_size_8abf5 wz_c_size ({ frames := 0, cells := 0, slots := 0, locals := 0 }) (va_Pc [.ref h0] (zB D y [(h0, .inr (3, [w1, w2, .int n]))] sz [] [] [] [])) (va_Qi (fun (r : Int32) (_ : Unit) => r = n) (fun _ t => va_P D vwCl [(h0, .inr (3, [w1, w2, .int n]))] t.heap ∧ va_D (va_A [(h0, .inr (3, [w1, w2, .int n]))] sz) [(h0, .inr (3, [w1, w2, .int n]))]) (va_A [(h0, .inr (3, [w1, w2, .int n]))] sz)) 0 0 (va_A [(h0, .inr (3, [w1, w2, .int n]))] sz) := by
  refine Met.ofW (cc := cJx4a65c_size_8abf5) (maxL := 1) (ret := (some .int)) (by decide) rfl ?_
  intro p e s m args below meth c s₁ B hml hv
  obtain ⟨rfl, hsz, hP, hK, hD0, hN, hE, hO, hT, hG⟩ := hv
  have hx := B.exec
  have hb := B.bytes
  have hr := B.returns
  have hts := atoms_spec (ws := wz_c_size) B.pre
  have hown : s.vm.findClass RJx4a65c = some m.cls := findClass_of_methodNamed B.named
  have hlocks := B.notSynchronized
  subst hsz
  have hD := hD0.self (sz := s.heap.size)
  generalize hAe : va_A [(h0, .inr (3, [w1, w2, .int n]))] s.heap.size = A at hD hE hT hG ⊢
  have hA : ∀ q : Nat, s.heap.size ≤ q → A q := fun q h => by rw [← hAe]; exact Or.inr h
  have hS : va_S A s.heap s.heap [] := va_S.rf
  have hl := lv_entry ([.ref h0]) (n := 1) (Nat.le_of_ble_eq_true rfl)
  rw [lg_entry_eq]
  generalize (lg_sl ([.ref h0]) ++ List.replicate (1 - (lg_sl ([.ref h0])).length) Slot.unset).toArray = ls at hl ⊢
  have hl : lv_has ls 1 [(0, .ref h0)] := hl
  refine lv_aload_n hx hb dJx4a65c_size_8abf5_0 rfl (lv_at hl 0 rfl) ?_
  refine va_get (D := D) (ci := 3) (v := .int n) (C := RJx4a65c) (T := TJx4a65c) (N := 3) hx hb hts (by decide +kernel) hown hK hP 0 rfl rfl 2 (by decide) (hts (.fieldLink RJx4a65c 48 "java/util/ArrayList" "size" "I") (by decide +kernel)) (fun _ h9 => h9) rfl dJx4a65c_size_8abf5_1 ?_
  have hP9 := hP.sub (ws' := [(h0, .inr (3, [w1, w2, .int n]))]) [0] rfl
  have hD9 := hD.sub (ws' := [(h0, .inr (3, [w1, w2, .int n]))]) [0] (by decide) rfl
  refine W.widen (k := 0) (n := 0) (Nat.le_of_ble_eq_true rfl) (Nat.le_of_ble_eq_true rfl) ?_
  exact W.iret (v := n) hx hb hr (fun t ht hW => ⟨⟨n, (), rfl, rfl, by rw [ht]; exact hP9, hD9⟩, hS.F ht⟩) hS.2.2 dJx4a65c_size_8abf5_4
def wz_c_X11_keys : List Cond := .code yX11_keys cX11_keys 1 (some .int) :: ([.fieldLink RX11 60 "SignetRing" "ring" "LSignetRing$Ring;", .fieldLink RX11 130 "SignetRing$Ring" "keys" "Ljava/util/ArrayList;", .methodLink RX11 134 yJx4a65c_size_8abf5, .instanceMethod yJx4a65c_size_8abf5, .selects RJx4a65c yJx4a65c_size_8abf5 yJx4a65c_size_8abf5, .initialized RJx4a65c] ++ (wsX110 ++ (wsX70 ++ (wz_c_size ++ ([])))))
set_option maxRecDepth 100000 in
theorem gz_c_X11_keys_c_size : GoodIn wz_c_X11_keys wz_c_size := goodIn_sub (fun w h => List.mem_cons_of_mem _ (List.mem_append_right _ (List.mem_append_right _ (List.mem_append_right _ (List.mem_append_left _ h))))) (by decide +kernel)
set_option maxRecDepth 100000 in
theorem gv_c_X11_keys_c_size_134 : GoodIn wz_c_X11_keys (wsV RX11 134 RJx4a65c yJx4a65c_size_8abf5 wz_c_size) := goodIn_app (goodIn_of _ (by decide +kernel)) gz_c_X11_keys_c_size
set_option maxHeartbeats 4000000 in
set_option maxRecDepth 100000 in
theorem c_X11_keys (l : Launch) (D : va_G) (y : Nat → ClassId) (sz : Nat) (h0 : Nat) (g : Nat) (ks : Nat) (w1 : Value) (w2 : Value) (w3 : Value) (w4 : Value) (w5 : Value) (w6 : Value) (w7 : Value) (w8 : Value) (w9 : Value) (w10 : Value) (w11 : Value) (w12 : Value) (w13 : Value) (w14 : Value) (w15 : Value) (w16 : Value) (w17 : Value) (w18 : Value) (w19 : Value) (w20 : Value) (w21 : Value) (w22 : Value) : Met l yX11_keys wz_c_X11_keys ({ frames := 1, cells := 0, slots := 0, locals := 20 }) (va_Pc [.ref h0] (zB D y [(h0, .inr (15, [w1, w2, w3, w4, w5, w6, w7, w8, .ref g, w9, w10, w11, w12, w13, w14])), (g, .inr (11, [.ref ks, w15, w16, w17, w18, w19, w20])), (ks, .inr (3, [w21, w22, .int 0]))] sz [] [] [] [])) (va_Qi (fun (r : Int32) (_ : Unit) => r = 0) (fun _ t => va_P D vwCl [(h0, .inr (15, [w1, w2, w3, w4, w5, w6, w7, w8, .ref g, w9, w10, w11, w12, w13, w14])), (g, .inr (11, [.ref ks, w15, w16, w17, w18, w19, w20])), (ks, .inr (3, [w21, w22, .int 0]))] t.heap ∧ va_D (va_A [(h0, .inr (15, [w1, w2, w3, w4, w5, w6, w7, w8, .ref g, w9, w10, w11, w12, w13, w14])), (g, .inr (11, [.ref ks, w15, w16, w17, w18, w19, w20])), (ks, .inr (3, [w21, w22, .int 0]))] sz) [(h0, .inr (15, [w1, w2, w3, w4, w5, w6, w7, w8, .ref g, w9, w10, w11, w12, w13, w14])), (g, .inr (11, [.ref ks, w15, w16, w17, w18, w19, w20])), (ks, .inr (3, [w21, w22, .int 0]))]) (va_A [(h0, .inr (15, [w1, w2, w3, w4, w5, w6, w7, w8, .ref g, w9, w10, w11, w12, w13, w14])), (g, .inr (11, [.ref ks, w15, w16, w17, w18, w19, w20])), (ks, .inr (3, [w21, w22, .int 0]))] sz)) 0 0 (va_A [(h0, .inr (15, [w1, w2, w3, w4, w5, w6, w7, w8, .ref g, w9, w10, w11, w12, w13, w14])), (g, .inr (11, [.ref ks, w15, w16, w17, w18, w19, w20])), (ks, .inr (3, [w21, w22, .int 0]))] sz) := by
  refine Met.ofW (cc := cX11_keys) (maxL := 1) (ret := (some .int)) (by decide) rfl ?_
  intro p e s m args below meth c s₁ B hml hv
  obtain ⟨rfl, hsz, hP, hK, hD0, hN, hE, hO, hT, hG⟩ := hv
  have hx := B.exec
  have hb := B.bytes
  have hr := B.returns
  have hts := atoms_spec (ws := wz_c_X11_keys) B.pre
  have hown : s.vm.findClass RX11 = some m.cls := findClass_of_methodNamed B.named
  have hlocks := B.notSynchronized
  subst hsz
  have hD := hD0.self (sz := s.heap.size)
  generalize hAe : va_A [(h0, .inr (15, [w1, w2, w3, w4, w5, w6, w7, w8, .ref g, w9, w10, w11, w12, w13, w14])), (g, .inr (11, [.ref ks, w15, w16, w17, w18, w19, w20])), (ks, .inr (3, [w21, w22, .int 0]))] s.heap.size = A at hD hE hT hG ⊢
  have hA : ∀ q : Nat, s.heap.size ≤ q → A q := fun q h => by rw [← hAe]; exact Or.inr h
  have hS : va_S A s.heap s.heap [] := va_S.rf
  have hl := lv_entry ([.ref h0]) (n := 1) (Nat.le_of_ble_eq_true rfl)
  rw [lg_entry_eq]
  generalize (lg_sl ([.ref h0]) ++ List.replicate (1 - (lg_sl ([.ref h0])).length) Slot.unset).toArray = ls at hl ⊢
  have hl : lv_has ls 1 [(0, .ref h0)] := hl
  refine lv_aload_n hx hb dX11_keys_0 rfl (lv_at hl 0 rfl) ?_
  refine va_get (D := D) (ci := 15) (v := .ref g) (C := RX11) (T := TX11) (N := 15) hx hb hts (by decide +kernel) hown hK hP 0 rfl rfl 8 (by decide) (hts (.fieldLink RX11 60 "SignetRing" "ring" "LSignetRing$Ring;") (by decide +kernel)) (fun _ h9 => h9) rfl dX11_keys_1 ?_
  refine va_get (D := D) (ci := 11) (v := .ref ks) (C := RX7) (T := TX7) (N := 7) hx hb hts (by decide +kernel) hown hK hP 1 rfl rfl 0 (by decide) (hts (.fieldLink RX11 130 "SignetRing$Ring" "keys" "Ljava/util/ArrayList;") (by decide +kernel)) (fun _ h9 => h9) rfl dX11_keys_4 ?_
  have hPc := hP.sub (ws' := [(ks, .inr (3, [w21, w22, .int 0]))]) [2] rfl
  have hDc := hD.sub (ws' := [(ks, .inr (3, [w21, w22, .int 0]))]) [2] (by decide) rfl
  have hFc := va_free (wc := [(ks, .inr (3, [w21, w22, .int 0]))]) hD hS hA [2] rfl
  refine va_calli (va_runV (As := []) (rest := []) ⟨hx, hb, hml, hown, hts⟩ (c_size l D y s.heap.size ks w21 w22 0) (cwV 0 hts gv_c_X11_keys_c_size_134 rfl rfl rfl (by decide +kernel) ⟨(Nat.le_of_ble_eq_true rfl), (Nat.le_of_ble_eq_true rfl)⟩) (zB.preV hPc hDc hK hN hE hO hT hG hS hFc (fun _ h => nomatch h) (fun _ h => nomatch h) (fun _ h => nomatch h) (fun _ h => nomatch h) (va_recv hK hPc (ci := 3) (q0 := 0) rfl rfl)) rfl rfl hl.1 rfl (lv_room (Nat.le_of_ble_eq_true rfl)) dX11_keys_7 ⟨(Nat.le_of_ble_eq_true rfl), (Nat.le_of_ble_eq_true rfl)⟩) hS (fun q _ h => hFc q h) hFc (fun r1 u t H1 locs ht hvm hw hB hz1 hk1 hS => ?_)
  obtain ⟨hP1, hD1⟩ := hB
  rw [ht] at hP1
  obtain ⟨hP, hD⟩ := va_join (wr := [(h0, .inr (15, [w1, w2, w3, w4, w5, w6, w7, w8, .ref g, w9, w10, w11, w12, w13, w14])), (g, .inr (11, [.ref ks, w15, w16, w17, w18, w19, w20]))]) (w1 := [(ks, .inr (3, [w21, w22, .int 0]))]) hP hD [2] [0, 1] rfl rfl (by decide) (by decide) hk1 hFc hP1 hD1
  generalize H1 = H at hP hS ⊢
  have hP : va_P D vwCl [(h0, .inr (15, [w1, w2, w3, w4, w5, w6, w7, w8, .ref g, w9, w10, w11, w12, w13, w14])), (g, .inr (11, [.ref ks, w15, w16, w17, w18, w19, w20])), (ks, .inr (3, [w21, w22, .int 0]))] H := hP
  have hD : va_D A [(h0, .inr (15, [w1, w2, w3, w4, w5, w6, w7, w8, .ref g, w9, w10, w11, w12, w13, w14])), (g, .inr (11, [.ref ks, w15, w16, w17, w18, w19, w20])), (ks, .inr (3, [w21, w22, .int 0]))] := hD
  have hw : r1 = 0 := hw
  subst hw
  have hP9 := hP.sub (ws' := [(h0, .inr (15, [w1, w2, w3, w4, w5, w6, w7, w8, .ref g, w9, w10, w11, w12, w13, w14])), (g, .inr (11, [.ref ks, w15, w16, w17, w18, w19, w20])), (ks, .inr (3, [w21, w22, .int 0]))]) [0, 1, 2] rfl
  have hD9 := hD.sub (ws' := [(h0, .inr (15, [w1, w2, w3, w4, w5, w6, w7, w8, .ref g, w9, w10, w11, w12, w13, w14])), (g, .inr (11, [.ref ks, w15, w16, w17, w18, w19, w20])), (ks, .inr (3, [w21, w22, .int 0]))]) [0, 1, 2] (by decide) rfl
  refine W.widen (k := 0) (n := 0) (Nat.le_of_ble_eq_true rfl) (Nat.le_of_ble_eq_true rfl) ?_
  exact W.iret (v := 0) hx hb hr (fun t ht hW => ⟨⟨0, (), rfl, rfl, by rw [ht]; exact hP9, hD9⟩, hS.F ht⟩) hS.2.2 dX11_keys_10
def wz_c_X11_found : List Cond := .code yX11_found cX11_found 4 (some (.object "SignetRing$Key")) :: ([.fieldLink RX11 60 "SignetRing" "ring" "LSignetRing$Ring;", .fieldLink RX11 130 "SignetRing$Ring" "keys" "Ljava/util/ArrayList;", .methodLink RX11 134 yJx4a65c_size_8abf5, .instanceMethod yJx4a65c_size_8abf5, .selects RJx4a65c yJx4a65c_size_8abf5 yJx4a65c_size_8abf5, .initialized RJx4a65c] ++ (wsX110 ++ (wsX70 ++ (wz_c_size ++ ([])))))
set_option maxRecDepth 100000 in
theorem gz_c_X11_found_c_size : GoodIn wz_c_X11_found wz_c_size := goodIn_sub (fun w h => List.mem_cons_of_mem _ (List.mem_append_right _ (List.mem_append_right _ (List.mem_append_right _ (List.mem_append_left _ h))))) (by decide +kernel)
set_option maxRecDepth 100000 in
theorem gv_c_X11_found_c_size_134 : GoodIn wz_c_X11_found (wsV RX11 134 RJx4a65c yJx4a65c_size_8abf5 wz_c_size) := goodIn_app (goodIn_of _ (by decide +kernel)) gz_c_X11_found_c_size
set_option maxHeartbeats 4000000 in
set_option maxRecDepth 100000 in
theorem c_X11_found (l : Launch) (D : va_G) (y : Nat → ClassId) (sz : Nat) (h0 : Nat) (g : Nat) (ks : Nat) (w1 : Value) (w2 : Value) (w3 : Value) (w4 : Value) (w5 : Value) (w6 : Value) (w7 : Value) (w8 : Value) (w9 : Value) (w10 : Value) (w11 : Value) (w12 : Value) (w13 : Value) (w14 : Value) (w15 : Value) (w16 : Value) (w17 : Value) (w18 : Value) (w19 : Value) (w20 : Value) (w21 : Value) (w22 : Value) (k : Int32) (pt : Int32) : Met l yX11_found wz_c_X11_found ({ frames := 1, cells := 0, slots := 0, locals := 20 }) (va_Pc [.ref h0, .int k, .int pt] (zB D y [(h0, .inr (15, [w1, w2, w3, w4, w5, w6, w7, w8, .ref g, w9, w10, w11, w12, w13, w14])), (g, .inr (11, [.ref ks, w15, w16, w17, w18, w19, w20])), (ks, .inr (3, [w21, w22, .int 0]))] sz [] [] [] [])) (va_Qq (fun (r : Option Nat) (_ : Unit) => r = none) (fun _ t => va_P D vwCl [(h0, .inr (15, [w1, w2, w3, w4, w5, w6, w7, w8, .ref g, w9, w10, w11, w12, w13, w14])), (g, .inr (11, [.ref ks, w15, w16, w17, w18, w19, w20])), (ks, .inr (3, [w21, w22, .int 0]))] t.heap ∧ va_D (va_A [(h0, .inr (15, [w1, w2, w3, w4, w5, w6, w7, w8, .ref g, w9, w10, w11, w12, w13, w14])), (g, .inr (11, [.ref ks, w15, w16, w17, w18, w19, w20])), (ks, .inr (3, [w21, w22, .int 0]))] sz) [(h0, .inr (15, [w1, w2, w3, w4, w5, w6, w7, w8, .ref g, w9, w10, w11, w12, w13, w14])), (g, .inr (11, [.ref ks, w15, w16, w17, w18, w19, w20])), (ks, .inr (3, [w21, w22, .int 0]))]) (va_A [(h0, .inr (15, [w1, w2, w3, w4, w5, w6, w7, w8, .ref g, w9, w10, w11, w12, w13, w14])), (g, .inr (11, [.ref ks, w15, w16, w17, w18, w19, w20])), (ks, .inr (3, [w21, w22, .int 0]))] sz)) 0 0 (va_A [(h0, .inr (15, [w1, w2, w3, w4, w5, w6, w7, w8, .ref g, w9, w10, w11, w12, w13, w14])), (g, .inr (11, [.ref ks, w15, w16, w17, w18, w19, w20])), (ks, .inr (3, [w21, w22, .int 0]))] sz) := by
  refine Met.ofW (cc := cX11_found) (maxL := 4) (ret := (some (.object "SignetRing$Key"))) (by decide) rfl ?_
  intro p e s m args below meth c s₁ B hml hv
  obtain ⟨rfl, hsz, hP, hK, hD0, hN, hE, hO, hT, hG⟩ := hv
  have hx := B.exec
  have hb := B.bytes
  have hr := B.returns
  have hts := atoms_spec (ws := wz_c_X11_found) B.pre
  have hown : s.vm.findClass RX11 = some m.cls := findClass_of_methodNamed B.named
  have hlocks := B.notSynchronized
  subst hsz
  have hD := hD0.self (sz := s.heap.size)
  generalize hAe : va_A [(h0, .inr (15, [w1, w2, w3, w4, w5, w6, w7, w8, .ref g, w9, w10, w11, w12, w13, w14])), (g, .inr (11, [.ref ks, w15, w16, w17, w18, w19, w20])), (ks, .inr (3, [w21, w22, .int 0]))] s.heap.size = A at hD hE hT hG ⊢
  have hA : ∀ q : Nat, s.heap.size ≤ q → A q := fun q h => by rw [← hAe]; exact Or.inr h
  have hS : va_S A s.heap s.heap [] := va_S.rf
  have hl := lv_entry ([.ref h0, .int k, .int pt]) (n := 4) (Nat.le_of_ble_eq_true rfl)
  rw [lg_entry_eq]
  generalize (lg_sl ([.ref h0, .int k, .int pt]) ++ List.replicate (4 - (lg_sl ([.ref h0, .int k, .int pt])).length) Slot.unset).toArray = ls at hl ⊢
  have hl : lv_has ls 4 [(0, .ref h0), (1, .int k), (2, .int pt)] := hl
  refine lv_iload_n hx hb dX11_found_0 rfl (lv_at hl 1 rfl) ?_
  refine lv_if_lt (tgt := 18) hx hb dX11_found_1 (by decide) (fun c1 => ?_) (fun c1 => ?_)
  · refine lv_null hx hb dX11_found_18 ?_
    have hP9 := hP.sub (ws' := [(h0, .inr (15, [w1, w2, w3, w4, w5, w6, w7, w8, .ref g, w9, w10, w11, w12, w13, w14])), (g, .inr (11, [.ref ks, w15, w16, w17, w18, w19, w20])), (ks, .inr (3, [w21, w22, .int 0]))]) [0, 1, 2] rfl
    have hD9 := hD.sub (ws' := [(h0, .inr (15, [w1, w2, w3, w4, w5, w6, w7, w8, .ref g, w9, w10, w11, w12, w13, w14])), (g, .inr (11, [.ref ks, w15, w16, w17, w18, w19, w20])), (ks, .inr (3, [w21, w22, .int 0]))]) [0, 1, 2] (by decide) rfl
    refine W.widen (k := 0) (n := 0) (Nat.le_of_ble_eq_true rfl) (Nat.le_of_ble_eq_true rfl) ?_
    exact W.aret (v := .null) hx hb hr (Or.inl ⟨_, rfl⟩) (Or.inl rfl) (fun t ht hW => ⟨⟨none, (), rfl, rfl, by rw [ht]; exact hP9, hD9⟩, hS.F ht⟩) hS.2.2 dX11_found_19
  · refine lv_iload_n hx hb dX11_found_4 rfl (lv_at hl 1 rfl) ?_
    refine lv_aload_n hx hb dX11_found_5 rfl (lv_at hl 0 rfl) ?_
    refine va_get (D := D) (ci := 15) (v := .ref g) (C := RX11) (T := TX11) (N := 15) hx hb hts (by decide +kernel) hown hK hP 0 rfl rfl 8 (by decide) (hts (.fieldLink RX11 60 "SignetRing" "ring" "LSignetRing$Ring;") (by decide +kernel)) (fun _ h9 => h9) rfl dX11_found_6 ?_
    refine va_get (D := D) (ci := 11) (v := .ref ks) (C := RX7) (T := TX7) (N := 7) hx hb hts (by decide +kernel) hown hK hP 1 rfl rfl 0 (by decide) (hts (.fieldLink RX11 130 "SignetRing$Ring" "keys" "Ljava/util/ArrayList;") (by decide +kernel)) (fun _ h9 => h9) rfl dX11_found_9 ?_
    have hPc := hP.sub (ws' := [(ks, .inr (3, [w21, w22, .int 0]))]) [2] rfl
    have hDc := hD.sub (ws' := [(ks, .inr (3, [w21, w22, .int 0]))]) [2] (by decide) rfl
    have hFc := va_free (wc := [(ks, .inr (3, [w21, w22, .int 0]))]) hD hS hA [2] rfl
    refine va_calli (va_runV (As := []) (rest := [.int k]) ⟨hx, hb, hml, hown, hts⟩ (c_size l D y s.heap.size ks w21 w22 0) (cwV 0 hts gv_c_X11_found_c_size_134 rfl rfl rfl (by decide +kernel) ⟨(Nat.le_of_ble_eq_true rfl), (Nat.le_of_ble_eq_true rfl)⟩) (zB.preV hPc hDc hK hN hE hO hT hG hS hFc (fun _ h => nomatch h) (fun _ h => nomatch h) (fun _ h => nomatch h) (fun _ h => nomatch h) (va_recv hK hPc (ci := 3) (q0 := 0) rfl rfl)) rfl rfl hl.1 rfl (lv_room (Nat.le_of_ble_eq_true rfl)) dX11_found_12 ⟨(Nat.le_of_ble_eq_true rfl), (Nat.le_of_ble_eq_true rfl)⟩) hS (fun q _ h => hFc q h) hFc (fun r2 u t H1 locs ht hvm hw hB hz1 hk1 hS => ?_)
    obtain ⟨hP1, hD1⟩ := hB
    rw [ht] at hP1
    obtain ⟨hP, hD⟩ := va_join (wr := [(h0, .inr (15, [w1, w2, w3, w4, w5, w6, w7, w8, .ref g, w9, w10, w11, w12, w13, w14])), (g, .inr (11, [.ref ks, w15, w16, w17, w18, w19, w20]))]) (w1 := [(ks, .inr (3, [w21, w22, .int 0]))]) hP hD [2] [0, 1] rfl rfl (by decide) (by decide) hk1 hFc hP1 hD1
    generalize H1 = H at hP hS ⊢
    have hP : va_P D vwCl [(h0, .inr (15, [w1, w2, w3, w4, w5, w6, w7, w8, .ref g, w9, w10, w11, w12, w13, w14])), (g, .inr (11, [.ref ks, w15, w16, w17, w18, w19, w20])), (ks, .inr (3, [w21, w22, .int 0]))] H := hP
    have hD : va_D A [(h0, .inr (15, [w1, w2, w3, w4, w5, w6, w7, w8, .ref g, w9, w10, w11, w12, w13, w14])), (g, .inr (11, [.ref ks, w15, w16, w17, w18, w19, w20])), (ks, .inr (3, [w21, w22, .int 0]))] := hD
    have hw : r2 = 0 := hw
    subst hw
    refine lv_icmp_lt (tgt := 20) hx hb dX11_found_15 (by decide) (fun c9 => absurd c9 c1) (fun _ => ?_)
    refine lv_null hx hb dX11_found_18 ?_
    have hP9 := hP.sub (ws' := [(h0, .inr (15, [w1, w2, w3, w4, w5, w6, w7, w8, .ref g, w9, w10, w11, w12, w13, w14])), (g, .inr (11, [.ref ks, w15, w16, w17, w18, w19, w20])), (ks, .inr (3, [w21, w22, .int 0]))]) [0, 1, 2] rfl
    have hD9 := hD.sub (ws' := [(h0, .inr (15, [w1, w2, w3, w4, w5, w6, w7, w8, .ref g, w9, w10, w11, w12, w13, w14])), (g, .inr (11, [.ref ks, w15, w16, w17, w18, w19, w20])), (ks, .inr (3, [w21, w22, .int 0]))]) [0, 1, 2] (by decide) rfl
    refine W.widen (k := 0) (n := 0) (Nat.le_of_ble_eq_true rfl) (Nat.le_of_ble_eq_true rfl) ?_
    exact W.aret (v := .null) hx hb hr (Or.inl ⟨_, rfl⟩) (Or.inl rfl) (fun t ht hW => ⟨⟨none, (), rfl, rfl, by rw [ht]; exact hP9, hD9⟩, hS.F ht⟩) hS.2.2 dX11_found_19
def wz_c_X10_at_empty : List Cond := .code yX10_at cX10_at 3 (some .int) :: ([.fieldLink RX10 13 "SignetRing$Span" "from" "I", .fieldLink RX10 17 "SignetRing$Span" "size" "I"] ++ (wsX00 ++ ([])))
set_option maxHeartbeats 4000000 in
set_option maxRecDepth 100000 in
theorem c_X10_at_empty (l : Launch) (D : va_G) (y : Nat → ClassId) (sz : Nat) (h0 : Nat) (w1 : Value) : Met l yX10_at wz_c_X10_at_empty ({ frames := 0, cells := 0, slots := 0, locals := 0 }) (va_Pc [.ref h0, .int 0] (zB D y [(h0, .inr (4, [w1, .int 0, .int 0]))] sz [] [] [] [])) (va_Qi (fun (r : Int32) (_ : Unit) => r = 0) (fun _ t => va_P D vwCl [(h0, .inr (4, [w1, .int 0, .int 0]))] t.heap ∧ va_D (va_A [(h0, .inr (4, [w1, .int 0, .int 0]))] sz) [(h0, .inr (4, [w1, .int 0, .int 0]))]) (va_A [(h0, .inr (4, [w1, .int 0, .int 0]))] sz)) 0 0 (va_A [(h0, .inr (4, [w1, .int 0, .int 0]))] sz) := by
  refine Met.ofW (cc := cX10_at) (maxL := 3) (ret := (some .int)) (by decide) rfl ?_
  intro p e s m args below meth c s₁ B hml hv
  obtain ⟨rfl, hsz, hP, hK, hD0, hN, hE, hO, hT, hG⟩ := hv
  have hx := B.exec
  have hb := B.bytes
  have hr := B.returns
  have hts := atoms_spec (ws := wz_c_X10_at_empty) B.pre
  have hown : s.vm.findClass RX10 = some m.cls := findClass_of_methodNamed B.named
  have hlocks := B.notSynchronized
  subst hsz
  have hD := hD0.self (sz := s.heap.size)
  generalize hAe : va_A [(h0, .inr (4, [w1, .int 0, .int 0]))] s.heap.size = A at hD hE hT hG ⊢
  have hA : ∀ q : Nat, s.heap.size ≤ q → A q := fun q h => by rw [← hAe]; exact Or.inr h
  have hS : va_S A s.heap s.heap [] := va_S.rf
  have hl := lv_entry ([.ref h0, .int 0]) (n := 3) (Nat.le_of_ble_eq_true rfl)
  rw [lg_entry_eq]
  generalize (lg_sl ([.ref h0, .int 0]) ++ List.replicate (3 - (lg_sl ([.ref h0, .int 0])).length) Slot.unset).toArray = ls at hl ⊢
  have hl : lv_has ls 3 [(0, .ref h0), (1, .int 0)] := hl
  refine lv_aload_n hx hb dX10_at_0 rfl (lv_at hl 0 rfl) ?_
  refine va_get (D := D) (ci := 4) (v := .int 0) (C := RX0) (T := TX0) (N := 3) hx hb hts (by decide +kernel) hown hK hP 0 rfl rfl 1 (by decide) (hts (.fieldLink RX10 13 "SignetRing$Span" "from" "I") (by decide +kernel)) (fun _ h9 => h9) rfl dX10_at_1 ?_
  refine lv_iload_n hx hb dX10_at_4 rfl (lv_at hl 1 rfl) ?_
  refine lv_iadd hx hb dX10_at_5 ?_
  refine lv_topi (fun v1 ev1 => ?_)
  have ev1 : v1 = 0 := ev1.trans (by decide +kernel)
  subst ev1
  refine lv_istore_n (lv' := [(2, .int 0), (0, .ref h0), (1, .int 0)]) hx hb dX10_at_6 rfl hl (by decide) rfl (fun ls hl => ?_)
  refine lv_iload_n hx hb dX10_at_7 rfl (lv_at hl 2 rfl) ?_
  refine lv_if_lt (tgt := 45) hx hb dX10_at_8 (by decide) (fun c9 => absurd c9 (by decide)) (fun _ => ?_)
  refine lv_iload_n hx hb dX10_at_11 rfl (lv_at hl 2 rfl) ?_
  refine lv_aload_n hx hb dX10_at_12 rfl (lv_at hl 1 rfl) ?_
  refine va_get (D := D) (ci := 4) (v := .int 0) (C := RX0) (T := TX0) (N := 3) hx hb hts (by decide +kernel) hown hK hP 0 rfl rfl 2 (by decide) (hts (.fieldLink RX10 17 "SignetRing$Span" "size" "I") (by decide +kernel)) (fun _ h9 => h9) rfl dX10_at_13 ?_
  refine lv_icmp_ge (tgt := 45) hx hb dX10_at_16 (by decide) (fun _ => ?_) (fun c9 => absurd (by decide) c9)
  refine lv_iconst (v := 0) hx hb dX10_at_45 (by decide) ?_
  have hP9 := hP.sub (ws' := [(h0, .inr (4, [w1, .int 0, .int 0]))]) [0] rfl
  have hD9 := hD.sub (ws' := [(h0, .inr (4, [w1, .int 0, .int 0]))]) [0] (by decide) rfl
  refine W.widen (k := 0) (n := 0) (Nat.le_of_ble_eq_true rfl) (Nat.le_of_ble_eq_true rfl) ?_
  exact W.iret (v := 0) hx hb hr (fun t ht hW => ⟨⟨0, (), rfl, rfl, by rw [ht]; exact hP9, hD9⟩, hS.F ht⟩) hS.2.2 dX10_at_46
def wz_c_X11_isInSigns : List Cond := .code yX11_isInSigns cX11_isInSigns 1 (some .boolean) :: ([.fieldLink RX11 14 "SignetRing" "bytes" "LSignetRing$Bytes;", .fieldLink RX11 86 "SignetRing$Bytes" "size" "I", .sameField "SignetRing$Bytes" "SignetRing$Span" "size" "I"] ++ (wsX110 ++ (wsX00 ++ ([]))))
set_option maxHeartbeats 4000000 in
set_option maxRecDepth 100000 in
theorem c_X11_isInSigns (l : Launch) (D : va_G) (y : Nat → ClassId) (sz : Nat) (h0 : Nat) (bb : Nat) (w1 : Value) (w2 : Value) (w3 : Value) (w4 : Value) (w5 : Value) (w6 : Value) (w7 : Value) (w8 : Value) (w9 : Value) (w10 : Value) (w11 : Value) (w12 : Value) (w13 : Value) (w14 : Value) (w15 : Value) : Met l yX11_isInSigns wz_c_X11_isInSigns ({ frames := 0, cells := 0, slots := 0, locals := 0 }) (va_Pc [.ref h0] (zB D y [(h0, .inr (15, [.ref bb, w1, w2, w3, w4, w5, w6, w7, w8, w9, w10, w11, w12, w13, w14])), (bb, .inr (4, [w15, .int 0, .int 0]))] sz [] [] [] [])) (va_Qi (fun (r : Int32) (_ : Unit) => r = 0) (fun _ t => va_P D vwCl [(h0, .inr (15, [.ref bb, w1, w2, w3, w4, w5, w6, w7, w8, w9, w10, w11, w12, w13, w14])), (bb, .inr (4, [w15, .int 0, .int 0]))] t.heap ∧ va_D (va_A [(h0, .inr (15, [.ref bb, w1, w2, w3, w4, w5, w6, w7, w8, w9, w10, w11, w12, w13, w14])), (bb, .inr (4, [w15, .int 0, .int 0]))] sz) [(h0, .inr (15, [.ref bb, w1, w2, w3, w4, w5, w6, w7, w8, w9, w10, w11, w12, w13, w14])), (bb, .inr (4, [w15, .int 0, .int 0]))]) (va_A [(h0, .inr (15, [.ref bb, w1, w2, w3, w4, w5, w6, w7, w8, w9, w10, w11, w12, w13, w14])), (bb, .inr (4, [w15, .int 0, .int 0]))] sz)) 0 0 (va_A [(h0, .inr (15, [.ref bb, w1, w2, w3, w4, w5, w6, w7, w8, w9, w10, w11, w12, w13, w14])), (bb, .inr (4, [w15, .int 0, .int 0]))] sz) := by
  refine Met.ofW (cc := cX11_isInSigns) (maxL := 1) (ret := (some .boolean)) (by decide) rfl ?_
  intro p e s m args below meth c s₁ B hml hv
  obtain ⟨rfl, hsz, hP, hK, hD0, hN, hE, hO, hT, hG⟩ := hv
  have hx := B.exec
  have hb := B.bytes
  have hr := B.returns
  have hts := atoms_spec (ws := wz_c_X11_isInSigns) B.pre
  have hown : s.vm.findClass RX11 = some m.cls := findClass_of_methodNamed B.named
  have hlocks := B.notSynchronized
  subst hsz
  have hD := hD0.self (sz := s.heap.size)
  generalize hAe : va_A [(h0, .inr (15, [.ref bb, w1, w2, w3, w4, w5, w6, w7, w8, w9, w10, w11, w12, w13, w14])), (bb, .inr (4, [w15, .int 0, .int 0]))] s.heap.size = A at hD hE hT hG ⊢
  have hA : ∀ q : Nat, s.heap.size ≤ q → A q := fun q h => by rw [← hAe]; exact Or.inr h
  have hS : va_S A s.heap s.heap [] := va_S.rf
  have hl := lv_entry ([.ref h0]) (n := 1) (Nat.le_of_ble_eq_true rfl)
  rw [lg_entry_eq]
  generalize (lg_sl ([.ref h0]) ++ List.replicate (1 - (lg_sl ([.ref h0])).length) Slot.unset).toArray = ls at hl ⊢
  have hl : lv_has ls 1 [(0, .ref h0)] := hl
  refine lv_aload_n hx hb dX11_isInSigns_0 rfl (lv_at hl 0 rfl) ?_
  refine va_get (D := D) (ci := 15) (v := .ref bb) (C := RX11) (T := TX11) (N := 15) hx hb hts (by decide +kernel) hown hK hP 0 rfl rfl 0 (by decide) (hts (.fieldLink RX11 14 "SignetRing" "bytes" "LSignetRing$Bytes;") (by decide +kernel)) (fun _ h9 => h9) rfl dX11_isInSigns_1 ?_
  refine va_get (D := D) (ci := 4) (v := .int 0) (C := RX0) (T := TX0) (N := 3) hx hb hts (by decide +kernel) hown hK hP 1 rfl rfl 2 (by decide) (hts (.fieldLink RX11 86 "SignetRing$Bytes" "size" "I") (by decide +kernel)) (u_same (hts (.sameField "SignetRing$Bytes" "SignetRing$Span" "size" "I") (by decide +kernel))) rfl dX11_isInSigns_4 ?_
  refine lv_if_le (tgt := 28) hx hb dX11_isInSigns_7 (by decide) (fun _ => ?_) (fun c9 => absurd (by decide) c9)
  refine lv_iconst (v := 0) hx hb dX11_isInSigns_28 (by decide) ?_
  have hP9 := hP.sub (ws' := [(h0, .inr (15, [.ref bb, w1, w2, w3, w4, w5, w6, w7, w8, w9, w10, w11, w12, w13, w14])), (bb, .inr (4, [w15, .int 0, .int 0]))]) [0, 1] rfl
  have hD9 := hD.sub (ws' := [(h0, .inr (15, [.ref bb, w1, w2, w3, w4, w5, w6, w7, w8, w9, w10, w11, w12, w13, w14])), (bb, .inr (4, [w15, .int 0, .int 0]))]) [0, 1] (by decide) rfl
  refine W.widen (k := 0) (n := 0) (Nat.le_of_ble_eq_true rfl) (Nat.le_of_ble_eq_true rfl) ?_
  exact W.zret (v := 0) hx hb hr (by decide) (fun t ht hW => ⟨⟨0, (), rfl, rfl, by rw [ht]; exact hP9, hD9⟩, hS.F ht⟩) hS.2.2 dX11_isInSigns_29
def wz_c_X4_open : List Cond := .code yX4_open cX4_open 2 none :: ([.fieldLink RX4 29 "SignetRing$Packets" "in" "LSignetRing$Span;", .fieldLink RX4 32 "SignetRing$Packets" "place" "I", .fieldLink RX4 36 "SignetRing$Packets" "next" "I"] ++ (wsX40 ++ ([])))
set_option maxHeartbeats 4000000 in
set_option maxRecDepth 100000 in
theorem c_X4_open (l : Launch) (D : va_G) (y : Nat → ClassId) (sz : Nat) (h0 : Nat) (b : Nat) (w1 : Value) (w2 : Value) (w3 : Value) (w4 : Value) (w5 : Value) (w6 : Value) : Met l yX4_open wz_c_X4_open ({ frames := 0, cells := 0, slots := 0, locals := 0 }) (va_Pc [.ref h0, .ref b] (zB D y [(h0, .inr (8, [w1, w2, w3, w4, w5, w6]))] sz [] [] [] [])) (va_Qv (fun _ : Unit => True) (fun _ t => va_P D vwCl [(h0, .inr (8, [w1, w2, .ref b, .int 0, .int 0, w6]))] t.heap ∧ va_D (va_A [(h0, .inr (8, [w1, w2, w3, w4, w5, w6]))] sz) [(h0, .inr (8, [w1, w2, .ref b, .int 0, .int 0, w6]))]) (va_A [(h0, .inr (8, [w1, w2, w3, w4, w5, w6]))] sz)) 0 0 (va_A [(h0, .inr (8, [w1, w2, w3, w4, w5, w6]))] sz) := by
  refine Met.ofW (cc := cX4_open) (maxL := 2) (ret := none) (by decide) rfl ?_
  intro p e s m args below meth c s₁ B hml hv
  obtain ⟨rfl, hsz, hP, hK, hD0, hN, hE, hO, hT, hG⟩ := hv
  have hx := B.exec
  have hb := B.bytes
  have hr := B.returns
  have hts := atoms_spec (ws := wz_c_X4_open) B.pre
  have hown : s.vm.findClass RX4 = some m.cls := findClass_of_methodNamed B.named
  have hlocks := B.notSynchronized
  subst hsz
  have hD := hD0.self (sz := s.heap.size)
  generalize hAe : va_A [(h0, .inr (8, [w1, w2, w3, w4, w5, w6]))] s.heap.size = A at hD hE hT hG ⊢
  have hA : ∀ q : Nat, s.heap.size ≤ q → A q := fun q h => by rw [← hAe]; exact Or.inr h
  have hS : va_S A s.heap s.heap [] := va_S.rf
  have hl := lv_entry ([.ref h0, .ref b]) (n := 2) (Nat.le_of_ble_eq_true rfl)
  rw [lg_entry_eq]
  generalize (lg_sl ([.ref h0, .ref b]) ++ List.replicate (2 - (lg_sl ([.ref h0, .ref b])).length) Slot.unset).toArray = ls at hl ⊢
  have hl : lv_has ls 2 [(0, .ref h0), (1, .ref b)] := hl
  refine lv_aload_n hx hb dX4_open_0 rfl (lv_at hl 0 rfl) ?_
  refine lv_aload_n hx hb dX4_open_1 rfl (lv_at hl 1 rfl) ?_
  refine va_put (D := D) (ci := 8) (v := .ref b) (ty := (.object "SignetRing$Span")) (C := RX4) (T := TX4) (N := 6) hx hb hts (by decide +kernel) tyX4 tyX4_ok nmX4 hown hK hP hD hS 0 rfl rfl 2 (by decide) (hts (.fieldLink RX4 29 "SignetRing$Packets" "in" "LSignetRing$Span;") (by decide +kernel)) (fun _ h9 => h9) rfl (by decide +kernel) rfl rfl (Nat.le_of_ble_eq_true rfl) dX4_open_2 (fun H locs hP hD hS => ?_)
  have hP : va_P D vwCl [(h0, .inr (8, [w1, w2, .ref b, w4, w5, w6]))] H := hP
  have hD : va_D A [(h0, .inr (8, [w1, w2, .ref b, w4, w5, w6]))] := hD
  refine lv_aload_n hx hb dX4_open_5 rfl (lv_at hl 0 rfl) ?_
  refine lv_iconst (v := 0) hx hb dX4_open_6 (by decide) ?_
  refine va_put (D := D) (ci := 8) (v := .int 0) (ty := .int) (C := RX4) (T := TX4) (N := 6) hx hb hts (by decide +kernel) tyX4 tyX4_ok nmX4 hown hK hP hD hS 0 rfl rfl 3 (by decide) (hts (.fieldLink RX4 32 "SignetRing$Packets" "place" "I") (by decide +kernel)) (fun _ h9 => h9) rfl (by decide +kernel) rfl rfl (Nat.le_of_ble_eq_true rfl) dX4_open_7 (fun H locs hP hD hS => ?_)
  have hP : va_P D vwCl [(h0, .inr (8, [w1, w2, .ref b, .int 0, w5, w6]))] H := hP
  have hD : va_D A [(h0, .inr (8, [w1, w2, .ref b, .int 0, w5, w6]))] := hD
  refine lv_aload_n hx hb dX4_open_10 rfl (lv_at hl 0 rfl) ?_
  refine lv_iconst (v := 0) hx hb dX4_open_11 (by decide) ?_
  refine va_put (D := D) (ci := 8) (v := .int 0) (ty := .int) (C := RX4) (T := TX4) (N := 6) hx hb hts (by decide +kernel) tyX4 tyX4_ok nmX4 hown hK hP hD hS 0 rfl rfl 4 (by decide) (hts (.fieldLink RX4 36 "SignetRing$Packets" "next" "I") (by decide +kernel)) (fun _ h9 => h9) rfl (by decide +kernel) rfl rfl (Nat.le_of_ble_eq_true rfl) dX4_open_12 (fun H locs hP hD hS => ?_)
  have hP : va_P D vwCl [(h0, .inr (8, [w1, w2, .ref b, .int 0, .int 0, w6]))] H := hP
  have hD : va_D A [(h0, .inr (8, [w1, w2, .ref b, .int 0, .int 0, w6]))] := hD
  have hP9 := hP.sub (ws' := [(h0, .inr (8, [w1, w2, .ref b, .int 0, .int 0, w6]))]) [0] rfl
  have hD9 := hD.sub (ws' := [(h0, .inr (8, [w1, w2, .ref b, .int 0, .int 0, w6]))]) [0] (by decide) rfl
  refine W.widen (k := 0) (n := 0) (Nat.le_of_ble_eq_true rfl) (Nat.le_of_ble_eq_true rfl) ?_
  exact W.vret hx hb hr (fun t ht hW => ⟨⟨(), rfl, trivial, by rw [ht]; exact hP9, hD9⟩, hS.F ht⟩) hS.2.2 dX4_open_15

def wz_c_X11_isTime_y : List Cond := .code yX11_isTime cX11_isTime 2 (some .boolean) :: ([.constantLong RX11 232 4294967295] ++ ([]))
set_option maxHeartbeats 4000000 in
set_option maxRecDepth 100000 in
theorem c_X11_isTime_y (l : Launch) (D : va_G) (y : Nat → ClassId) (sz : Nat) (tm : Int64) (h1 : ¬ lg_cmp tm 0 < 0) (h2 : ¬ 0 < lg_cmp tm 4294967295) : Met l yX11_isTime wz_c_X11_isTime_y ({ frames := 0, cells := 0, slots := 0, locals := 0 }) (va_Pc [.long tm] (zB D y [] sz [] [] [] [])) (va_Qi (fun (r : Int32) (_ : Unit) => r = 1) (fun _ t => va_P D vwCl [] t.heap ∧ va_D (va_A [] sz) []) (va_A [] sz)) 0 0 (va_A [] sz) := by
  refine Met.ofW (cc := cX11_isTime) (maxL := 2) (ret := (some .boolean)) (by decide) rfl ?_
  intro p e s m args below meth c s₁ B hml hv
  obtain ⟨rfl, hsz, hP, hK, hD0, hN, hE, hO, hT, hG⟩ := hv
  have hx := B.exec
  have hb := B.bytes
  have hr := B.returns
  have hts := atoms_spec (ws := wz_c_X11_isTime_y) B.pre
  have hown : s.vm.findClass RX11 = some m.cls := findClass_of_methodNamed B.named
  have hlocks := B.notSynchronized
  subst hsz
  have hD := hD0.self (sz := s.heap.size)
  generalize hAe : va_A [] s.heap.size = A at hD hE hT hG ⊢
  have hA : ∀ q : Nat, s.heap.size ≤ q → A q := fun q h => by rw [← hAe]; exact Or.inr h
  have hS : va_S A s.heap s.heap [] := va_S.rf
  have hl := lv_entry ([.long tm]) (n := 2) (Nat.le_of_ble_eq_true rfl)
  rw [lg_entry_eq]
  generalize (lg_sl ([.long tm]) ++ List.replicate (2 - (lg_sl ([.long tm])).length) Slot.unset).toArray = ls at hl ⊢
  have hl : lv_has ls 2 [(0, .long tm)] := hl
  refine lv_lload_n hx hb dX11_isTime_0 rfl (lv_at hl 0 rfl) ?_
  refine lv_lconst (v := 0) hx hb dX11_isTime_1 (by decide) ?_
  refine W.lcmp hx hb dX11_isTime_2 ?_
  refine lv_if_lt (tgt := 18) hx hb dX11_isTime_3 (by decide) (fun c9 => absurd c9 h1) (fun _ => ?_)
  refine lv_lload_n hx hb dX11_isTime_6 rfl (lv_at hl 0 rfl) ?_
  refine lv_ldc2 (v := 4294967295) hx hb hown (hts (.constantLong RX11 232 4294967295) (by decide +kernel)) dX11_isTime_7 ?_
  refine W.lcmp hx hb dX11_isTime_10 ?_
  refine lv_if_gt (tgt := 18) hx hb dX11_isTime_11 (by decide) (fun c9 => absurd c9 h2) (fun _ => ?_)
  refine lv_iconst (v := 1) hx hb dX11_isTime_14 (by decide) ?_
  refine lv_goto (tgt := 19) hx hb dX11_isTime_15 (by decide) ?_
  have hP9 := hP.sub (ws' := []) [] rfl
  have hD9 := hD.sub (ws' := []) [] (by decide) rfl
  refine W.widen (k := 0) (n := 0) (Nat.le_of_ble_eq_true rfl) (Nat.le_of_ble_eq_true rfl) ?_
  exact W.zret (v := 1) hx hb hr (by decide) (fun t ht hW => ⟨⟨1, (), rfl, rfl, by rw [ht]; exact hP9, hD9⟩, hS.F ht⟩) hS.2.2 dX11_isTime_19
def wz_c_X11_isTime_n : List Cond := .code yX11_isTime cX11_isTime 2 (some .boolean) :: ([] ++ ([]))
set_option maxHeartbeats 4000000 in
set_option maxRecDepth 100000 in
theorem c_X11_isTime_n (l : Launch) (D : va_G) (y : Nat → ClassId) (sz : Nat) (tm : Int64) (h1 : lg_cmp tm 0 < 0) : Met l yX11_isTime wz_c_X11_isTime_n ({ frames := 0, cells := 0, slots := 0, locals := 0 }) (va_Pc [.long tm] (zB D y [] sz [] [] [] [])) (va_Qi (fun (r : Int32) (_ : Unit) => r = 0) (fun _ t => va_P D vwCl [] t.heap ∧ va_D (va_A [] sz) []) (va_A [] sz)) 0 0 (va_A [] sz) := by
  refine Met.ofW (cc := cX11_isTime) (maxL := 2) (ret := (some .boolean)) (by decide) rfl ?_
  intro p e s m args below meth c s₁ B hml hv
  obtain ⟨rfl, hsz, hP, hK, hD0, hN, hE, hO, hT, hG⟩ := hv
  have hx := B.exec
  have hb := B.bytes
  have hr := B.returns
  have hts := atoms_spec (ws := wz_c_X11_isTime_n) B.pre
  have hown : s.vm.findClass RX11 = some m.cls := findClass_of_methodNamed B.named
  have hlocks := B.notSynchronized
  subst hsz
  have hD := hD0.self (sz := s.heap.size)
  generalize hAe : va_A [] s.heap.size = A at hD hE hT hG ⊢
  have hA : ∀ q : Nat, s.heap.size ≤ q → A q := fun q h => by rw [← hAe]; exact Or.inr h
  have hS : va_S A s.heap s.heap [] := va_S.rf
  have hl := lv_entry ([.long tm]) (n := 2) (Nat.le_of_ble_eq_true rfl)
  rw [lg_entry_eq]
  generalize (lg_sl ([.long tm]) ++ List.replicate (2 - (lg_sl ([.long tm])).length) Slot.unset).toArray = ls at hl ⊢
  have hl : lv_has ls 2 [(0, .long tm)] := hl
  refine lv_lload_n hx hb dX11_isTime_0 rfl (lv_at hl 0 rfl) ?_
  refine lv_lconst (v := 0) hx hb dX11_isTime_1 (by decide) ?_
  refine W.lcmp hx hb dX11_isTime_2 ?_
  refine lv_if_lt (tgt := 18) hx hb dX11_isTime_3 (by decide) (fun _ => ?_) (fun c9 => absurd h1 c9)
  refine lv_iconst (v := 0) hx hb dX11_isTime_18 (by decide) ?_
  have hP9 := hP.sub (ws' := []) [] rfl
  have hD9 := hD.sub (ws' := []) [] (by decide) rfl
  refine W.widen (k := 0) (n := 0) (Nat.le_of_ble_eq_true rfl) (Nat.le_of_ble_eq_true rfl) ?_
  exact W.zret (v := 0) hx hb hr (by decide) (fun t ht hW => ⟨⟨0, (), rfl, rfl, by rw [ht]; exact hP9, hD9⟩, hS.F ht⟩) hS.2.2 dX11_isTime_19
def wz_c_X11_isTime_m : List Cond := .code yX11_isTime cX11_isTime 2 (some .boolean) :: ([.constantLong RX11 232 4294967295] ++ ([]))
set_option maxHeartbeats 4000000 in
set_option maxRecDepth 100000 in
theorem c_X11_isTime_m (l : Launch) (D : va_G) (y : Nat → ClassId) (sz : Nat) (tm : Int64) (h1 : ¬ lg_cmp tm 0 < 0) (h2 : 0 < lg_cmp tm 4294967295) : Met l yX11_isTime wz_c_X11_isTime_m ({ frames := 0, cells := 0, slots := 0, locals := 0 }) (va_Pc [.long tm] (zB D y [] sz [] [] [] [])) (va_Qi (fun (r : Int32) (_ : Unit) => r = 0) (fun _ t => va_P D vwCl [] t.heap ∧ va_D (va_A [] sz) []) (va_A [] sz)) 0 0 (va_A [] sz) := by
  refine Met.ofW (cc := cX11_isTime) (maxL := 2) (ret := (some .boolean)) (by decide) rfl ?_
  intro p e s m args below meth c s₁ B hml hv
  obtain ⟨rfl, hsz, hP, hK, hD0, hN, hE, hO, hT, hG⟩ := hv
  have hx := B.exec
  have hb := B.bytes
  have hr := B.returns
  have hts := atoms_spec (ws := wz_c_X11_isTime_m) B.pre
  have hown : s.vm.findClass RX11 = some m.cls := findClass_of_methodNamed B.named
  have hlocks := B.notSynchronized
  subst hsz
  have hD := hD0.self (sz := s.heap.size)
  generalize hAe : va_A [] s.heap.size = A at hD hE hT hG ⊢
  have hA : ∀ q : Nat, s.heap.size ≤ q → A q := fun q h => by rw [← hAe]; exact Or.inr h
  have hS : va_S A s.heap s.heap [] := va_S.rf
  have hl := lv_entry ([.long tm]) (n := 2) (Nat.le_of_ble_eq_true rfl)
  rw [lg_entry_eq]
  generalize (lg_sl ([.long tm]) ++ List.replicate (2 - (lg_sl ([.long tm])).length) Slot.unset).toArray = ls at hl ⊢
  have hl : lv_has ls 2 [(0, .long tm)] := hl
  refine lv_lload_n hx hb dX11_isTime_0 rfl (lv_at hl 0 rfl) ?_
  refine lv_lconst (v := 0) hx hb dX11_isTime_1 (by decide) ?_
  refine W.lcmp hx hb dX11_isTime_2 ?_
  refine lv_if_lt (tgt := 18) hx hb dX11_isTime_3 (by decide) (fun c9 => absurd c9 h1) (fun _ => ?_)
  refine lv_lload_n hx hb dX11_isTime_6 rfl (lv_at hl 0 rfl) ?_
  refine lv_ldc2 (v := 4294967295) hx hb hown (hts (.constantLong RX11 232 4294967295) (by decide +kernel)) dX11_isTime_7 ?_
  refine W.lcmp hx hb dX11_isTime_10 ?_
  refine lv_if_gt (tgt := 18) hx hb dX11_isTime_11 (by decide) (fun _ => ?_) (fun c9 => absurd h2 c9)
  refine lv_iconst (v := 0) hx hb dX11_isTime_18 (by decide) ?_
  have hP9 := hP.sub (ws' := []) [] rfl
  have hD9 := hD.sub (ws' := []) [] (by decide) rfl
  refine W.widen (k := 0) (n := 0) (Nat.le_of_ble_eq_true rfl) (Nat.le_of_ble_eq_true rfl) ?_
  exact W.zret (v := 0) hx hb hr (by decide) (fun t ht hW => ⟨⟨0, (), rfl, rfl, by rw [ht]; exact hP9, hD9⟩, hS.F ht⟩) hS.2.2 dX11_isTime_19
def wz_c_X4_fault : List Cond := .code yX4_fault cX4_fault 1 (some .int) :: ([.fieldLink RX4 32 "SignetRing$Packets" "place" "I"] ++ (wsX40 ++ ([])))
set_option maxHeartbeats 4000000 in
set_option maxRecDepth 100000 in
theorem c_X4_fault (l : Launch) (D : va_G) (y : Nat → ClassId) (sz : Nat) (h0 : Nat) (w1 : Value) (w2 : Value) (w3 : Value) (w4 : Value) (w5 : Value) : Met l yX4_fault wz_c_X4_fault ({ frames := 0, cells := 0, slots := 0, locals := 0 }) (va_Pc [.ref h0] (zB D y [(h0, .inr (8, [w1, w2, w3, .int 0, w4, w5]))] sz [] [] [] [])) (va_Qi (fun (r : Int32) (_ : Unit) => r = -1) (fun _ t => va_P D vwCl [(h0, .inr (8, [w1, w2, w3, .int 0, w4, w5]))] t.heap ∧ va_D (va_A [(h0, .inr (8, [w1, w2, w3, .int 0, w4, w5]))] sz) [(h0, .inr (8, [w1, w2, w3, .int 0, w4, w5]))]) (va_A [(h0, .inr (8, [w1, w2, w3, .int 0, w4, w5]))] sz)) 0 0 (va_A [(h0, .inr (8, [w1, w2, w3, .int 0, w4, w5]))] sz) := by
  refine Met.ofW (cc := cX4_fault) (maxL := 1) (ret := (some .int)) (by decide) rfl ?_
  intro p e s m args below meth c s₁ B hml hv
  obtain ⟨rfl, hsz, hP, hK, hD0, hN, hE, hO, hT, hG⟩ := hv
  have hx := B.exec
  have hb := B.bytes
  have hr := B.returns
  have hts := atoms_spec (ws := wz_c_X4_fault) B.pre
  have hown : s.vm.findClass RX4 = some m.cls := findClass_of_methodNamed B.named
  have hlocks := B.notSynchronized
  subst hsz
  have hD := hD0.self (sz := s.heap.size)
  generalize hAe : va_A [(h0, .inr (8, [w1, w2, w3, .int 0, w4, w5]))] s.heap.size = A at hD hE hT hG ⊢
  have hA : ∀ q : Nat, s.heap.size ≤ q → A q := fun q h => by rw [← hAe]; exact Or.inr h
  have hS : va_S A s.heap s.heap [] := va_S.rf
  have hl := lv_entry ([.ref h0]) (n := 1) (Nat.le_of_ble_eq_true rfl)
  rw [lg_entry_eq]
  generalize (lg_sl ([.ref h0]) ++ List.replicate (1 - (lg_sl ([.ref h0])).length) Slot.unset).toArray = ls at hl ⊢
  have hl : lv_has ls 1 [(0, .ref h0)] := hl
  refine lv_iconst (v := -1) hx hb dX4_fault_0 (by decide) ?_
  refine lv_aload_n hx hb dX4_fault_1 rfl (lv_at hl 0 rfl) ?_
  refine va_get (D := D) (ci := 8) (v := .int 0) (C := RX4) (T := TX4) (N := 6) hx hb hts (by decide +kernel) hown hK hP 0 rfl rfl 3 (by decide) (hts (.fieldLink RX4 32 "SignetRing$Packets" "place" "I") (by decide +kernel)) (fun _ h9 => h9) rfl dX4_fault_2 ?_
  refine lv_isub hx hb dX4_fault_5 ?_
  refine lv_topi (fun v1 ev1 => ?_)
  have ev1 : v1 = -1 := ev1.trans (by decide +kernel)
  subst ev1
  have hP9 := hP.sub (ws' := [(h0, .inr (8, [w1, w2, w3, .int 0, w4, w5]))]) [0] rfl
  have hD9 := hD.sub (ws' := [(h0, .inr (8, [w1, w2, w3, .int 0, w4, w5]))]) [0] (by decide) rfl
  refine W.widen (k := 0) (n := 0) (Nat.le_of_ble_eq_true rfl) (Nat.le_of_ble_eq_true rfl) ?_
  exact W.iret (v := (-1)) hx hb hr (fun t ht hW => ⟨⟨(-1), (), rfl, rfl, by rw [ht]; exact hP9, hD9⟩, hS.F ht⟩) hS.2.2 dX4_fault_6
def wz_c_X4_read : List Cond := .code yX4_read cX4_read 3 (some .boolean) :: ([.fieldLink RX4 36 "SignetRing$Packets" "next" "I", .fieldLink RX4 32 "SignetRing$Packets" "place" "I", .fieldLink RX4 29 "SignetRing$Packets" "in" "LSignetRing$Span;", .methodLink RX4 42 ⟨"SignetRing$Span", "at", "(I)I"⟩, .sameMethod "SignetRing$Span" "SignetRing$Span" "at" "(I)I", .selects RX0 ⟨"SignetRing$Span", "at", "(I)I"⟩ yX10_at, .instanceMethod yX10_at, .initialized RX10, .fieldLink RX4 39 "SignetRing$Span" "size" "I"] ++ (wsX40 ++ (wsX00 ++ (wz_c_X10_at_empty ++ ([])))))
set_option maxRecDepth 100000 in
theorem gz_c_X4_read_c_X10_at_empty : GoodIn wz_c_X4_read wz_c_X10_at_empty := goodIn_sub (fun w h => List.mem_cons_of_mem _ (List.mem_append_right _ (List.mem_append_right _ (List.mem_append_right _ (List.mem_append_left _ h))))) (by decide +kernel)
set_option maxRecDepth 100000 in
theorem gv_c_X4_read_c_X10_at_empty_42 : GoodIn wz_c_X4_read (va_wsU RX4 42 RX0 "SignetRing$Span" ⟨"SignetRing$Span", "at", "(I)I"⟩ yX10_at wz_c_X10_at_empty) := goodIn_app (goodIn_of _ (by decide +kernel)) gz_c_X4_read_c_X10_at_empty
set_option maxHeartbeats 4000000 in
set_option maxRecDepth 100000 in
theorem c_X4_read (l : Launch) (D : va_G) (y : Nat → ClassId) (sz : Nat) (h0 : Nat) (b : Nat) (w1 : Value) (w2 : Value) (w3 : Value) (w4 : Value) (w5 : Value) : Met l yX4_read wz_c_X4_read ({ frames := 1, cells := 0, slots := 0, locals := 22 }) (va_Pc [.ref h0] (zB D y [(h0, .inr (8, [w1, w2, .ref b, w3, .int 0, w4])), (b, .inr (4, [w5, .int 0, .int 0]))] sz [] [] [] [])) (va_Qi (fun (r : Int32) (_ : Unit) => r = 0) (fun _ t => va_P D vwCl [(h0, .inr (8, [w1, w2, .ref b, .int 0, .int 0, w4])), (b, .inr (4, [w5, .int 0, .int 0]))] t.heap ∧ va_D (va_A [(h0, .inr (8, [w1, w2, .ref b, w3, .int 0, w4])), (b, .inr (4, [w5, .int 0, .int 0]))] sz) [(h0, .inr (8, [w1, w2, .ref b, .int 0, .int 0, w4])), (b, .inr (4, [w5, .int 0, .int 0]))]) (va_A [(h0, .inr (8, [w1, w2, .ref b, w3, .int 0, w4])), (b, .inr (4, [w5, .int 0, .int 0]))] sz)) 0 0 (va_A [(h0, .inr (8, [w1, w2, .ref b, w3, .int 0, w4])), (b, .inr (4, [w5, .int 0, .int 0]))] sz) := by
  refine Met.ofW (cc := cX4_read) (maxL := 3) (ret := (some .boolean)) (by decide) rfl ?_
  intro p e s m args below meth c s₁ B hml hv
  obtain ⟨rfl, hsz, hP, hK, hD0, hN, hE, hO, hT, hG⟩ := hv
  have hx := B.exec
  have hb := B.bytes
  have hr := B.returns
  have hts := atoms_spec (ws := wz_c_X4_read) B.pre
  have hown : s.vm.findClass RX4 = some m.cls := findClass_of_methodNamed B.named
  have hlocks := B.notSynchronized
  subst hsz
  have hD := hD0.self (sz := s.heap.size)
  generalize hAe : va_A [(h0, .inr (8, [w1, w2, .ref b, w3, .int 0, w4])), (b, .inr (4, [w5, .int 0, .int 0]))] s.heap.size = A at hD hE hT hG ⊢
  have hA : ∀ q : Nat, s.heap.size ≤ q → A q := fun q h => by rw [← hAe]; exact Or.inr h
  have hS : va_S A s.heap s.heap [] := va_S.rf
  have hl := lv_entry ([.ref h0]) (n := 3) (Nat.le_of_ble_eq_true rfl)
  rw [lg_entry_eq]
  generalize (lg_sl ([.ref h0]) ++ List.replicate (3 - (lg_sl ([.ref h0])).length) Slot.unset).toArray = ls at hl ⊢
  have hl : lv_has ls 3 [(0, .ref h0)] := hl
  refine lv_aload_n hx hb dX4_read_0 rfl (lv_at hl 0 rfl) ?_
  refine lv_aload_n hx hb dX4_read_1 rfl (lv_at hl 0 rfl) ?_
  refine va_get (D := D) (ci := 8) (v := .int 0) (C := RX4) (T := TX4) (N := 6) hx hb hts (by decide +kernel) hown hK hP 0 rfl rfl 4 (by decide) (hts (.fieldLink RX4 36 "SignetRing$Packets" "next" "I") (by decide +kernel)) (fun _ h9 => h9) rfl dX4_read_2 ?_
  refine va_put (D := D) (ci := 8) (v := .int 0) (ty := .int) (C := RX4) (T := TX4) (N := 6) hx hb hts (by decide +kernel) tyX4 tyX4_ok nmX4 hown hK hP hD hS 0 rfl rfl 3 (by decide) (hts (.fieldLink RX4 32 "SignetRing$Packets" "place" "I") (by decide +kernel)) (fun _ h9 => h9) rfl (by decide +kernel) rfl rfl (Nat.le_of_ble_eq_true rfl) dX4_read_5 (fun H locs hP hD hS => ?_)
  have hP : va_P D vwCl [(h0, .inr (8, [w1, w2, .ref b, .int 0, .int 0, w4])), (b, .inr (4, [w5, .int 0, .int 0]))] H := hP
  have hD : va_D A [(h0, .inr (8, [w1, w2, .ref b, .int 0, .int 0, w4])), (b, .inr (4, [w5, .int 0, .int 0]))] := hD
  refine lv_aload_n hx hb dX4_read_8 rfl (lv_at hl 0 rfl) ?_
  refine va_get (D := D) (ci := 8) (v := .ref b) (C := RX4) (T := TX4) (N := 6) hx hb hts (by decide +kernel) hown hK hP 0 rfl rfl 2 (by decide) (hts (.fieldLink RX4 29 "SignetRing$Packets" "in" "LSignetRing$Span;") (by decide +kernel)) (fun _ h9 => h9) rfl dX4_read_9 ?_
  refine lv_aload_n hx hb dX4_read_12 rfl (lv_at hl 0 rfl) ?_
  refine va_get (D := D) (ci := 8) (v := .int 0) (C := RX4) (T := TX4) (N := 6) hx hb hts (by decide +kernel) hown hK hP 0 rfl rfl 3 (by decide) (hts (.fieldLink RX4 32 "SignetRing$Packets" "place" "I") (by decide +kernel)) (fun _ h9 => h9) rfl dX4_read_13 ?_
  have hPc := hP.sub (ws' := [(b, .inr (4, [w5, .int 0, .int 0]))]) [1] rfl
  have hDc := hD.sub (ws' := [(b, .inr (4, [w5, .int 0, .int 0]))]) [1] (by decide) rfl
  have hFc := va_free (wc := [(b, .inr (4, [w5, .int 0, .int 0]))]) hD hS hA [1] rfl
  refine va_calli (va_runU (As := [.int 0]) (rest := []) ⟨hx, hb, hml, hown, hts⟩ (c_X10_at_empty l D y H.size b w5) (va_cwU 1 hts gv_c_X4_read_c_X10_at_empty_42 rfl rfl rfl rfl (by decide +kernel) ⟨(Nat.le_of_ble_eq_true rfl), (Nat.le_of_ble_eq_true rfl)⟩) (zB.preV hPc hDc hK hN hE hO hT hG hS hFc (fun _ h => nomatch h) (fun _ h => nomatch h) (fun _ h => nomatch h) (fun _ h => nomatch h) (va_recv hK hPc (ci := 4) (q0 := 0) rfl rfl)) rfl rfl hl.1 rfl (lv_room (Nat.le_of_ble_eq_true rfl)) dX4_read_16 ⟨(Nat.le_of_ble_eq_true rfl), (Nat.le_of_ble_eq_true rfl)⟩) hS (fun q _ h => hFc q h) hFc (fun r1 u t H1 locs ht hvm hw hB hz1 hk1 hS => ?_)
  obtain ⟨hP1, hD1⟩ := hB
  rw [ht] at hP1
  obtain ⟨hP, hD⟩ := va_join (wr := [(h0, .inr (8, [w1, w2, .ref b, .int 0, .int 0, w4]))]) (w1 := [(b, .inr (4, [w5, .int 0, .int 0]))]) hP hD [1] [0] rfl rfl (by decide) (by decide) hk1 hFc hP1 hD1
  generalize H1 = H at hP hS ⊢
  have hP : va_P D vwCl [(h0, .inr (8, [w1, w2, .ref b, .int 0, .int 0, w4])), (b, .inr (4, [w5, .int 0, .int 0]))] H := hP
  have hD : va_D A [(h0, .inr (8, [w1, w2, .ref b, .int 0, .int 0, w4])), (b, .inr (4, [w5, .int 0, .int 0]))] := hD
  have hw : r1 = 0 := hw
  subst hw
  refine lv_istore_n (lv' := [(1, .int 0), (0, .ref h0)]) hx hb dX4_read_19 rfl hl (by decide) rfl (fun ls hl => ?_)
  refine lv_aload_n hx hb dX4_read_20 rfl (lv_at hl 1 rfl) ?_
  refine va_get (D := D) (ci := 8) (v := .int 0) (C := RX4) (T := TX4) (N := 6) hx hb hts (by decide +kernel) hown hK hP 0 rfl rfl 3 (by decide) (hts (.fieldLink RX4 32 "SignetRing$Packets" "place" "I") (by decide +kernel)) (fun _ h9 => h9) rfl dX4_read_21 ?_
  refine lv_aload_n hx hb dX4_read_24 rfl (lv_at hl 1 rfl) ?_
  refine va_get (D := D) (ci := 8) (v := .ref b) (C := RX4) (T := TX4) (N := 6) hx hb hts (by decide +kernel) hown hK hP 0 rfl rfl 2 (by decide) (hts (.fieldLink RX4 29 "SignetRing$Packets" "in" "LSignetRing$Span;") (by decide +kernel)) (fun _ h9 => h9) rfl dX4_read_25 ?_
  refine va_get (D := D) (ci := 4) (v := .int 0) (C := RX0) (T := TX0) (N := 3) hx hb hts (by decide +kernel) hown hK hP 1 rfl rfl 2 (by decide) (hts (.fieldLink RX4 39 "SignetRing$Span" "size" "I") (by decide +kernel)) (fun _ h9 => h9) rfl dX4_read_28 ?_
  refine lv_icmp_ge (tgt := 41) hx hb dX4_read_31 (by decide) (fun _ => ?_) (fun c9 => absurd (by decide) c9)
  refine lv_iconst (v := 0) hx hb dX4_read_41 (by decide) ?_
  have hP9 := hP.sub (ws' := [(h0, .inr (8, [w1, w2, .ref b, .int 0, .int 0, w4])), (b, .inr (4, [w5, .int 0, .int 0]))]) [0, 1] rfl
  have hD9 := hD.sub (ws' := [(h0, .inr (8, [w1, w2, .ref b, .int 0, .int 0, w4])), (b, .inr (4, [w5, .int 0, .int 0]))]) [0, 1] (by decide) rfl
  refine W.widen (k := 0) (n := 0) (Nat.le_of_ble_eq_true rfl) (Nat.le_of_ble_eq_true rfl) ?_
  exact W.zret (v := 0) hx hb hr (by decide) (fun t ht hW => ⟨⟨0, (), rfl, rfl, by rw [ht]; exact hP9, hD9⟩, hS.F ht⟩) hS.2.2 dX4_read_42
def wz_c_X10_view : List Cond := .code yX10_view cX10_view 4 none :: ([.fieldLink RX10 7 "SignetRing$Span" "row" "[B", .fieldLink RX10 13 "SignetRing$Span" "from" "I", .fieldLink RX10 17 "SignetRing$Span" "size" "I"] ++ (wsX100 ++ ([])))
set_option maxHeartbeats 4000000 in
set_option maxRecDepth 100000 in
theorem c_X10_view (l : Launch) (D : va_G) (y : Nat → ClassId) (sz : Nat) (h0 : Nat) (b : Nat) (w1 : Value) (w2 : Value) (w3 : Value) (i1 : Int32) (i2 : Int32) : Met l yX10_view wz_c_X10_view ({ frames := 0, cells := 0, slots := 0, locals := 0 }) (va_Pc [.ref h0, .ref b, .int i1, .int i2] (zB D y [(h0, .inr (14, [w1, w2, w3]))] sz [] [] [] [])) (va_Qv (fun _ : Unit => True) (fun _ t => va_P D vwCl [(h0, .inr (14, [.ref b, .int i1, .int i2]))] t.heap ∧ va_D (va_A [(h0, .inr (14, [w1, w2, w3]))] sz) [(h0, .inr (14, [.ref b, .int i1, .int i2]))]) (va_A [(h0, .inr (14, [w1, w2, w3]))] sz)) 0 0 (va_A [(h0, .inr (14, [w1, w2, w3]))] sz) := by
  refine Met.ofW (cc := cX10_view) (maxL := 4) (ret := none) (by decide) rfl ?_
  intro p e s m args below meth c s₁ B hml hv
  obtain ⟨rfl, hsz, hP, hK, hD0, hN, hE, hO, hT, hG⟩ := hv
  have hx := B.exec
  have hb := B.bytes
  have hr := B.returns
  have hts := atoms_spec (ws := wz_c_X10_view) B.pre
  have hown : s.vm.findClass RX10 = some m.cls := findClass_of_methodNamed B.named
  have hlocks := B.notSynchronized
  subst hsz
  have hD := hD0.self (sz := s.heap.size)
  generalize hAe : va_A [(h0, .inr (14, [w1, w2, w3]))] s.heap.size = A at hD hE hT hG ⊢
  have hA : ∀ q : Nat, s.heap.size ≤ q → A q := fun q h => by rw [← hAe]; exact Or.inr h
  have hS : va_S A s.heap s.heap [] := va_S.rf
  have hl := lv_entry ([.ref h0, .ref b, .int i1, .int i2]) (n := 4) (Nat.le_of_ble_eq_true rfl)
  rw [lg_entry_eq]
  generalize (lg_sl ([.ref h0, .ref b, .int i1, .int i2]) ++ List.replicate (4 - (lg_sl ([.ref h0, .ref b, .int i1, .int i2])).length) Slot.unset).toArray = ls at hl ⊢
  have hl : lv_has ls 4 [(0, .ref h0), (1, .ref b), (2, .int i1), (3, .int i2)] := hl
  refine lv_aload_n hx hb dX10_view_0 rfl (lv_at hl 0 rfl) ?_
  refine lv_aload_n hx hb dX10_view_1 rfl (lv_at hl 1 rfl) ?_
  refine va_put (D := D) (ci := 14) (v := .ref b) (ty := (.array .byte)) (C := RX10) (T := TX10) (N := 3) hx hb hts (by decide +kernel) tyX10 tyX10_ok nmX10 hown hK hP hD hS 0 rfl rfl 0 (by decide) (hts (.fieldLink RX10 7 "SignetRing$Span" "row" "[B") (by decide +kernel)) (fun _ h9 => h9) rfl (by decide +kernel) rfl rfl (Nat.le_of_ble_eq_true rfl) dX10_view_2 (fun H locs hP hD hS => ?_)
  have hP : va_P D vwCl [(h0, .inr (14, [.ref b, w2, w3]))] H := hP
  have hD : va_D A [(h0, .inr (14, [.ref b, w2, w3]))] := hD
  refine lv_aload_n hx hb dX10_view_5 rfl (lv_at hl 0 rfl) ?_
  refine lv_iload_n hx hb dX10_view_6 rfl (lv_at hl 2 rfl) ?_
  refine va_put (D := D) (ci := 14) (v := .int i1) (ty := .int) (C := RX10) (T := TX10) (N := 3) hx hb hts (by decide +kernel) tyX10 tyX10_ok nmX10 hown hK hP hD hS 0 rfl rfl 1 (by decide) (hts (.fieldLink RX10 13 "SignetRing$Span" "from" "I") (by decide +kernel)) (fun _ h9 => h9) rfl (by decide +kernel) rfl rfl (Nat.le_of_ble_eq_true rfl) dX10_view_7 (fun H locs hP hD hS => ?_)
  have hP : va_P D vwCl [(h0, .inr (14, [.ref b, .int i1, w3]))] H := hP
  have hD : va_D A [(h0, .inr (14, [.ref b, .int i1, w3]))] := hD
  refine lv_aload_n hx hb dX10_view_10 rfl (lv_at hl 0 rfl) ?_
  refine lv_iload_n hx hb dX10_view_11 rfl (lv_at hl 3 rfl) ?_
  refine va_put (D := D) (ci := 14) (v := .int i2) (ty := .int) (C := RX10) (T := TX10) (N := 3) hx hb hts (by decide +kernel) tyX10 tyX10_ok nmX10 hown hK hP hD hS 0 rfl rfl 2 (by decide) (hts (.fieldLink RX10 17 "SignetRing$Span" "size" "I") (by decide +kernel)) (fun _ h9 => h9) rfl (by decide +kernel) rfl rfl (Nat.le_of_ble_eq_true rfl) dX10_view_12 (fun H locs hP hD hS => ?_)
  have hP : va_P D vwCl [(h0, .inr (14, [.ref b, .int i1, .int i2]))] H := hP
  have hD : va_D A [(h0, .inr (14, [.ref b, .int i1, .int i2]))] := hD
  have hP9 := hP.sub (ws' := [(h0, .inr (14, [.ref b, .int i1, .int i2]))]) [0] rfl
  have hD9 := hD.sub (ws' := [(h0, .inr (14, [.ref b, .int i1, .int i2]))]) [0] (by decide) rfl
  refine W.widen (k := 0) (n := 0) (Nat.le_of_ble_eq_true rfl) (Nat.le_of_ble_eq_true rfl) ?_
  exact W.vret hx hb hr (fun t ht hW => ⟨⟨(), rfl, trivial, by rw [ht]; exact hP9, hD9⟩, hS.F ht⟩) hS.2.2 dX10_view_15
def wz_c_X11_readSealed : List Cond := .code yX11_readSealed cX11_readSealed 5 (some .int) :: ([.fieldLink RX11 39 "SignetRing" "packets" "LSignetRing$Packets;", .methodLink RX11 288 yX4_read, .instanceMethod yX4_read, .selects RX4 yX4_read yX4_read, .initialized RX4, .methodLink RX11 299 yX4_fault, .instanceMethod yX4_fault, .selects RX4 yX4_fault yX4_fault] ++ (wsX110 ++ (wz_c_X4_read ++ (wz_c_X4_fault ++ ([])))))
set_option maxRecDepth 100000 in
theorem gz_c_X11_readSealed_c_X4_read : GoodIn wz_c_X11_readSealed wz_c_X4_read := goodIn_sub (fun w h => List.mem_cons_of_mem _ (List.mem_append_right _ (List.mem_append_right _ (List.mem_append_left _ h)))) (by decide +kernel)
set_option maxRecDepth 100000 in
theorem gz_c_X11_readSealed_c_X4_fault : GoodIn wz_c_X11_readSealed wz_c_X4_fault := goodIn_sub (fun w h => List.mem_cons_of_mem _ (List.mem_append_right _ (List.mem_append_right _ (List.mem_append_right _ (List.mem_append_left _ h))))) (by decide +kernel)
set_option maxRecDepth 100000 in
theorem gv_c_X11_readSealed_c_X4_read_288 : GoodIn wz_c_X11_readSealed (wsV RX11 288 RX4 yX4_read wz_c_X4_read) := goodIn_app (goodIn_of _ (by decide +kernel)) gz_c_X11_readSealed_c_X4_read
set_option maxRecDepth 100000 in
theorem gv_c_X11_readSealed_c_X4_fault_299 : GoodIn wz_c_X11_readSealed (wsV RX11 299 RX4 yX4_fault wz_c_X4_fault) := goodIn_app (goodIn_of _ (by decide +kernel)) gz_c_X11_readSealed_c_X4_fault
set_option maxHeartbeats 4000000 in
set_option maxRecDepth 100000 in
theorem c_X11_readSealed (l : Launch) (D : va_G) (y : Nat → ClassId) (sz : Nat) (h0 : Nat) (pk : Nat) (bb : Nat) (w1 : Value) (w2 : Value) (w3 : Value) (w4 : Value) (w5 : Value) (w6 : Value) (w7 : Value) (w8 : Value) (w9 : Value) (w10 : Value) (w11 : Value) (w12 : Value) (w13 : Value) (w14 : Value) (w15 : Value) (w16 : Value) (w17 : Value) (w18 : Value) (w19 : Value) : Met l yX11_readSealed wz_c_X11_readSealed ({ frames := 2, cells := 0, slots := 0, locals := 44 }) (va_Pc [.ref h0] (zB D y [(h0, .inr (15, [w1, w2, w3, w4, w5, .ref pk, w6, w7, w8, w9, w10, w11, w12, w13, w14])), (pk, .inr (8, [w15, w16, .ref bb, w17, .int 0, w18])), (bb, .inr (4, [w19, .int 0, .int 0]))] sz [] [] [] [])) (va_Qi (fun (r : Int32) (_ : Unit) => r = -1) (fun _ t => va_P D vwCl [(h0, .inr (15, [w1, w2, w3, w4, w5, .ref pk, w6, w7, w8, w9, w10, w11, w12, w13, w14])), (pk, .inr (8, [w15, w16, .ref bb, .int 0, .int 0, w18])), (bb, .inr (4, [w19, .int 0, .int 0]))] t.heap ∧ va_D (va_A [(h0, .inr (15, [w1, w2, w3, w4, w5, .ref pk, w6, w7, w8, w9, w10, w11, w12, w13, w14])), (pk, .inr (8, [w15, w16, .ref bb, w17, .int 0, w18])), (bb, .inr (4, [w19, .int 0, .int 0]))] sz) [(h0, .inr (15, [w1, w2, w3, w4, w5, .ref pk, w6, w7, w8, w9, w10, w11, w12, w13, w14])), (pk, .inr (8, [w15, w16, .ref bb, .int 0, .int 0, w18])), (bb, .inr (4, [w19, .int 0, .int 0]))]) (va_A [(h0, .inr (15, [w1, w2, w3, w4, w5, .ref pk, w6, w7, w8, w9, w10, w11, w12, w13, w14])), (pk, .inr (8, [w15, w16, .ref bb, w17, .int 0, w18])), (bb, .inr (4, [w19, .int 0, .int 0]))] sz)) 0 0 (va_A [(h0, .inr (15, [w1, w2, w3, w4, w5, .ref pk, w6, w7, w8, w9, w10, w11, w12, w13, w14])), (pk, .inr (8, [w15, w16, .ref bb, w17, .int 0, w18])), (bb, .inr (4, [w19, .int 0, .int 0]))] sz) := by
  refine Met.ofW (cc := cX11_readSealed) (maxL := 5) (ret := (some .int)) (by decide) rfl ?_
  intro p e s m args below meth c s₁ B hml hv
  obtain ⟨rfl, hsz, hP, hK, hD0, hN, hE, hO, hT, hG⟩ := hv
  have hx := B.exec
  have hb := B.bytes
  have hr := B.returns
  have hts := atoms_spec (ws := wz_c_X11_readSealed) B.pre
  have hown : s.vm.findClass RX11 = some m.cls := findClass_of_methodNamed B.named
  have hlocks := B.notSynchronized
  subst hsz
  have hD := hD0.self (sz := s.heap.size)
  generalize hAe : va_A [(h0, .inr (15, [w1, w2, w3, w4, w5, .ref pk, w6, w7, w8, w9, w10, w11, w12, w13, w14])), (pk, .inr (8, [w15, w16, .ref bb, w17, .int 0, w18])), (bb, .inr (4, [w19, .int 0, .int 0]))] s.heap.size = A at hD hE hT hG ⊢
  have hA : ∀ q : Nat, s.heap.size ≤ q → A q := fun q h => by rw [← hAe]; exact Or.inr h
  have hS : va_S A s.heap s.heap [] := va_S.rf
  have hl := lv_entry ([.ref h0]) (n := 5) (Nat.le_of_ble_eq_true rfl)
  rw [lg_entry_eq]
  generalize (lg_sl ([.ref h0]) ++ List.replicate (5 - (lg_sl ([.ref h0])).length) Slot.unset).toArray = ls at hl ⊢
  have hl : lv_has ls 5 [(0, .ref h0)] := hl
  refine lv_aload_n hx hb dX11_readSealed_0 rfl (lv_at hl 0 rfl) ?_
  refine va_get (D := D) (ci := 15) (v := .ref pk) (C := RX11) (T := TX11) (N := 15) hx hb hts (by decide +kernel) hown hK hP 0 rfl rfl 5 (by decide) (hts (.fieldLink RX11 39 "SignetRing" "packets" "LSignetRing$Packets;") (by decide +kernel)) (fun _ h9 => h9) rfl dX11_readSealed_1 ?_
  have hPc := hP.sub (ws' := [(pk, .inr (8, [w15, w16, .ref bb, w17, .int 0, w18])), (bb, .inr (4, [w19, .int 0, .int 0]))]) [1, 2] rfl
  have hDc := hD.sub (ws' := [(pk, .inr (8, [w15, w16, .ref bb, w17, .int 0, w18])), (bb, .inr (4, [w19, .int 0, .int 0]))]) [1, 2] (by decide) rfl
  have hFc := va_free (wc := [(pk, .inr (8, [w15, w16, .ref bb, w17, .int 0, w18])), (bb, .inr (4, [w19, .int 0, .int 0]))]) hD hS hA [1, 2] rfl
  refine va_calli (va_runV (As := []) (rest := []) ⟨hx, hb, hml, hown, hts⟩ (c_X4_read l D y s.heap.size pk bb w15 w16 w17 w18 w19) (cwV 0 hts gv_c_X11_readSealed_c_X4_read_288 rfl rfl rfl (by decide +kernel) ⟨(Nat.le_of_ble_eq_true rfl), (Nat.le_of_ble_eq_true rfl)⟩) (zB.preV hPc hDc hK hN hE hO hT hG hS hFc (fun _ h => nomatch h) (fun _ h => nomatch h) (fun _ h => nomatch h) (fun _ h => nomatch h) (va_recv hK hPc (ci := 8) (q0 := 0) rfl rfl)) rfl rfl hl.1 rfl (lv_room (Nat.le_of_ble_eq_true rfl)) dX11_readSealed_4 ⟨(Nat.le_of_ble_eq_true rfl), (Nat.le_of_ble_eq_true rfl)⟩) hS (fun q _ h => hFc q h) hFc (fun r1 u t H1 locs ht hvm hw hB hz1 hk1 hS => ?_)
  obtain ⟨hP1, hD1⟩ := hB
  rw [ht] at hP1
  obtain ⟨hP, hD⟩ := va_join (wr := [(h0, .inr (15, [w1, w2, w3, w4, w5, .ref pk, w6, w7, w8, w9, w10, w11, w12, w13, w14]))]) (w1 := [(pk, .inr (8, [w15, w16, .ref bb, .int 0, .int 0, w18])), (bb, .inr (4, [w19, .int 0, .int 0]))]) hP hD [1, 2] [0] rfl rfl (by decide) (by decide) hk1 hFc hP1 hD1
  generalize H1 = H at hP hS ⊢
  have hP : va_P D vwCl [(h0, .inr (15, [w1, w2, w3, w4, w5, .ref pk, w6, w7, w8, w9, w10, w11, w12, w13, w14])), (pk, .inr (8, [w15, w16, .ref bb, .int 0, .int 0, w18])), (bb, .inr (4, [w19, .int 0, .int 0]))] H := hP
  have hD : va_D A [(h0, .inr (15, [w1, w2, w3, w4, w5, .ref pk, w6, w7, w8, w9, w10, w11, w12, w13, w14])), (pk, .inr (8, [w15, w16, .ref bb, .int 0, .int 0, w18])), (bb, .inr (4, [w19, .int 0, .int 0]))] := hD
  have hw : r1 = 0 := hw
  subst hw
  refine lv_if_ne (tgt := 18) hx hb dX11_readSealed_7 (by decide) (fun c9 => absurd (by decide) c9) (fun _ => ?_)
  refine lv_aload_n hx hb dX11_readSealed_10 rfl (lv_at hl 0 rfl) ?_
  refine va_get (D := D) (ci := 15) (v := .ref pk) (C := RX11) (T := TX11) (N := 15) hx hb hts (by decide +kernel) hown hK hP 0 rfl rfl 5 (by decide) (hts (.fieldLink RX11 39 "SignetRing" "packets" "LSignetRing$Packets;") (by decide +kernel)) (fun _ h9 => h9) rfl dX11_readSealed_11 ?_
  have hPc := hP.sub (ws' := [(pk, .inr (8, [w15, w16, .ref bb, .int 0, .int 0, w18]))]) [1] rfl
  have hDc := hD.sub (ws' := [(pk, .inr (8, [w15, w16, .ref bb, .int 0, .int 0, w18]))]) [1] (by decide) rfl
  have hFc := va_free (wc := [(pk, .inr (8, [w15, w16, .ref bb, .int 0, .int 0, w18]))]) hD hS hA [1] rfl
  refine va_calli (va_runV (As := []) (rest := []) ⟨hx, hb, hml, hown, hts⟩ (c_X4_fault l D y H.size pk w15 w16 ((.ref bb)) ((.int 0)) w18) (cwV 0 hts gv_c_X11_readSealed_c_X4_fault_299 rfl rfl rfl (by decide +kernel) ⟨(Nat.le_of_ble_eq_true rfl), (Nat.le_of_ble_eq_true rfl)⟩) (zB.preV hPc hDc hK hN hE hO hT hG hS hFc (fun _ h => nomatch h) (fun _ h => nomatch h) (fun _ h => nomatch h) (fun _ h => nomatch h) (va_recv hK hPc (ci := 8) (q0 := 0) rfl rfl)) rfl rfl hl.1 rfl (lv_room (Nat.le_of_ble_eq_true rfl)) dX11_readSealed_14 ⟨(Nat.le_of_ble_eq_true rfl), (Nat.le_of_ble_eq_true rfl)⟩) hS (fun q _ h => hFc q h) hFc (fun r2 u t H1 locs ht hvm hw hB hz1 hk1 hS => ?_)
  obtain ⟨hP1, hD1⟩ := hB
  rw [ht] at hP1
  obtain ⟨hP, hD⟩ := va_join (wr := [(h0, .inr (15, [w1, w2, w3, w4, w5, .ref pk, w6, w7, w8, w9, w10, w11, w12, w13, w14])), (bb, .inr (4, [w19, .int 0, .int 0]))]) (w1 := [(pk, .inr (8, [w15, w16, .ref bb, .int 0, .int 0, w18]))]) hP hD [1] [0, 2] rfl rfl (by decide) (by decide) hk1 hFc hP1 hD1
  generalize H1 = H at hP hS ⊢
  have hP : va_P D vwCl [(h0, .inr (15, [w1, w2, w3, w4, w5, .ref pk, w6, w7, w8, w9, w10, w11, w12, w13, w14])), (bb, .inr (4, [w19, .int 0, .int 0])), (pk, .inr (8, [w15, w16, .ref bb, .int 0, .int 0, w18]))] H := hP
  have hD : va_D A [(h0, .inr (15, [w1, w2, w3, w4, w5, .ref pk, w6, w7, w8, w9, w10, w11, w12, w13, w14])), (bb, .inr (4, [w19, .int 0, .int 0])), (pk, .inr (8, [w15, w16, .ref bb, .int 0, .int 0, w18]))] := hD
  have hw : r2 = -1 := hw
  subst hw
  have hP9 := hP.sub (ws' := [(h0, .inr (15, [w1, w2, w3, w4, w5, .ref pk, w6, w7, w8, w9, w10, w11, w12, w13, w14])), (pk, .inr (8, [w15, w16, .ref bb, .int 0, .int 0, w18])), (bb, .inr (4, [w19, .int 0, .int 0]))]) [0, 2, 1] rfl
  have hD9 := hD.sub (ws' := [(h0, .inr (15, [w1, w2, w3, w4, w5, .ref pk, w6, w7, w8, w9, w10, w11, w12, w13, w14])), (pk, .inr (8, [w15, w16, .ref bb, .int 0, .int 0, w18])), (bb, .inr (4, [w19, .int 0, .int 0]))]) [0, 2, 1] (by decide) rfl
  refine W.widen (k := 0) (n := 0) (Nat.le_of_ble_eq_true rfl) (Nat.le_of_ble_eq_true rfl) ?_
  exact W.iret (v := (-1)) hx hb hr (fun t ht hW => ⟨⟨(-1), (), rfl, rfl, by rw [ht]; exact hP9, hD9⟩, hS.F ht⟩) hS.2.2 dX11_readSealed_17
def wz_c_X11_openLooked : List Cond := .code yX11_openLooked cX11_openLooked 2 (some .int) :: ([.fieldLink RX11 32 "SignetRing" "letter" "LSignetRing$Span;", .fieldLink RX11 18 "SignetRing" "told" "LSignetRing$Bytes;", .fieldLink RX11 261 "SignetRing$Bytes" "row" "[B", .sameField "SignetRing$Bytes" "SignetRing$Span" "row" "[B", .fieldLink RX11 264 "SignetRing$Bytes" "from" "I", .sameField "SignetRing$Bytes" "SignetRing$Span" "from" "I", .fieldLink RX11 86 "SignetRing$Bytes" "size" "I", .sameField "SignetRing$Bytes" "SignetRing$Span" "size" "I", .methodLink RX11 267 yX10_view, .instanceMethod yX10_view, .selects RX10 yX10_view yX10_view, .initialized RX10, .fieldLink RX11 39 "SignetRing" "packets" "LSignetRing$Packets;", .fieldLink RX11 14 "SignetRing" "bytes" "LSignetRing$Bytes;", .methodLink RX11 234 yX4_open, .instanceMethod yX4_open, .selects RX4 yX4_open yX4_open, .initialized RX4, .methodLink RX11 238 yX11_isInSigns, .instanceMethod yX11_isInSigns, .selects RX11 yX11_isInSigns yX11_isInSigns, .initialized RX11, .methodLink RX11 270 yX11_readSealed, .instanceMethod yX11_readSealed, .selects RX11 yX11_readSealed yX11_readSealed] ++ (wsX110 ++ (wsX00 ++ (wz_c_X10_view ++ (wz_c_X4_open ++ (wz_c_X11_isInSigns ++ (wz_c_X11_readSealed ++ ([]))))))))
set_option maxRecDepth 100000 in
theorem gz_c_X11_openLooked_c_X10_view : GoodIn wz_c_X11_openLooked wz_c_X10_view := goodIn_sub (fun w h => List.mem_cons_of_mem _ (List.mem_append_right _ (List.mem_append_right _ (List.mem_append_right _ (List.mem_append_left _ h))))) (by decide +kernel)
set_option maxRecDepth 100000 in
theorem gz_c_X11_openLooked_c_X4_open : GoodIn wz_c_X11_openLooked wz_c_X4_open := goodIn_sub (fun w h => List.mem_cons_of_mem _ (List.mem_append_right _ (List.mem_append_right _ (List.mem_append_right _ (List.mem_append_right _ (List.mem_append_left _ h)))))) (by decide +kernel)
set_option maxRecDepth 100000 in
theorem gz_c_X11_openLooked_c_X11_isInSigns : GoodIn wz_c_X11_openLooked wz_c_X11_isInSigns := goodIn_sub (fun w h => List.mem_cons_of_mem _ (List.mem_append_right _ (List.mem_append_right _ (List.mem_append_right _ (List.mem_append_right _ (List.mem_append_right _ (List.mem_append_left _ h))))))) (by decide +kernel)
set_option maxRecDepth 100000 in
theorem gz_c_X11_openLooked_c_X11_readSealed : GoodIn wz_c_X11_openLooked wz_c_X11_readSealed := goodIn_sub (fun w h => List.mem_cons_of_mem _ (List.mem_append_right _ (List.mem_append_right _ (List.mem_append_right _ (List.mem_append_right _ (List.mem_append_right _ (List.mem_append_right _ (List.mem_append_left _ h)))))))) (by decide +kernel)
set_option maxRecDepth 100000 in
theorem gv_c_X11_openLooked_c_X10_view_267 : GoodIn wz_c_X11_openLooked (wsV RX11 267 RX10 yX10_view wz_c_X10_view) := goodIn_app (goodIn_of _ (by decide +kernel)) gz_c_X11_openLooked_c_X10_view
set_option maxRecDepth 100000 in
theorem gv_c_X11_openLooked_c_X4_open_234 : GoodIn wz_c_X11_openLooked (wsV RX11 234 RX4 yX4_open wz_c_X4_open) := goodIn_app (goodIn_of _ (by decide +kernel)) gz_c_X11_openLooked_c_X4_open
set_option maxRecDepth 100000 in
theorem gv_c_X11_openLooked_c_X11_isInSigns_238 : GoodIn wz_c_X11_openLooked (wsV RX11 238 RX11 yX11_isInSigns wz_c_X11_isInSigns) := goodIn_app (goodIn_of _ (by decide +kernel)) gz_c_X11_openLooked_c_X11_isInSigns
set_option maxRecDepth 100000 in
theorem gv_c_X11_openLooked_c_X11_readSealed_270 : GoodIn wz_c_X11_openLooked (wsV RX11 270 RX11 yX11_readSealed wz_c_X11_readSealed) := goodIn_app (goodIn_of _ (by decide +kernel)) gz_c_X11_openLooked_c_X11_readSealed
set_option maxHeartbeats 4000000 in
set_option maxRecDepth 100000 in
theorem c_X11_openLooked (l : Launch) (D : va_G) (y : Nat → ClassId) (sz : Nat) (h0 : Nat) (le : Nat) (to : Nat) (tr : Nat) (pk : Nat) (bb : Nat) (w1 : Value) (w2 : Value) (w3 : Value) (w4 : Value) (w5 : Value) (w6 : Value) (w7 : Value) (w8 : Value) (w9 : Value) (w10 : Value) (w11 : Value) (w12 : Value) (w13 : Value) (w14 : Value) (w15 : Value) (w16 : Value) (w17 : Value) (w18 : Value) (w19 : Value) (w20 : Value) (w21 : Value) : Met l yX11_openLooked wz_c_X11_openLooked ({ frames := 3, cells := 0, slots := 0, locals := 68 }) (va_Pc [.ref h0] (zB D y [(h0, .inr (15, [.ref bb, .ref to, w1, w2, .ref le, .ref pk, w3, w4, w5, w6, w7, w8, w9, w10, w11])), (le, .inr (14, [w12, w13, w14])), (to, .inr (4, [.ref tr, .int 0, .int 0])), (pk, .inr (8, [w15, w16, w17, w18, w19, w20])), (bb, .inr (4, [w21, .int 0, .int 0]))] sz [] [] [] [])) (va_Qi (fun (r : Int32) (_ : Unit) => r = -1) (fun _ t => va_P D vwCl [(h0, .inr (15, [.ref bb, .ref to, w1, w2, .ref le, .ref pk, w3, w4, w5, w6, w7, w8, w9, w10, w11])), (le, .inr (14, [.ref tr, .int 0, .int 0])), (to, .inr (4, [.ref tr, .int 0, .int 0])), (pk, .inr (8, [w15, w16, .ref bb, .int 0, .int 0, w20])), (bb, .inr (4, [w21, .int 0, .int 0]))] t.heap ∧ va_D (va_A [(h0, .inr (15, [.ref bb, .ref to, w1, w2, .ref le, .ref pk, w3, w4, w5, w6, w7, w8, w9, w10, w11])), (le, .inr (14, [w12, w13, w14])), (to, .inr (4, [.ref tr, .int 0, .int 0])), (pk, .inr (8, [w15, w16, w17, w18, w19, w20])), (bb, .inr (4, [w21, .int 0, .int 0]))] sz) [(h0, .inr (15, [.ref bb, .ref to, w1, w2, .ref le, .ref pk, w3, w4, w5, w6, w7, w8, w9, w10, w11])), (le, .inr (14, [.ref tr, .int 0, .int 0])), (to, .inr (4, [.ref tr, .int 0, .int 0])), (pk, .inr (8, [w15, w16, .ref bb, .int 0, .int 0, w20])), (bb, .inr (4, [w21, .int 0, .int 0]))]) (va_A [(h0, .inr (15, [.ref bb, .ref to, w1, w2, .ref le, .ref pk, w3, w4, w5, w6, w7, w8, w9, w10, w11])), (le, .inr (14, [w12, w13, w14])), (to, .inr (4, [.ref tr, .int 0, .int 0])), (pk, .inr (8, [w15, w16, w17, w18, w19, w20])), (bb, .inr (4, [w21, .int 0, .int 0]))] sz)) 0 0 (va_A [(h0, .inr (15, [.ref bb, .ref to, w1, w2, .ref le, .ref pk, w3, w4, w5, w6, w7, w8, w9, w10, w11])), (le, .inr (14, [w12, w13, w14])), (to, .inr (4, [.ref tr, .int 0, .int 0])), (pk, .inr (8, [w15, w16, w17, w18, w19, w20])), (bb, .inr (4, [w21, .int 0, .int 0]))] sz) := by
  refine Met.ofW (cc := cX11_openLooked) (maxL := 2) (ret := (some .int)) (by decide) rfl ?_
  intro p e s m args below meth c s₁ B hml hv
  obtain ⟨rfl, hsz, hP, hK, hD0, hN, hE, hO, hT, hG⟩ := hv
  have hx := B.exec
  have hb := B.bytes
  have hr := B.returns
  have hts := atoms_spec (ws := wz_c_X11_openLooked) B.pre
  have hown : s.vm.findClass RX11 = some m.cls := findClass_of_methodNamed B.named
  have hlocks := B.notSynchronized
  subst hsz
  have hD := hD0.self (sz := s.heap.size)
  generalize hAe : va_A [(h0, .inr (15, [.ref bb, .ref to, w1, w2, .ref le, .ref pk, w3, w4, w5, w6, w7, w8, w9, w10, w11])), (le, .inr (14, [w12, w13, w14])), (to, .inr (4, [.ref tr, .int 0, .int 0])), (pk, .inr (8, [w15, w16, w17, w18, w19, w20])), (bb, .inr (4, [w21, .int 0, .int 0]))] s.heap.size = A at hD hE hT hG ⊢
  have hA : ∀ q : Nat, s.heap.size ≤ q → A q := fun q h => by rw [← hAe]; exact Or.inr h
  have hS : va_S A s.heap s.heap [] := va_S.rf
  have hl := lv_entry ([.ref h0]) (n := 2) (Nat.le_of_ble_eq_true rfl)
  rw [lg_entry_eq]
  generalize (lg_sl ([.ref h0]) ++ List.replicate (2 - (lg_sl ([.ref h0])).length) Slot.unset).toArray = ls at hl ⊢
  have hl : lv_has ls 2 [(0, .ref h0)] := hl
  refine lv_aload_n hx hb dX11_openLooked_0 rfl (lv_at hl 0 rfl) ?_
  refine va_get (D := D) (ci := 15) (v := .ref le) (C := RX11) (T := TX11) (N := 15) hx hb hts (by decide +kernel) hown hK hP 0 rfl rfl 4 (by decide) (hts (.fieldLink RX11 32 "SignetRing" "letter" "LSignetRing$Span;") (by decide +kernel)) (fun _ h9 => h9) rfl dX11_openLooked_1 ?_
  refine lv_aload_n hx hb dX11_openLooked_4 rfl (lv_at hl 0 rfl) ?_
  refine va_get (D := D) (ci := 15) (v := .ref to) (C := RX11) (T := TX11) (N := 15) hx hb hts (by decide +kernel) hown hK hP 0 rfl rfl 1 (by decide) (hts (.fieldLink RX11 18 "SignetRing" "told" "LSignetRing$Bytes;") (by decide +kernel)) (fun _ h9 => h9) rfl dX11_openLooked_5 ?_
  refine va_get (D := D) (ci := 4) (v := .ref tr) (C := RX0) (T := TX0) (N := 3) hx hb hts (by decide +kernel) hown hK hP 2 rfl rfl 0 (by decide) (hts (.fieldLink RX11 261 "SignetRing$Bytes" "row" "[B") (by decide +kernel)) (u_same (hts (.sameField "SignetRing$Bytes" "SignetRing$Span" "row" "[B") (by decide +kernel))) rfl dX11_openLooked_8 ?_
  refine lv_aload_n hx hb dX11_openLooked_11 rfl (lv_at hl 0 rfl) ?_
  refine va_get (D := D) (ci := 15) (v := .ref to) (C := RX11) (T := TX11) (N := 15) hx hb hts (by decide +kernel) hown hK hP 0 rfl rfl 1 (by decide) (hts (.fieldLink RX11 18 "SignetRing" "told" "LSignetRing$Bytes;") (by decide +kernel)) (fun _ h9 => h9) rfl dX11_openLooked_12 ?_
  refine va_get (D := D) (ci := 4) (v := .int 0) (C := RX0) (T := TX0) (N := 3) hx hb hts (by decide +kernel) hown hK hP 2 rfl rfl 1 (by decide) (hts (.fieldLink RX11 264 "SignetRing$Bytes" "from" "I") (by decide +kernel)) (u_same (hts (.sameField "SignetRing$Bytes" "SignetRing$Span" "from" "I") (by decide +kernel))) rfl dX11_openLooked_15 ?_
  refine lv_aload_n hx hb dX11_openLooked_18 rfl (lv_at hl 0 rfl) ?_
  refine va_get (D := D) (ci := 15) (v := .ref to) (C := RX11) (T := TX11) (N := 15) hx hb hts (by decide +kernel) hown hK hP 0 rfl rfl 1 (by decide) (hts (.fieldLink RX11 18 "SignetRing" "told" "LSignetRing$Bytes;") (by decide +kernel)) (fun _ h9 => h9) rfl dX11_openLooked_19 ?_
  refine va_get (D := D) (ci := 4) (v := .int 0) (C := RX0) (T := TX0) (N := 3) hx hb hts (by decide +kernel) hown hK hP 2 rfl rfl 2 (by decide) (hts (.fieldLink RX11 86 "SignetRing$Bytes" "size" "I") (by decide +kernel)) (u_same (hts (.sameField "SignetRing$Bytes" "SignetRing$Span" "size" "I") (by decide +kernel))) rfl dX11_openLooked_22 ?_
  have hPc := hP.sub (ws' := [(le, .inr (14, [w12, w13, w14]))]) [1] rfl
  have hDc := hD.sub (ws' := [(le, .inr (14, [w12, w13, w14]))]) [1] (by decide) rfl
  have hFc := va_free (wc := [(le, .inr (14, [w12, w13, w14]))]) hD hS hA [1] rfl
  refine va_callv (va_runV (As := [.ref tr, .int 0, .int 0]) (rest := []) ⟨hx, hb, hml, hown, hts⟩ (c_X10_view l D y s.heap.size le tr w12 w13 w14 0 0) (cwV 3 hts gv_c_X11_openLooked_c_X10_view_267 rfl rfl rfl (by decide +kernel) ⟨(Nat.le_of_ble_eq_true rfl), (Nat.le_of_ble_eq_true rfl)⟩) (zB.preV hPc hDc hK hN hE hO hT hG hS hFc (fun _ h => nomatch h) (fun _ h => nomatch h) (fun _ h => nomatch h) (fun _ h => nomatch h) (va_recv hK hPc (ci := 14) (q0 := 0) rfl rfl)) rfl rfl hl.1 rfl (lv_room (Nat.le_of_ble_eq_true rfl)) dX11_openLooked_25 ⟨(Nat.le_of_ble_eq_true rfl), (Nat.le_of_ble_eq_true rfl)⟩) hS (fun q _ h => hFc q h) hFc (fun u t H1 locs ht hvm hw hB hz1 hk1 hS => ?_)
  obtain ⟨hP1, hD1⟩ := hB
  rw [ht] at hP1
  obtain ⟨hP, hD⟩ := va_join (wr := [(h0, .inr (15, [.ref bb, .ref to, w1, w2, .ref le, .ref pk, w3, w4, w5, w6, w7, w8, w9, w10, w11])), (to, .inr (4, [.ref tr, .int 0, .int 0])), (pk, .inr (8, [w15, w16, w17, w18, w19, w20])), (bb, .inr (4, [w21, .int 0, .int 0]))]) (w1 := [(le, .inr (14, [.ref tr, .int 0, .int 0]))]) hP hD [1] [0, 2, 3, 4] rfl rfl (by decide) (by decide) hk1 hFc hP1 hD1
  generalize H1 = H at hP hS ⊢
  have hP : va_P D vwCl [(h0, .inr (15, [.ref bb, .ref to, w1, w2, .ref le, .ref pk, w3, w4, w5, w6, w7, w8, w9, w10, w11])), (to, .inr (4, [.ref tr, .int 0, .int 0])), (pk, .inr (8, [w15, w16, w17, w18, w19, w20])), (bb, .inr (4, [w21, .int 0, .int 0])), (le, .inr (14, [.ref tr, .int 0, .int 0]))] H := hP
  have hD : va_D A [(h0, .inr (15, [.ref bb, .ref to, w1, w2, .ref le, .ref pk, w3, w4, w5, w6, w7, w8, w9, w10, w11])), (to, .inr (4, [.ref tr, .int 0, .int 0])), (pk, .inr (8, [w15, w16, w17, w18, w19, w20])), (bb, .inr (4, [w21, .int 0, .int 0])), (le, .inr (14, [.ref tr, .int 0, .int 0]))] := hD
  refine lv_aload_n hx hb dX11_openLooked_28 rfl (lv_at hl 0 rfl) ?_
  refine va_get (D := D) (ci := 15) (v := .ref pk) (C := RX11) (T := TX11) (N := 15) hx hb hts (by decide +kernel) hown hK hP 0 rfl rfl 5 (by decide) (hts (.fieldLink RX11 39 "SignetRing" "packets" "LSignetRing$Packets;") (by decide +kernel)) (fun _ h9 => h9) rfl dX11_openLooked_29 ?_
  refine lv_aload_n hx hb dX11_openLooked_32 rfl (lv_at hl 0 rfl) ?_
  refine va_get (D := D) (ci := 15) (v := .ref bb) (C := RX11) (T := TX11) (N := 15) hx hb hts (by decide +kernel) hown hK hP 0 rfl rfl 0 (by decide) (hts (.fieldLink RX11 14 "SignetRing" "bytes" "LSignetRing$Bytes;") (by decide +kernel)) (fun _ h9 => h9) rfl dX11_openLooked_33 ?_
  have hPc := hP.sub (ws' := [(pk, .inr (8, [w15, w16, w17, w18, w19, w20]))]) [2] rfl
  have hDc := hD.sub (ws' := [(pk, .inr (8, [w15, w16, w17, w18, w19, w20]))]) [2] (by decide) rfl
  have hFc := va_free (wc := [(pk, .inr (8, [w15, w16, w17, w18, w19, w20]))]) hD hS hA [2] rfl
  refine va_callv (va_runV (As := [.ref bb]) (rest := []) ⟨hx, hb, hml, hown, hts⟩ (c_X4_open l D y H.size pk bb w15 w16 w17 w18 w19 w20) (cwV 1 hts gv_c_X11_openLooked_c_X4_open_234 rfl rfl rfl (by decide +kernel) ⟨(Nat.le_of_ble_eq_true rfl), (Nat.le_of_ble_eq_true rfl)⟩) (zB.preV hPc hDc hK hN hE hO hT hG hS hFc (fun _ h => nomatch h) (fun _ h => nomatch h) (fun _ h => nomatch h) (fun _ h => nomatch h) (va_recv hK hPc (ci := 8) (q0 := 0) rfl rfl)) rfl rfl hl.1 rfl (lv_room (Nat.le_of_ble_eq_true rfl)) dX11_openLooked_36 ⟨(Nat.le_of_ble_eq_true rfl), (Nat.le_of_ble_eq_true rfl)⟩) hS (fun q _ h => hFc q h) hFc (fun u t H1 locs ht hvm hw hB hz1 hk1 hS => ?_)
  obtain ⟨hP1, hD1⟩ := hB
  rw [ht] at hP1
  obtain ⟨hP, hD⟩ := va_join (wr := [(h0, .inr (15, [.ref bb, .ref to, w1, w2, .ref le, .ref pk, w3, w4, w5, w6, w7, w8, w9, w10, w11])), (to, .inr (4, [.ref tr, .int 0, .int 0])), (bb, .inr (4, [w21, .int 0, .int 0])), (le, .inr (14, [.ref tr, .int 0, .int 0]))]) (w1 := [(pk, .inr (8, [w15, w16, .ref bb, .int 0, .int 0, w20]))]) hP hD [2] [0, 1, 3, 4] rfl rfl (by decide) (by decide) hk1 hFc hP1 hD1
  generalize H1 = H at hP hS ⊢
  have hP : va_P D vwCl [(h0, .inr (15, [.ref bb, .ref to, w1, w2, .ref le, .ref pk, w3, w4, w5, w6, w7, w8, w9, w10, w11])), (to, .inr (4, [.ref tr, .int 0, .int 0])), (bb, .inr (4, [w21, .int 0, .int 0])), (le, .inr (14, [.ref tr, .int 0, .int 0])), (pk, .inr (8, [w15, w16, .ref bb, .int 0, .int 0, w20]))] H := hP
  have hD : va_D A [(h0, .inr (15, [.ref bb, .ref to, w1, w2, .ref le, .ref pk, w3, w4, w5, w6, w7, w8, w9, w10, w11])), (to, .inr (4, [.ref tr, .int 0, .int 0])), (bb, .inr (4, [w21, .int 0, .int 0])), (le, .inr (14, [.ref tr, .int 0, .int 0])), (pk, .inr (8, [w15, w16, .ref bb, .int 0, .int 0, w20]))] := hD
  refine lv_aload_n hx hb dX11_openLooked_39 rfl (lv_at hl 0 rfl) ?_
  have hPc := hP.sub (ws' := [(h0, .inr (15, [.ref bb, .ref to, w1, w2, .ref le, .ref pk, w3, w4, w5, w6, w7, w8, w9, w10, w11])), (bb, .inr (4, [w21, .int 0, .int 0]))]) [0, 2] rfl
  have hDc := hD.sub (ws' := [(h0, .inr (15, [.ref bb, .ref to, w1, w2, .ref le, .ref pk, w3, w4, w5, w6, w7, w8, w9, w10, w11])), (bb, .inr (4, [w21, .int 0, .int 0]))]) [0, 2] (by decide) rfl
  have hFc := va_free (wc := [(h0, .inr (15, [.ref bb, .ref to, w1, w2, .ref le, .ref pk, w3, w4, w5, w6, w7, w8, w9, w10, w11])), (bb, .inr (4, [w21, .int 0, .int 0]))]) hD hS hA [0, 2] rfl
  refine va_calli (va_runV (As := []) (rest := []) ⟨hx, hb, hml, hown, hts⟩ (c_X11_isInSigns l D y H.size h0 bb ((.ref to)) w1 w2 ((.ref le)) ((.ref pk)) w3 w4 w5 w6 w7 w8 w9 w10 w11 w21) (cwV 0 hts gv_c_X11_openLooked_c_X11_isInSigns_238 rfl rfl rfl (by decide +kernel) ⟨(Nat.le_of_ble_eq_true rfl), (Nat.le_of_ble_eq_true rfl)⟩) (zB.preV hPc hDc hK hN hE hO hT hG hS hFc (fun _ h => nomatch h) (fun _ h => nomatch h) (fun _ h => nomatch h) (fun _ h => nomatch h) (va_recv hK hPc (ci := 15) (q0 := 0) rfl rfl)) rfl rfl hl.1 rfl (lv_room (Nat.le_of_ble_eq_true rfl)) dX11_openLooked_40 ⟨(Nat.le_of_ble_eq_true rfl), (Nat.le_of_ble_eq_true rfl)⟩) hS (fun q _ h => hFc q h) hFc (fun r1 u t H1 locs ht hvm hw hB hz1 hk1 hS => ?_)
  obtain ⟨hP1, hD1⟩ := hB
  rw [ht] at hP1
  obtain ⟨hP, hD⟩ := va_join (wr := [(to, .inr (4, [.ref tr, .int 0, .int 0])), (le, .inr (14, [.ref tr, .int 0, .int 0])), (pk, .inr (8, [w15, w16, .ref bb, .int 0, .int 0, w20]))]) (w1 := [(h0, .inr (15, [.ref bb, .ref to, w1, w2, .ref le, .ref pk, w3, w4, w5, w6, w7, w8, w9, w10, w11])), (bb, .inr (4, [w21, .int 0, .int 0]))]) hP hD [0, 2] [1, 3, 4] rfl rfl (by decide) (by decide) hk1 hFc hP1 hD1
  generalize H1 = H at hP hS ⊢
  have hP : va_P D vwCl [(to, .inr (4, [.ref tr, .int 0, .int 0])), (le, .inr (14, [.ref tr, .int 0, .int 0])), (pk, .inr (8, [w15, w16, .ref bb, .int 0, .int 0, w20])), (h0, .inr (15, [.ref bb, .ref to, w1, w2, .ref le, .ref pk, w3, w4, w5, w6, w7, w8, w9, w10, w11])), (bb, .inr (4, [w21, .int 0, .int 0]))] H := hP
  have hD : va_D A [(to, .inr (4, [.ref tr, .int 0, .int 0])), (le, .inr (14, [.ref tr, .int 0, .int 0])), (pk, .inr (8, [w15, w16, .ref bb, .int 0, .int 0, w20])), (h0, .inr (15, [.ref bb, .ref to, w1, w2, .ref le, .ref pk, w3, w4, w5, w6, w7, w8, w9, w10, w11])), (bb, .inr (4, [w21, .int 0, .int 0]))] := hD
  have hw : r1 = 0 := hw
  subst hw
  refine lv_if_ne (tgt := 51) hx hb dX11_openLooked_43 (by decide) (fun c9 => absurd (by decide) c9) (fun _ => ?_)
  refine lv_aload_n hx hb dX11_openLooked_46 rfl (lv_at hl 0 rfl) ?_
  have hPc := hP.sub (ws' := [(h0, .inr (15, [.ref bb, .ref to, w1, w2, .ref le, .ref pk, w3, w4, w5, w6, w7, w8, w9, w10, w11])), (pk, .inr (8, [w15, w16, .ref bb, .int 0, .int 0, w20])), (bb, .inr (4, [w21, .int 0, .int 0]))]) [3, 2, 4] rfl
  have hDc := hD.sub (ws' := [(h0, .inr (15, [.ref bb, .ref to, w1, w2, .ref le, .ref pk, w3, w4, w5, w6, w7, w8, w9, w10, w11])), (pk, .inr (8, [w15, w16, .ref bb, .int 0, .int 0, w20])), (bb, .inr (4, [w21, .int 0, .int 0]))]) [3, 2, 4] (by decide) rfl
  have hFc := va_free (wc := [(h0, .inr (15, [.ref bb, .ref to, w1, w2, .ref le, .ref pk, w3, w4, w5, w6, w7, w8, w9, w10, w11])), (pk, .inr (8, [w15, w16, .ref bb, .int 0, .int 0, w20])), (bb, .inr (4, [w21, .int 0, .int 0]))]) hD hS hA [3, 2, 4] rfl
  refine va_calli (va_runV (As := []) (rest := []) ⟨hx, hb, hml, hown, hts⟩ (c_X11_readSealed l D y H.size h0 pk bb ((.ref bb)) ((.ref to)) w1 w2 ((.ref le)) w3 w4 w5 w6 w7 w8 w9 w10 w11 w15 w16 ((.int 0)) w20 w21) (cwV 0 hts gv_c_X11_openLooked_c_X11_readSealed_270 rfl rfl rfl (by decide +kernel) ⟨(Nat.le_of_ble_eq_true rfl), (Nat.le_of_ble_eq_true rfl)⟩) (zB.preV hPc hDc hK hN hE hO hT hG hS hFc (fun _ h => nomatch h) (fun _ h => nomatch h) (fun _ h => nomatch h) (fun _ h => nomatch h) (va_recv hK hPc (ci := 15) (q0 := 0) rfl rfl)) rfl rfl hl.1 rfl (lv_room (Nat.le_of_ble_eq_true rfl)) dX11_openLooked_47 ⟨(Nat.le_of_ble_eq_true rfl), (Nat.le_of_ble_eq_true rfl)⟩) hS (fun q _ h => hFc q h) hFc (fun r2 u t H1 locs ht hvm hw hB hz1 hk1 hS => ?_)
  obtain ⟨hP1, hD1⟩ := hB
  rw [ht] at hP1
  obtain ⟨hP, hD⟩ := va_join (wr := [(to, .inr (4, [.ref tr, .int 0, .int 0])), (le, .inr (14, [.ref tr, .int 0, .int 0]))]) (w1 := [(h0, .inr (15, [.ref bb, .ref to, w1, w2, .ref le, .ref pk, w3, w4, w5, w6, w7, w8, w9, w10, w11])), (pk, .inr (8, [w15, w16, .ref bb, .int 0, .int 0, w20])), (bb, .inr (4, [w21, .int 0, .int 0]))]) hP hD [3, 2, 4] [0, 1] rfl rfl (by decide) (by decide) hk1 hFc hP1 hD1
  generalize H1 = H at hP hS ⊢
  have hP : va_P D vwCl [(to, .inr (4, [.ref tr, .int 0, .int 0])), (le, .inr (14, [.ref tr, .int 0, .int 0])), (h0, .inr (15, [.ref bb, .ref to, w1, w2, .ref le, .ref pk, w3, w4, w5, w6, w7, w8, w9, w10, w11])), (pk, .inr (8, [w15, w16, .ref bb, .int 0, .int 0, w20])), (bb, .inr (4, [w21, .int 0, .int 0]))] H := hP
  have hD : va_D A [(to, .inr (4, [.ref tr, .int 0, .int 0])), (le, .inr (14, [.ref tr, .int 0, .int 0])), (h0, .inr (15, [.ref bb, .ref to, w1, w2, .ref le, .ref pk, w3, w4, w5, w6, w7, w8, w9, w10, w11])), (pk, .inr (8, [w15, w16, .ref bb, .int 0, .int 0, w20])), (bb, .inr (4, [w21, .int 0, .int 0]))] := hD
  have hw : r2 = -1 := hw
  subst hw
  have hP9 := hP.sub (ws' := [(h0, .inr (15, [.ref bb, .ref to, w1, w2, .ref le, .ref pk, w3, w4, w5, w6, w7, w8, w9, w10, w11])), (le, .inr (14, [.ref tr, .int 0, .int 0])), (to, .inr (4, [.ref tr, .int 0, .int 0])), (pk, .inr (8, [w15, w16, .ref bb, .int 0, .int 0, w20])), (bb, .inr (4, [w21, .int 0, .int 0]))]) [2, 1, 0, 3, 4] rfl
  have hD9 := hD.sub (ws' := [(h0, .inr (15, [.ref bb, .ref to, w1, w2, .ref le, .ref pk, w3, w4, w5, w6, w7, w8, w9, w10, w11])), (le, .inr (14, [.ref tr, .int 0, .int 0])), (to, .inr (4, [.ref tr, .int 0, .int 0])), (pk, .inr (8, [w15, w16, .ref bb, .int 0, .int 0, w20])), (bb, .inr (4, [w21, .int 0, .int 0]))]) [2, 1, 0, 3, 4] (by decide) rfl
  refine W.widen (k := 0) (n := 0) (Nat.le_of_ble_eq_true rfl) (Nat.le_of_ble_eq_true rfl) ?_
  exact W.iret (v := (-1)) hx hb hr (fun t ht hW => ⟨⟨(-1), (), rfl, rfl, by rw [ht]; exact hP9, hD9⟩, hS.F ht⟩) hS.2.2 dX11_openLooked_50
def wz_c_X11_look_y : List Cond := .code yX11_look cX11_look 5 (some .int) :: ([.methodLink RX11 108 yX11_isTime, .static yX11_isTime, .initialized RX11, .methodLink RX11 115 yX11_openLooked, .instanceMethod yX11_openLooked, .selects RX11 yX11_openLooked yX11_openLooked, .fieldLink RX11 14 "SignetRing" "bytes" "LSignetRing$Bytes;", .fieldLink RX11 86 "SignetRing$Bytes" "size" "I", .sameField "SignetRing$Bytes" "SignetRing$Span" "size" "I"] ++ (wsX110 ++ (wsX00 ++ (wz_c_X11_isTime_y ++ (wz_c_X11_openLooked ++ ([]))))))
set_option maxRecDepth 100000 in
theorem gz_c_X11_look_y_c_X11_isTime_y : GoodIn wz_c_X11_look_y wz_c_X11_isTime_y := goodIn_sub (fun w h => List.mem_cons_of_mem _ (List.mem_append_right _ (List.mem_append_right _ (List.mem_append_right _ (List.mem_append_left _ h))))) (by decide +kernel)
set_option maxRecDepth 100000 in
theorem gz_c_X11_look_y_c_X11_openLooked : GoodIn wz_c_X11_look_y wz_c_X11_openLooked := goodIn_sub (fun w h => List.mem_cons_of_mem _ (List.mem_append_right _ (List.mem_append_right _ (List.mem_append_right _ (List.mem_append_right _ (List.mem_append_left _ h)))))) (by decide +kernel)
set_option maxRecDepth 100000 in
theorem gv_c_X11_look_y_c_X11_isTime_y_108 : GoodIn wz_c_X11_look_y (va_wsS RX11 108 yX11_isTime wz_c_X11_isTime_y) := goodIn_app (goodIn_of _ (by decide +kernel)) gz_c_X11_look_y_c_X11_isTime_y
set_option maxRecDepth 100000 in
theorem gv_c_X11_look_y_c_X11_openLooked_115 : GoodIn wz_c_X11_look_y (wsV RX11 115 RX11 yX11_openLooked wz_c_X11_openLooked) := goodIn_app (goodIn_of _ (by decide +kernel)) gz_c_X11_look_y_c_X11_openLooked
set_option maxHeartbeats 4000000 in
set_option maxRecDepth 100000 in
theorem c_X11_look_y (l : Launch) (D : va_G) (y : Nat → ClassId) (sz : Nat) (h0 : Nat) (le : Nat) (to : Nat) (tr : Nat) (pk : Nat) (bb : Nat) (w1 : Value) (w2 : Value) (w3 : Value) (w4 : Value) (w5 : Value) (w6 : Value) (w7 : Value) (w8 : Value) (w9 : Value) (w10 : Value) (w11 : Value) (w12 : Value) (w13 : Value) (w14 : Value) (w15 : Value) (w16 : Value) (w17 : Value) (w18 : Value) (w19 : Value) (w20 : Value) (w21 : Value) (tm : Int64) (h1 : ¬ lg_cmp tm 0 < 0) (h2 : ¬ 0 < lg_cmp tm 4294967295) : Met l yX11_look wz_c_X11_look_y ({ frames := 4, cells := 0, slots := 0, locals := 89 }) (va_Pc [.ref h0, .long tm] (zB D y [(h0, .inr (15, [.ref bb, .ref to, w1, w2, .ref le, .ref pk, w3, w4, w5, w6, w7, w8, w9, w10, w11])), (le, .inr (14, [w12, w13, w14])), (to, .inr (4, [.ref tr, .int 0, .int 0])), (pk, .inr (8, [w15, w16, w17, w18, w19, w20])), (bb, .inr (4, [w21, .int 0, .int 0]))] sz [] [] [] [])) (va_Qi (fun (r : Int32) (_ : Unit) => r = -1) (fun _ t => va_P D vwCl [(h0, .inr (15, [.ref bb, .ref to, w1, w2, .ref le, .ref pk, w3, w4, w5, w6, w7, w8, w9, w10, w11])), (le, .inr (14, [.ref tr, .int 0, .int 0])), (to, .inr (4, [.ref tr, .int 0, .int 0])), (pk, .inr (8, [w15, w16, .ref bb, .int 0, .int 0, w20])), (bb, .inr (4, [w21, .int 0, .int 0]))] t.heap ∧ va_D (va_A [(h0, .inr (15, [.ref bb, .ref to, w1, w2, .ref le, .ref pk, w3, w4, w5, w6, w7, w8, w9, w10, w11])), (le, .inr (14, [w12, w13, w14])), (to, .inr (4, [.ref tr, .int 0, .int 0])), (pk, .inr (8, [w15, w16, w17, w18, w19, w20])), (bb, .inr (4, [w21, .int 0, .int 0]))] sz) [(h0, .inr (15, [.ref bb, .ref to, w1, w2, .ref le, .ref pk, w3, w4, w5, w6, w7, w8, w9, w10, w11])), (le, .inr (14, [.ref tr, .int 0, .int 0])), (to, .inr (4, [.ref tr, .int 0, .int 0])), (pk, .inr (8, [w15, w16, .ref bb, .int 0, .int 0, w20])), (bb, .inr (4, [w21, .int 0, .int 0]))]) (va_A [(h0, .inr (15, [.ref bb, .ref to, w1, w2, .ref le, .ref pk, w3, w4, w5, w6, w7, w8, w9, w10, w11])), (le, .inr (14, [w12, w13, w14])), (to, .inr (4, [.ref tr, .int 0, .int 0])), (pk, .inr (8, [w15, w16, w17, w18, w19, w20])), (bb, .inr (4, [w21, .int 0, .int 0]))] sz)) 0 0 (va_A [(h0, .inr (15, [.ref bb, .ref to, w1, w2, .ref le, .ref pk, w3, w4, w5, w6, w7, w8, w9, w10, w11])), (le, .inr (14, [w12, w13, w14])), (to, .inr (4, [.ref tr, .int 0, .int 0])), (pk, .inr (8, [w15, w16, w17, w18, w19, w20])), (bb, .inr (4, [w21, .int 0, .int 0]))] sz) := by
  refine Met.ofW (cc := cX11_look) (maxL := 5) (ret := (some .int)) (by decide) rfl ?_
  intro p e s m args below meth c s₁ B hml hv
  obtain ⟨rfl, hsz, hP, hK, hD0, hN, hE, hO, hT, hG⟩ := hv
  have hx := B.exec
  have hb := B.bytes
  have hr := B.returns
  have hts := atoms_spec (ws := wz_c_X11_look_y) B.pre
  have hown : s.vm.findClass RX11 = some m.cls := findClass_of_methodNamed B.named
  have hlocks := B.notSynchronized
  subst hsz
  have hD := hD0.self (sz := s.heap.size)
  generalize hAe : va_A [(h0, .inr (15, [.ref bb, .ref to, w1, w2, .ref le, .ref pk, w3, w4, w5, w6, w7, w8, w9, w10, w11])), (le, .inr (14, [w12, w13, w14])), (to, .inr (4, [.ref tr, .int 0, .int 0])), (pk, .inr (8, [w15, w16, w17, w18, w19, w20])), (bb, .inr (4, [w21, .int 0, .int 0]))] s.heap.size = A at hD hE hT hG ⊢
  have hA : ∀ q : Nat, s.heap.size ≤ q → A q := fun q h => by rw [← hAe]; exact Or.inr h
  have hS : va_S A s.heap s.heap [] := va_S.rf
  have hl := lv_entry ([.ref h0, .long tm]) (n := 5) (Nat.le_of_ble_eq_true rfl)
  rw [lg_entry_eq]
  generalize (lg_sl ([.ref h0, .long tm]) ++ List.replicate (5 - (lg_sl ([.ref h0, .long tm])).length) Slot.unset).toArray = ls at hl ⊢
  have hl : lv_has ls 5 [(0, .ref h0), (1, .long tm)] := hl
  refine lv_lload_n hx hb dX11_look_0 rfl (lv_at hl 1 rfl) ?_
  have hPc := hP.sub (ws' := []) [] rfl
  have hDc := hD.sub (ws' := []) [] (by decide) rfl
  have hFc := va_free (wc := []) hD hS hA [] rfl
  refine va_calli (va_runS (As := [.long tm]) (rest := []) ⟨hx, hb, hml, hown, hts⟩ (c_X11_isTime_y l D y s.heap.size tm h1 h2) (va_cwS 1 hts gv_c_X11_look_y_c_X11_isTime_y_108 rfl rfl rfl (by decide +kernel) ⟨(Nat.le_of_ble_eq_true rfl), (Nat.le_of_ble_eq_true rfl)⟩) (zB.preS hPc hDc hK hN hE hO hT hG hS hFc (fun _ h => nomatch h) (fun _ h => nomatch h) (fun _ h => nomatch h) (fun _ h => nomatch h)) rfl rfl hl.1 rfl (lv_room (Nat.le_of_ble_eq_true rfl)) dX11_look_1 ⟨(Nat.le_of_ble_eq_true rfl), (Nat.le_of_ble_eq_true rfl)⟩) hS (fun q _ h => hFc q h) hFc (fun r1 u t H1 locs ht hvm hw hB hz1 hk1 hS => ?_)
  obtain ⟨hP1, hD1⟩ := hB
  rw [ht] at hP1
  obtain ⟨hP, hD⟩ := va_join (wr := [(h0, .inr (15, [.ref bb, .ref to, w1, w2, .ref le, .ref pk, w3, w4, w5, w6, w7, w8, w9, w10, w11])), (le, .inr (14, [w12, w13, w14])), (to, .inr (4, [.ref tr, .int 0, .int 0])), (pk, .inr (8, [w15, w16, w17, w18, w19, w20])), (bb, .inr (4, [w21, .int 0, .int 0]))]) (w1 := []) hP hD [] [0, 1, 2, 3, 4] rfl rfl (by decide) (by decide) hk1 hFc hP1 hD1
  generalize H1 = H at hP hS ⊢
  have hP : va_P D vwCl [(h0, .inr (15, [.ref bb, .ref to, w1, w2, .ref le, .ref pk, w3, w4, w5, w6, w7, w8, w9, w10, w11])), (le, .inr (14, [w12, w13, w14])), (to, .inr (4, [.ref tr, .int 0, .int 0])), (pk, .inr (8, [w15, w16, w17, w18, w19, w20])), (bb, .inr (4, [w21, .int 0, .int 0]))] H := hP
  have hD : va_D A [(h0, .inr (15, [.ref bb, .ref to, w1, w2, .ref le, .ref pk, w3, w4, w5, w6, w7, w8, w9, w10, w11])), (le, .inr (14, [w12, w13, w14])), (to, .inr (4, [.ref tr, .int 0, .int 0])), (pk, .inr (8, [w15, w16, w17, w18, w19, w20])), (bb, .inr (4, [w21, .int 0, .int 0]))] := hD
  have hw : r1 = 1 := hw
  subst hw
  refine lv_if_ne (tgt := 15) hx hb dX11_look_4 (by decide) (fun _ => ?_) (fun c9 => absurd c9 (by decide))
  refine lv_aload_n hx hb dX11_look_15 rfl (lv_at hl 0 rfl) ?_
  have hPc := hP.sub (ws' := [(h0, .inr (15, [.ref bb, .ref to, w1, w2, .ref le, .ref pk, w3, w4, w5, w6, w7, w8, w9, w10, w11])), (le, .inr (14, [w12, w13, w14])), (to, .inr (4, [.ref tr, .int 0, .int 0])), (pk, .inr (8, [w15, w16, w17, w18, w19, w20])), (bb, .inr (4, [w21, .int 0, .int 0]))]) [0, 1, 2, 3, 4] rfl
  have hDc := hD.sub (ws' := [(h0, .inr (15, [.ref bb, .ref to, w1, w2, .ref le, .ref pk, w3, w4, w5, w6, w7, w8, w9, w10, w11])), (le, .inr (14, [w12, w13, w14])), (to, .inr (4, [.ref tr, .int 0, .int 0])), (pk, .inr (8, [w15, w16, w17, w18, w19, w20])), (bb, .inr (4, [w21, .int 0, .int 0]))]) [0, 1, 2, 3, 4] (by decide) rfl
  have hFc := va_free (wc := [(h0, .inr (15, [.ref bb, .ref to, w1, w2, .ref le, .ref pk, w3, w4, w5, w6, w7, w8, w9, w10, w11])), (le, .inr (14, [w12, w13, w14])), (to, .inr (4, [.ref tr, .int 0, .int 0])), (pk, .inr (8, [w15, w16, w17, w18, w19, w20])), (bb, .inr (4, [w21, .int 0, .int 0]))]) hD hS hA [0, 1, 2, 3, 4] rfl
  refine va_calli (va_runV (As := []) (rest := []) ⟨hx, hb, hml, hown, hts⟩ (c_X11_openLooked l D y H.size h0 le to tr pk bb w1 w2 w3 w4 w5 w6 w7 w8 w9 w10 w11 w12 w13 w14 w15 w16 w17 w18 w19 w20 w21) (cwV 0 hts gv_c_X11_look_y_c_X11_openLooked_115 rfl rfl rfl (by decide +kernel) ⟨(Nat.le_of_ble_eq_true rfl), (Nat.le_of_ble_eq_true rfl)⟩) (zB.preV hPc hDc hK hN hE hO hT hG hS hFc (fun _ h => nomatch h) (fun _ h => nomatch h) (fun _ h => nomatch h) (fun _ h => nomatch h) (va_recv hK hPc (ci := 15) (q0 := 0) rfl rfl)) rfl rfl hl.1 rfl (lv_room (Nat.le_of_ble_eq_true rfl)) dX11_look_16 ⟨(Nat.le_of_ble_eq_true rfl), (Nat.le_of_ble_eq_true rfl)⟩) hS (fun q _ h => hFc q h) hFc (fun r2 u t H1 locs ht hvm hw hB hz1 hk1 hS => ?_)
  obtain ⟨hP1, hD1⟩ := hB
  rw [ht] at hP1
  obtain ⟨hP, hD⟩ := va_join (wr := []) (w1 := [(h0, .inr (15, [.ref bb, .ref to, w1, w2, .ref le, .ref pk, w3, w4, w5, w6, w7, w8, w9, w10, w11])), (le, .inr (14, [.ref tr, .int 0, .int 0])), (to, .inr (4, [.ref tr, .int 0, .int 0])), (pk, .inr (8, [w15, w16, .ref bb, .int 0, .int 0, w20])), (bb, .inr (4, [w21, .int 0, .int 0]))]) hP hD [0, 1, 2, 3, 4] [] rfl rfl (by decide) (by decide) hk1 hFc hP1 hD1
  generalize H1 = H at hP hS ⊢
  have hP : va_P D vwCl [(h0, .inr (15, [.ref bb, .ref to, w1, w2, .ref le, .ref pk, w3, w4, w5, w6, w7, w8, w9, w10, w11])), (le, .inr (14, [.ref tr, .int 0, .int 0])), (to, .inr (4, [.ref tr, .int 0, .int 0])), (pk, .inr (8, [w15, w16, .ref bb, .int 0, .int 0, w20])), (bb, .inr (4, [w21, .int 0, .int 0]))] H := hP
  have hD : va_D A [(h0, .inr (15, [.ref bb, .ref to, w1, w2, .ref le, .ref pk, w3, w4, w5, w6, w7, w8, w9, w10, w11])), (le, .inr (14, [.ref tr, .int 0, .int 0])), (to, .inr (4, [.ref tr, .int 0, .int 0])), (pk, .inr (8, [w15, w16, .ref bb, .int 0, .int 0, w20])), (bb, .inr (4, [w21, .int 0, .int 0]))] := hD
  have hw : r2 = -1 := hw
  subst hw
  refine lv_istore_n (lv' := [(3, .int (-1)), (0, .ref h0), (1, .long tm)]) hx hb dX11_look_19 rfl hl (by decide) rfl (fun ls hl => ?_)
  refine lv_iload_n hx hb dX11_look_20 rfl (lv_at hl 0 rfl) ?_
  refine lv_if_ne (tgt := 30) hx hb dX11_look_21 (by decide) (fun _ => ?_) (fun c9 => absurd c9 (by decide))
  refine lv_iload_n hx hb dX11_look_30 rfl (lv_at hl 0 rfl) ?_
  refine lv_if_ne (tgt := 70) hx hb dX11_look_31 (by decide) (fun _ => ?_) (fun c9 => absurd c9 (by decide))
  refine lv_aload_n hx hb dX11_look_70 rfl (lv_at hl 1 rfl) ?_
  refine va_get (D := D) (ci := 15) (v := .ref bb) (C := RX11) (T := TX11) (N := 15) hx hb hts (by decide +kernel) hown hK hP 0 rfl rfl 0 (by decide) (hts (.fieldLink RX11 14 "SignetRing" "bytes" "LSignetRing$Bytes;") (by decide +kernel)) (fun _ h9 => h9) rfl dX11_look_71 ?_
  refine lv_iconst (v := 0) hx hb dX11_look_74 (by decide) ?_
  refine va_put (D := D) (ci := 4) (v := .int 0) (ty := .int) (C := RX0) (T := TX0) (N := 3) hx hb hts (by decide +kernel) tyX0 tyX0_ok nmX0 hown hK hP hD hS 4 rfl rfl 2 (by decide) (hts (.fieldLink RX11 86 "SignetRing$Bytes" "size" "I") (by decide +kernel)) (u_same (hts (.sameField "SignetRing$Bytes" "SignetRing$Span" "size" "I") (by decide +kernel))) rfl (by decide +kernel) rfl rfl (Nat.le_of_ble_eq_true rfl) dX11_look_75 (fun H locs hP hD hS => ?_)
  have hP : va_P D vwCl [(h0, .inr (15, [.ref bb, .ref to, w1, w2, .ref le, .ref pk, w3, w4, w5, w6, w7, w8, w9, w10, w11])), (le, .inr (14, [.ref tr, .int 0, .int 0])), (to, .inr (4, [.ref tr, .int 0, .int 0])), (pk, .inr (8, [w15, w16, .ref bb, .int 0, .int 0, w20])), (bb, .inr (4, [w21, .int 0, .int 0]))] H := hP
  have hD : va_D A [(h0, .inr (15, [.ref bb, .ref to, w1, w2, .ref le, .ref pk, w3, w4, w5, w6, w7, w8, w9, w10, w11])), (le, .inr (14, [.ref tr, .int 0, .int 0])), (to, .inr (4, [.ref tr, .int 0, .int 0])), (pk, .inr (8, [w15, w16, .ref bb, .int 0, .int 0, w20])), (bb, .inr (4, [w21, .int 0, .int 0]))] := hD
  refine lv_iload_n hx hb dX11_look_78 rfl (lv_at hl 0 rfl) ?_
  have hP9 := hP.sub (ws' := [(h0, .inr (15, [.ref bb, .ref to, w1, w2, .ref le, .ref pk, w3, w4, w5, w6, w7, w8, w9, w10, w11])), (le, .inr (14, [.ref tr, .int 0, .int 0])), (to, .inr (4, [.ref tr, .int 0, .int 0])), (pk, .inr (8, [w15, w16, .ref bb, .int 0, .int 0, w20])), (bb, .inr (4, [w21, .int 0, .int 0]))]) [0, 1, 2, 3, 4] rfl
  have hD9 := hD.sub (ws' := [(h0, .inr (15, [.ref bb, .ref to, w1, w2, .ref le, .ref pk, w3, w4, w5, w6, w7, w8, w9, w10, w11])), (le, .inr (14, [.ref tr, .int 0, .int 0])), (to, .inr (4, [.ref tr, .int 0, .int 0])), (pk, .inr (8, [w15, w16, .ref bb, .int 0, .int 0, w20])), (bb, .inr (4, [w21, .int 0, .int 0]))]) [0, 1, 2, 3, 4] (by decide) rfl
  refine W.widen (k := 0) (n := 0) (Nat.le_of_ble_eq_true rfl) (Nat.le_of_ble_eq_true rfl) ?_
  exact W.iret (v := (-1)) hx hb hr (fun t ht hW => ⟨⟨(-1), (), rfl, rfl, by rw [ht]; exact hP9, hD9⟩, hS.F ht⟩) hS.2.2 dX11_look_79
def wz_c_X11_look_n : List Cond := .code yX11_look cX11_look 5 (some .int) :: ([.methodLink RX11 108 yX11_isTime, .static yX11_isTime, .initialized RX11, .classLink RX11 112 "java/lang/IllegalArgumentException", .initialized "java/lang/IllegalArgumentException"] ++ ((vx_at0 RX11 114 "java/lang/IllegalArgumentException" ["java/lang/RuntimeException", "java/lang/Exception"]).filter goodWord ++ (wz_c_X11_isTime_n ++ ([]))))
set_option maxRecDepth 100000 in
theorem gz_c_X11_look_n_c_X11_isTime_n : GoodIn wz_c_X11_look_n wz_c_X11_isTime_n := goodIn_sub (fun w h => List.mem_cons_of_mem _ (List.mem_append_right _ (List.mem_append_right _ (List.mem_append_left _ h)))) (by decide +kernel)
set_option maxRecDepth 100000 in
theorem gv_c_X11_look_n_c_X11_isTime_n_108 : GoodIn wz_c_X11_look_n (va_wsS RX11 108 yX11_isTime wz_c_X11_isTime_n) := goodIn_app (goodIn_of _ (by decide +kernel)) gz_c_X11_look_n_c_X11_isTime_n
set_option maxHeartbeats 4000000 in
set_option maxRecDepth 100000 in
theorem c_X11_look_n (l : Launch) (hl0 : l.stackTraces = false) (D : va_G) (y : Nat → ClassId) (sz : Nat) (h0 : Nat) (w1 : Value) (w2 : Value) (w3 : Value) (w4 : Value) (w5 : Value) (w6 : Value) (w7 : Value) (w8 : Value) (w9 : Value) (w10 : Value) (w11 : Value) (w12 : Value) (w13 : Value) (w14 : Value) (w15 : Value) (tm : Int64) (h1 : lg_cmp tm 0 < 0) : vx_Met l yX11_look wz_c_X11_look_n ({ frames := 6, cells := 1, slots := 6, locals := 81 }) (va_Pc [.ref h0, .long tm] (zB D y [(h0, .inr (15, [w1, w2, w3, w4, w5, w6, w7, w8, w9, w10, w11, w12, w13, w14, w15]))] sz [.declares (Bundle.init0 "java/lang/RuntimeException"), .declares (Bundle.init0 "java/lang/Exception"), .declares (Bundle.init0 "java/lang/Throwable"), .castable "java/lang/IllegalArgumentException" "java/lang/IllegalArgumentException"] [] zTh [])) (va_Qi (fun (r : Int32) (_ : Unit) => False) (fun _ t => va_P D vwCl [(h0, .inr (15, [w1, w2, w3, w4, w5, w6, w7, w8, w9, w10, w11, w12, w13, w14, w15]))] t.heap ∧ va_D (va_A [(h0, .inr (15, [w1, w2, w3, w4, w5, w6, w7, w8, w9, w10, w11, w12, w13, w14, w15]))] sz) [(h0, .inr (15, [w1, w2, w3, w4, w5, w6, w7, w8, w9, w10, w11, w12, w13, w14, w15]))]) (va_A [(h0, .inr (15, [w1, w2, w3, w4, w5, w6, w7, w8, w9, w10, w11, w12, w13, w14, w15]))] sz)) (vx_X (fun _ : Unit => True) (fun E _ _ => E = "java/lang/IllegalArgumentException") (va_A [(h0, .inr (15, [w1, w2, w3, w4, w5, w6, w7, w8, w9, w10, w11, w12, w13, w14, w15]))] sz)) 1 6 (va_A [(h0, .inr (15, [w1, w2, w3, w4, w5, w6, w7, w8, w9, w10, w11, w12, w13, w14, w15]))] sz) := by
  refine vx_ofW (cc := cX11_look) (maxL := 5) (ret := (some .int)) (by decide) rfl ?_
  intro p e s m args below meth c s₁ B hml hnt hv
  obtain ⟨rfl, hsz, hP, hK, hD0, hN, hE, hO, hT, hG⟩ := hv
  have hx := B.exec
  have hb := B.bytes
  have hr := B.returns
  have hts := atoms_spec (ws := wz_c_X11_look_n) B.pre
  have hown : s.vm.findClass RX11 = some m.cls := findClass_of_methodNamed B.named
  have hlocks := B.notSynchronized
  subst hsz
  have hD := hD0.self (sz := s.heap.size)
  generalize hAe : va_A [(h0, .inr (15, [w1, w2, w3, w4, w5, w6, w7, w8, w9, w10, w11, w12, w13, w14, w15]))] s.heap.size = A at hD hE hT hG ⊢
  have hA : ∀ q : Nat, s.heap.size ≤ q → A q := fun q h => by rw [← hAe]; exact Or.inr h
  have hS : va_S A s.heap s.heap [] := va_S.rf
  have hl := lv_entry ([.ref h0, .long tm]) (n := 5) (Nat.le_of_ble_eq_true rfl)
  rw [lg_entry_eq]
  generalize (lg_sl ([.ref h0, .long tm]) ++ List.replicate (5 - (lg_sl ([.ref h0, .long tm])).length) Slot.unset).toArray = ls at hl ⊢
  have hl : lv_has ls 5 [(0, .ref h0), (1, .long tm)] := hl
  refine lv_lload_n hx hb dX11_look_0 rfl (lv_at hl 1 rfl) ?_
  have hPc := hP.sub (ws' := []) [] rfl
  have hDc := hD.sub (ws' := []) [] (by decide) rfl
  have hFc := va_free (wc := []) hD hS hA [] rfl
  refine va_calli (va_runS (As := [.long tm]) (rest := []) ⟨hx, hb, hml, hown, hts⟩ (c_X11_isTime_n l D y s.heap.size tm h1) (va_cwS 1 hts gv_c_X11_look_n_c_X11_isTime_n_108 rfl rfl rfl (by decide +kernel) ⟨(Nat.le_of_ble_eq_true rfl), (Nat.le_of_ble_eq_true rfl)⟩) (zB.preS hPc hDc hK hN hE hO hT hG hS hFc (fun _ h => nomatch h) (fun _ h => nomatch h) (fun _ h => nomatch h) (fun _ h => nomatch h)) rfl rfl hl.1 rfl (lv_room (Nat.le_of_ble_eq_true rfl)) dX11_look_1 ⟨(Nat.le_of_ble_eq_true rfl), (Nat.le_of_ble_eq_true rfl)⟩) hS (fun q _ h => hFc q h) hFc (fun r1 u t H1 locs ht hvm hw hB hz1 hk1 hS => ?_)
  obtain ⟨hP1, hD1⟩ := hB
  rw [ht] at hP1
  obtain ⟨hP, hD⟩ := va_join (wr := [(h0, .inr (15, [w1, w2, w3, w4, w5, w6, w7, w8, w9, w10, w11, w12, w13, w14, w15]))]) (w1 := []) hP hD [] [0] rfl rfl (by decide) (by decide) hk1 hFc hP1 hD1
  generalize H1 = H at hP hS ⊢
  have hP : va_P D vwCl [(h0, .inr (15, [w1, w2, w3, w4, w5, w6, w7, w8, w9, w10, w11, w12, w13, w14, w15]))] H := hP
  have hD : va_D A [(h0, .inr (15, [w1, w2, w3, w4, w5, w6, w7, w8, w9, w10, w11, w12, w13, w14, w15]))] := hD
  have hw : r1 = 0 := hw
  subst hw
  refine lv_if_ne (tgt := 15) hx hb dX11_look_4 (by decide) (fun c9 => absurd (by decide) c9) (fun _ => ?_)
  exact vx_throw0 (names := ["java/lang/RuntimeException", "java/lang/Exception"]) (cls := "java/lang/IllegalArgumentException") hx hb hl0 hown (by decide) (by decide) (hts (.classLink RX11 112 "java/lang/IllegalArgumentException") (by decide +kernel)) (hts (.initialized "java/lang/IllegalArgumentException") (by decide +kernel)) (vx_hat (L := (vx_at0 RX11 114 "java/lang/IllegalArgumentException" ["java/lang/RuntimeException", "java/lang/Exception"])) (B := [.declares (Bundle.init0 "java/lang/RuntimeException"), .declares (Bundle.init0 "java/lang/Exception"), .declares (Bundle.init0 "java/lang/Throwable"), .castable "java/lang/IllegalArgumentException" "java/lang/IllegalArgumentException"]) (fun w hw => hts w (List.mem_cons_of_mem _ (List.mem_append_right _ (List.mem_append_left _ hw)))) (by decide +kernel) (hN.words (List.forall_mem_cons.mpr ⟨List.mem_of_getElem? (i := 0) rfl, (List.forall_mem_cons.mpr ⟨List.mem_of_getElem? (i := 1) rfl, (List.forall_mem_cons.mpr ⟨List.mem_of_getElem? (i := 2) rfl, (List.forall_mem_cons.mpr ⟨List.mem_of_getElem? (i := 3) rfl, (fun _ h => nomatch h)⟩)⟩)⟩)⟩))) (by decide +kernel) (hT _ (List.mem_of_getElem? (i := 0) rfl)) (hT _ (List.mem_of_getElem? (i := 1) rfl)) hS (hl.1.trans hml.symm) dX11_look_7 dX11_look_10 dX11_look_11 dX11_look_14 (fun x h => (hnt x h).elim) (Nat.le_of_ble_eq_true rfl) (Nat.le_of_ble_eq_true rfl) (Nat.le_of_ble_eq_true rfl) (Nat.le_of_ble_eq_true rfl) hlocks (fun t _ hz hq => ⟨(), trivial, rfl, ⟨Nat.le_trans hS.1 hz, fun q h1 h2 => (hq q (Nat.lt_of_lt_of_le h1 hS.1)).trans (hS.2.1 q h1 h2)⟩⟩) hS.2.2 (Nat.le_of_ble_eq_true rfl) (Nat.le_of_ble_eq_true rfl)
def wz_c_X11_look_m : List Cond := .code yX11_look cX11_look 5 (some .int) :: ([.methodLink RX11 108 yX11_isTime, .static yX11_isTime, .initialized RX11, .classLink RX11 112 "java/lang/IllegalArgumentException", .initialized "java/lang/IllegalArgumentException"] ++ ((vx_at0 RX11 114 "java/lang/IllegalArgumentException" ["java/lang/RuntimeException", "java/lang/Exception"]).filter goodWord ++ (wz_c_X11_isTime_m ++ ([]))))
set_option maxRecDepth 100000 in
theorem gz_c_X11_look_m_c_X11_isTime_m : GoodIn wz_c_X11_look_m wz_c_X11_isTime_m := goodIn_sub (fun w h => List.mem_cons_of_mem _ (List.mem_append_right _ (List.mem_append_right _ (List.mem_append_left _ h)))) (by decide +kernel)
set_option maxRecDepth 100000 in
theorem gv_c_X11_look_m_c_X11_isTime_m_108 : GoodIn wz_c_X11_look_m (va_wsS RX11 108 yX11_isTime wz_c_X11_isTime_m) := goodIn_app (goodIn_of _ (by decide +kernel)) gz_c_X11_look_m_c_X11_isTime_m
set_option maxHeartbeats 4000000 in
set_option maxRecDepth 100000 in
theorem c_X11_look_m (l : Launch) (hl0 : l.stackTraces = false) (D : va_G) (y : Nat → ClassId) (sz : Nat) (h0 : Nat) (w1 : Value) (w2 : Value) (w3 : Value) (w4 : Value) (w5 : Value) (w6 : Value) (w7 : Value) (w8 : Value) (w9 : Value) (w10 : Value) (w11 : Value) (w12 : Value) (w13 : Value) (w14 : Value) (w15 : Value) (tm : Int64) (h1 : ¬ lg_cmp tm 0 < 0) (h2 : 0 < lg_cmp tm 4294967295) : vx_Met l yX11_look wz_c_X11_look_m ({ frames := 6, cells := 1, slots := 6, locals := 81 }) (va_Pc [.ref h0, .long tm] (zB D y [(h0, .inr (15, [w1, w2, w3, w4, w5, w6, w7, w8, w9, w10, w11, w12, w13, w14, w15]))] sz [.declares (Bundle.init0 "java/lang/RuntimeException"), .declares (Bundle.init0 "java/lang/Exception"), .declares (Bundle.init0 "java/lang/Throwable"), .castable "java/lang/IllegalArgumentException" "java/lang/IllegalArgumentException"] [] zTh [])) (va_Qi (fun (r : Int32) (_ : Unit) => False) (fun _ t => va_P D vwCl [(h0, .inr (15, [w1, w2, w3, w4, w5, w6, w7, w8, w9, w10, w11, w12, w13, w14, w15]))] t.heap ∧ va_D (va_A [(h0, .inr (15, [w1, w2, w3, w4, w5, w6, w7, w8, w9, w10, w11, w12, w13, w14, w15]))] sz) [(h0, .inr (15, [w1, w2, w3, w4, w5, w6, w7, w8, w9, w10, w11, w12, w13, w14, w15]))]) (va_A [(h0, .inr (15, [w1, w2, w3, w4, w5, w6, w7, w8, w9, w10, w11, w12, w13, w14, w15]))] sz)) (vx_X (fun _ : Unit => True) (fun E _ _ => E = "java/lang/IllegalArgumentException") (va_A [(h0, .inr (15, [w1, w2, w3, w4, w5, w6, w7, w8, w9, w10, w11, w12, w13, w14, w15]))] sz)) 1 6 (va_A [(h0, .inr (15, [w1, w2, w3, w4, w5, w6, w7, w8, w9, w10, w11, w12, w13, w14, w15]))] sz) := by
  refine vx_ofW (cc := cX11_look) (maxL := 5) (ret := (some .int)) (by decide) rfl ?_
  intro p e s m args below meth c s₁ B hml hnt hv
  obtain ⟨rfl, hsz, hP, hK, hD0, hN, hE, hO, hT, hG⟩ := hv
  have hx := B.exec
  have hb := B.bytes
  have hr := B.returns
  have hts := atoms_spec (ws := wz_c_X11_look_m) B.pre
  have hown : s.vm.findClass RX11 = some m.cls := findClass_of_methodNamed B.named
  have hlocks := B.notSynchronized
  subst hsz
  have hD := hD0.self (sz := s.heap.size)
  generalize hAe : va_A [(h0, .inr (15, [w1, w2, w3, w4, w5, w6, w7, w8, w9, w10, w11, w12, w13, w14, w15]))] s.heap.size = A at hD hE hT hG ⊢
  have hA : ∀ q : Nat, s.heap.size ≤ q → A q := fun q h => by rw [← hAe]; exact Or.inr h
  have hS : va_S A s.heap s.heap [] := va_S.rf
  have hl := lv_entry ([.ref h0, .long tm]) (n := 5) (Nat.le_of_ble_eq_true rfl)
  rw [lg_entry_eq]
  generalize (lg_sl ([.ref h0, .long tm]) ++ List.replicate (5 - (lg_sl ([.ref h0, .long tm])).length) Slot.unset).toArray = ls at hl ⊢
  have hl : lv_has ls 5 [(0, .ref h0), (1, .long tm)] := hl
  refine lv_lload_n hx hb dX11_look_0 rfl (lv_at hl 1 rfl) ?_
  have hPc := hP.sub (ws' := []) [] rfl
  have hDc := hD.sub (ws' := []) [] (by decide) rfl
  have hFc := va_free (wc := []) hD hS hA [] rfl
  refine va_calli (va_runS (As := [.long tm]) (rest := []) ⟨hx, hb, hml, hown, hts⟩ (c_X11_isTime_m l D y s.heap.size tm h1 h2) (va_cwS 1 hts gv_c_X11_look_m_c_X11_isTime_m_108 rfl rfl rfl (by decide +kernel) ⟨(Nat.le_of_ble_eq_true rfl), (Nat.le_of_ble_eq_true rfl)⟩) (zB.preS hPc hDc hK hN hE hO hT hG hS hFc (fun _ h => nomatch h) (fun _ h => nomatch h) (fun _ h => nomatch h) (fun _ h => nomatch h)) rfl rfl hl.1 rfl (lv_room (Nat.le_of_ble_eq_true rfl)) dX11_look_1 ⟨(Nat.le_of_ble_eq_true rfl), (Nat.le_of_ble_eq_true rfl)⟩) hS (fun q _ h => hFc q h) hFc (fun r1 u t H1 locs ht hvm hw hB hz1 hk1 hS => ?_)
  obtain ⟨hP1, hD1⟩ := hB
  rw [ht] at hP1
  obtain ⟨hP, hD⟩ := va_join (wr := [(h0, .inr (15, [w1, w2, w3, w4, w5, w6, w7, w8, w9, w10, w11, w12, w13, w14, w15]))]) (w1 := []) hP hD [] [0] rfl rfl (by decide) (by decide) hk1 hFc hP1 hD1
  generalize H1 = H at hP hS ⊢
  have hP : va_P D vwCl [(h0, .inr (15, [w1, w2, w3, w4, w5, w6, w7, w8, w9, w10, w11, w12, w13, w14, w15]))] H := hP
  have hD : va_D A [(h0, .inr (15, [w1, w2, w3, w4, w5, w6, w7, w8, w9, w10, w11, w12, w13, w14, w15]))] := hD
  have hw : r1 = 0 := hw
  subst hw
  refine lv_if_ne (tgt := 15) hx hb dX11_look_4 (by decide) (fun c9 => absurd (by decide) c9) (fun _ => ?_)
  exact vx_throw0 (names := ["java/lang/RuntimeException", "java/lang/Exception"]) (cls := "java/lang/IllegalArgumentException") hx hb hl0 hown (by decide) (by decide) (hts (.classLink RX11 112 "java/lang/IllegalArgumentException") (by decide +kernel)) (hts (.initialized "java/lang/IllegalArgumentException") (by decide +kernel)) (vx_hat (L := (vx_at0 RX11 114 "java/lang/IllegalArgumentException" ["java/lang/RuntimeException", "java/lang/Exception"])) (B := [.declares (Bundle.init0 "java/lang/RuntimeException"), .declares (Bundle.init0 "java/lang/Exception"), .declares (Bundle.init0 "java/lang/Throwable"), .castable "java/lang/IllegalArgumentException" "java/lang/IllegalArgumentException"]) (fun w hw => hts w (List.mem_cons_of_mem _ (List.mem_append_right _ (List.mem_append_left _ hw)))) (by decide +kernel) (hN.words (List.forall_mem_cons.mpr ⟨List.mem_of_getElem? (i := 0) rfl, (List.forall_mem_cons.mpr ⟨List.mem_of_getElem? (i := 1) rfl, (List.forall_mem_cons.mpr ⟨List.mem_of_getElem? (i := 2) rfl, (List.forall_mem_cons.mpr ⟨List.mem_of_getElem? (i := 3) rfl, (fun _ h => nomatch h)⟩)⟩)⟩)⟩))) (by decide +kernel) (hT _ (List.mem_of_getElem? (i := 0) rfl)) (hT _ (List.mem_of_getElem? (i := 1) rfl)) hS (hl.1.trans hml.symm) dX11_look_7 dX11_look_10 dX11_look_11 dX11_look_14 (fun x h => (hnt x h).elim) (Nat.le_of_ble_eq_true rfl) (Nat.le_of_ble_eq_true rfl) (Nat.le_of_ble_eq_true rfl) (Nat.le_of_ble_eq_true rfl) hlocks (fun t _ hz hq => ⟨(), trivial, rfl, ⟨Nat.le_trans hS.1 hz, fun q h1 h2 => (hq q (Nat.lt_of_lt_of_le h1 hS.1)).trans (hS.2.1 q h1 h2)⟩⟩) hS.2.2 (Nat.le_of_ble_eq_true rfl) (Nat.le_of_ble_eq_true rfl)

def wz_c_X10_init_X10 : List Cond := .code yX10_init cX10_init 4 none :: ([.methodLink RX10 1 objectInit, .instanceMethod objectInit, .code objectInit ⟨#[0xb1]⟩ 1 none, .fieldLink RX10 7 "SignetRing$Span" "row" "[B", .fieldLink RX10 13 "SignetRing$Span" "from" "I", .fieldLink RX10 17 "SignetRing$Span" "size" "I"] ++ (wsX100 ++ ([])))
set_option maxHeartbeats 4000000 in
set_option maxRecDepth 100000 in
theorem c_X10_init_X10 (l : Launch) (D : va_G) (y : Nat → ClassId) (sz : Nat) (h0 : Nat) (b : Nat) (i1 : Int32) (i2 : Int32) : Met l yX10_init wz_c_X10_init_X10 ({ frames := 1, cells := 0, slots := 0, locals := 12 }) (va_Pc [.ref h0, .ref b, .int i1, .int i2] (zB D y [(h0, .inr (14, [.null, .int 0, .int 0]))] sz [] [] [] [])) (va_Qv (fun _ : Unit => True) (fun _ t => va_P D vwCl [(h0, .inr (14, [.ref b, .int i1, .int i2]))] t.heap ∧ va_D (va_A [(h0, .inr (14, [.null, .int 0, .int 0]))] sz) [(h0, .inr (14, [.ref b, .int i1, .int i2]))]) (va_A [(h0, .inr (14, [.null, .int 0, .int 0]))] sz)) 0 0 (va_A [(h0, .inr (14, [.null, .int 0, .int 0]))] sz) := by
  refine Met.ofW (cc := cX10_init) (maxL := 4) (ret := none) (by decide) rfl ?_
  intro p e s m args below meth c s₁ B hml hv
  obtain ⟨rfl, hsz, hP, hK, hD0, hN, hE, hO, hT, hG⟩ := hv
  have hx := B.exec
  have hb := B.bytes
  have hr := B.returns
  have hts := atoms_spec (ws := wz_c_X10_init_X10) B.pre
  have hown : s.vm.findClass RX10 = some m.cls := findClass_of_methodNamed B.named
  have hlocks := B.notSynchronized
  have hin : meth.name = "<init>" := (name_of_methodNamed B.named B.method).1
  subst hsz
  have hD := hD0.self (sz := s.heap.size)
  generalize hAe : va_A [(h0, .inr (14, [.null, .int 0, .int 0]))] s.heap.size = A at hD hE hT hG ⊢
  have hA : ∀ q : Nat, s.heap.size ≤ q → A q := fun q h => by rw [← hAe]; exact Or.inr h
  have hS : va_S A s.heap s.heap [] := va_S.rf
  have hl := lv_entry ([.ref h0, .ref b, .int i1, .int i2]) (n := 4) (Nat.le_of_ble_eq_true rfl)
  rw [lg_entry_eq]
  generalize (lg_sl ([.ref h0, .ref b, .int i1, .int i2]) ++ List.replicate (4 - (lg_sl ([.ref h0, .ref b, .int i1, .int i2])).length) Slot.unset).toArray = ls at hl ⊢
  have hl : lv_has ls 4 [(0, .ref h0), (1, .ref b), (2, .int i1), (3, .int i2)] := hl
  refine lv_aload_n hx hb dX10_init_0 rfl (lv_at hl 0 rfl) ?_
  refine W.objInit hx hb hown (hts (.methodLink RX10 1 objectInit) (by decide +kernel)) (hts (.instanceMethod objectInit) (by decide +kernel)) (hts (.code objectInit ⟨#[0xb1]⟩ 1 none) (by decide +kernel)) rfl (by rw [hml]; exact hl.1) rfl dX10_init_1 (Nat.le_of_ble_eq_true rfl) (Nat.le_of_ble_eq_true rfl) ?_
  refine W.eq (g2 := F0 m 4 ls []) rfl ?_
  refine lv_aload_n hx hb dX10_init_4 rfl (lv_at hl 0 rfl) ?_
  refine lv_aload_n hx hb dX10_init_5 rfl (lv_at hl 1 rfl) ?_
  refine va_put (D := D) (ci := 14) (v := .ref b) (ty := (.array .byte)) (C := RX10) (T := TX10) (N := 3) hx hb hts (by decide +kernel) tyX10 tyX10_ok nmX10 hown hK hP hD hS 0 rfl rfl 0 (by decide) (hts (.fieldLink RX10 7 "SignetRing$Span" "row" "[B") (by decide +kernel)) (fun _ h9 => h9) rfl (by decide +kernel) rfl rfl (Nat.le_of_ble_eq_true rfl) dX10_init_6 (fun H locs hP hD hS => ?_)
  have hP : va_P D vwCl [(h0, .inr (14, [.ref b, .int 0, .int 0]))] H := hP
  have hD : va_D A [(h0, .inr (14, [.ref b, .int 0, .int 0]))] := hD
  refine lv_aload_n hx hb dX10_init_9 rfl (lv_at hl 0 rfl) ?_
  refine lv_iload_n hx hb dX10_init_10 rfl (lv_at hl 2 rfl) ?_
  refine va_put (D := D) (ci := 14) (v := .int i1) (ty := .int) (C := RX10) (T := TX10) (N := 3) hx hb hts (by decide +kernel) tyX10 tyX10_ok nmX10 hown hK hP hD hS 0 rfl rfl 1 (by decide) (hts (.fieldLink RX10 13 "SignetRing$Span" "from" "I") (by decide +kernel)) (fun _ h9 => h9) rfl (by decide +kernel) rfl rfl (Nat.le_of_ble_eq_true rfl) dX10_init_11 (fun H locs hP hD hS => ?_)
  have hP : va_P D vwCl [(h0, .inr (14, [.ref b, .int i1, .int 0]))] H := hP
  have hD : va_D A [(h0, .inr (14, [.ref b, .int i1, .int 0]))] := hD
  refine lv_aload_n hx hb dX10_init_14 rfl (lv_at hl 0 rfl) ?_
  refine lv_iload_n hx hb dX10_init_15 rfl (lv_at hl 3 rfl) ?_
  refine va_put (D := D) (ci := 14) (v := .int i2) (ty := .int) (C := RX10) (T := TX10) (N := 3) hx hb hts (by decide +kernel) tyX10 tyX10_ok nmX10 hown hK hP hD hS 0 rfl rfl 2 (by decide) (hts (.fieldLink RX10 17 "SignetRing$Span" "size" "I") (by decide +kernel)) (fun _ h9 => h9) rfl (by decide +kernel) rfl rfl (Nat.le_of_ble_eq_true rfl) dX10_init_16 (fun H locs hP hD hS => ?_)
  have hP : va_P D vwCl [(h0, .inr (14, [.ref b, .int i1, .int i2]))] H := hP
  have hD : va_D A [(h0, .inr (14, [.ref b, .int i1, .int i2]))] := hD
  have hP9 := hP.sub (ws' := [(h0, .inr (14, [.ref b, .int i1, .int i2]))]) [0] rfl
  have hD9 := hD.sub (ws' := [(h0, .inr (14, [.ref b, .int i1, .int i2]))]) [0] (by decide) rfl
  refine W.widen (k := 0) (n := 0) (Nat.le_of_ble_eq_true rfl) (Nat.le_of_ble_eq_true rfl) ?_
  exact W.vret hx hb hr (fun t ht hW => ⟨⟨(), rfl, trivial, by rw [ht]; exact hP9, hD9⟩, hS.F ht⟩) hS.2.2 dX10_init_19
def wz_c_X10_init_X0 : List Cond := .code yX10_init cX10_init 4 none :: ([.methodLink RX10 1 objectInit, .instanceMethod objectInit, .code objectInit ⟨#[0xb1]⟩ 1 none, .fieldLink RX10 7 "SignetRing$Span" "row" "[B", .fieldLink RX10 13 "SignetRing$Span" "from" "I", .fieldLink RX10 17 "SignetRing$Span" "size" "I"] ++ (wsX00 ++ ([])))
set_option maxHeartbeats 4000000 in
set_option maxRecDepth 100000 in
theorem c_X10_init_X0 (l : Launch) (D : va_G) (y : Nat → ClassId) (sz : Nat) (h0 : Nat) (b : Nat) (i1 : Int32) (i2 : Int32) : Met l yX10_init wz_c_X10_init_X0 ({ frames := 1, cells := 0, slots := 0, locals := 12 }) (va_Pc [.ref h0, .ref b, .int i1, .int i2] (zB D y [(h0, .inr (4, [.null, .int 0, .int 0]))] sz [] [] [] [])) (va_Qv (fun _ : Unit => True) (fun _ t => va_P D vwCl [(h0, .inr (4, [.ref b, .int i1, .int i2]))] t.heap ∧ va_D (va_A [(h0, .inr (4, [.null, .int 0, .int 0]))] sz) [(h0, .inr (4, [.ref b, .int i1, .int i2]))]) (va_A [(h0, .inr (4, [.null, .int 0, .int 0]))] sz)) 0 0 (va_A [(h0, .inr (4, [.null, .int 0, .int 0]))] sz) := by
  refine Met.ofW (cc := cX10_init) (maxL := 4) (ret := none) (by decide) rfl ?_
  intro p e s m args below meth c s₁ B hml hv
  obtain ⟨rfl, hsz, hP, hK, hD0, hN, hE, hO, hT, hG⟩ := hv
  have hx := B.exec
  have hb := B.bytes
  have hr := B.returns
  have hts := atoms_spec (ws := wz_c_X10_init_X0) B.pre
  have hown : s.vm.findClass RX10 = some m.cls := findClass_of_methodNamed B.named
  have hlocks := B.notSynchronized
  have hin : meth.name = "<init>" := (name_of_methodNamed B.named B.method).1
  subst hsz
  have hD := hD0.self (sz := s.heap.size)
  generalize hAe : va_A [(h0, .inr (4, [.null, .int 0, .int 0]))] s.heap.size = A at hD hE hT hG ⊢
  have hA : ∀ q : Nat, s.heap.size ≤ q → A q := fun q h => by rw [← hAe]; exact Or.inr h
  have hS : va_S A s.heap s.heap [] := va_S.rf
  have hl := lv_entry ([.ref h0, .ref b, .int i1, .int i2]) (n := 4) (Nat.le_of_ble_eq_true rfl)
  rw [lg_entry_eq]
  generalize (lg_sl ([.ref h0, .ref b, .int i1, .int i2]) ++ List.replicate (4 - (lg_sl ([.ref h0, .ref b, .int i1, .int i2])).length) Slot.unset).toArray = ls at hl ⊢
  have hl : lv_has ls 4 [(0, .ref h0), (1, .ref b), (2, .int i1), (3, .int i2)] := hl
  refine lv_aload_n hx hb dX10_init_0 rfl (lv_at hl 0 rfl) ?_
  refine W.objInit hx hb hown (hts (.methodLink RX10 1 objectInit) (by decide +kernel)) (hts (.instanceMethod objectInit) (by decide +kernel)) (hts (.code objectInit ⟨#[0xb1]⟩ 1 none) (by decide +kernel)) rfl (by rw [hml]; exact hl.1) rfl dX10_init_1 (Nat.le_of_ble_eq_true rfl) (Nat.le_of_ble_eq_true rfl) ?_
  refine W.eq (g2 := F0 m 4 ls []) rfl ?_
  refine lv_aload_n hx hb dX10_init_4 rfl (lv_at hl 0 rfl) ?_
  refine lv_aload_n hx hb dX10_init_5 rfl (lv_at hl 1 rfl) ?_
  refine va_put (D := D) (ci := 4) (v := .ref b) (ty := (.array .byte)) (C := RX0) (T := TX0) (N := 3) hx hb hts (by decide +kernel) tyX0 tyX0_ok nmX0 hown hK hP hD hS 0 rfl rfl 0 (by decide) (hts (.fieldLink RX10 7 "SignetRing$Span" "row" "[B") (by decide +kernel)) (fun _ h9 => h9) rfl (by decide +kernel) rfl rfl (Nat.le_of_ble_eq_true rfl) dX10_init_6 (fun H locs hP hD hS => ?_)
  have hP : va_P D vwCl [(h0, .inr (4, [.ref b, .int 0, .int 0]))] H := hP
  have hD : va_D A [(h0, .inr (4, [.ref b, .int 0, .int 0]))] := hD
  refine lv_aload_n hx hb dX10_init_9 rfl (lv_at hl 0 rfl) ?_
  refine lv_iload_n hx hb dX10_init_10 rfl (lv_at hl 2 rfl) ?_
  refine va_put (D := D) (ci := 4) (v := .int i1) (ty := .int) (C := RX0) (T := TX0) (N := 3) hx hb hts (by decide +kernel) tyX0 tyX0_ok nmX0 hown hK hP hD hS 0 rfl rfl 1 (by decide) (hts (.fieldLink RX10 13 "SignetRing$Span" "from" "I") (by decide +kernel)) (fun _ h9 => h9) rfl (by decide +kernel) rfl rfl (Nat.le_of_ble_eq_true rfl) dX10_init_11 (fun H locs hP hD hS => ?_)
  have hP : va_P D vwCl [(h0, .inr (4, [.ref b, .int i1, .int 0]))] H := hP
  have hD : va_D A [(h0, .inr (4, [.ref b, .int i1, .int 0]))] := hD
  refine lv_aload_n hx hb dX10_init_14 rfl (lv_at hl 0 rfl) ?_
  refine lv_iload_n hx hb dX10_init_15 rfl (lv_at hl 3 rfl) ?_
  refine va_put (D := D) (ci := 4) (v := .int i2) (ty := .int) (C := RX0) (T := TX0) (N := 3) hx hb hts (by decide +kernel) tyX0 tyX0_ok nmX0 hown hK hP hD hS 0 rfl rfl 2 (by decide) (hts (.fieldLink RX10 17 "SignetRing$Span" "size" "I") (by decide +kernel)) (fun _ h9 => h9) rfl (by decide +kernel) rfl rfl (Nat.le_of_ble_eq_true rfl) dX10_init_16 (fun H locs hP hD hS => ?_)
  have hP : va_P D vwCl [(h0, .inr (4, [.ref b, .int i1, .int i2]))] H := hP
  have hD : va_D A [(h0, .inr (4, [.ref b, .int i1, .int i2]))] := hD
  have hP9 := hP.sub (ws' := [(h0, .inr (4, [.ref b, .int i1, .int i2]))]) [0] rfl
  have hD9 := hD.sub (ws' := [(h0, .inr (4, [.ref b, .int i1, .int i2]))]) [0] (by decide) rfl
  refine W.widen (k := 0) (n := 0) (Nat.le_of_ble_eq_true rfl) (Nat.le_of_ble_eq_true rfl) ?_
  exact W.vret hx hb hr (fun t ht hW => ⟨⟨(), rfl, trivial, by rw [ht]; exact hP9, hD9⟩, hS.F ht⟩) hS.2.2 dX10_init_19
def wz_c_X10_init_X8 : List Cond := .code yX10_init cX10_init 4 none :: ([.methodLink RX10 1 objectInit, .instanceMethod objectInit, .code objectInit ⟨#[0xb1]⟩ 1 none, .fieldLink RX10 7 "SignetRing$Span" "row" "[B", .fieldLink RX10 13 "SignetRing$Span" "from" "I", .fieldLink RX10 17 "SignetRing$Span" "size" "I"] ++ (wsX80 ++ ([])))
set_option maxHeartbeats 4000000 in
set_option maxRecDepth 100000 in
theorem c_X10_init_X8 (l : Launch) (D : va_G) (y : Nat → ClassId) (sz : Nat) (h0 : Nat) (b : Nat) (i1 : Int32) (i2 : Int32) : Met l yX10_init wz_c_X10_init_X8 ({ frames := 1, cells := 0, slots := 0, locals := 12 }) (va_Pc [.ref h0, .ref b, .int i1, .int i2] (zB D y [(h0, .inr (12, [.null, .int 0, .int 0, .int 0, .int 0, .int 0, .int 0, .int 0, .long 0, .long 0, .long 0, .int 0, .int 0, .int 0, .int 0, .int 0, .int 0, .int 0]))] sz [] [] [] [])) (va_Qv (fun _ : Unit => True) (fun _ t => va_P D vwCl [(h0, .inr (12, [.ref b, .int i1, .int i2, .int 0, .int 0, .int 0, .int 0, .int 0, .long 0, .long 0, .long 0, .int 0, .int 0, .int 0, .int 0, .int 0, .int 0, .int 0]))] t.heap ∧ va_D (va_A [(h0, .inr (12, [.null, .int 0, .int 0, .int 0, .int 0, .int 0, .int 0, .int 0, .long 0, .long 0, .long 0, .int 0, .int 0, .int 0, .int 0, .int 0, .int 0, .int 0]))] sz) [(h0, .inr (12, [.ref b, .int i1, .int i2, .int 0, .int 0, .int 0, .int 0, .int 0, .long 0, .long 0, .long 0, .int 0, .int 0, .int 0, .int 0, .int 0, .int 0, .int 0]))]) (va_A [(h0, .inr (12, [.null, .int 0, .int 0, .int 0, .int 0, .int 0, .int 0, .int 0, .long 0, .long 0, .long 0, .int 0, .int 0, .int 0, .int 0, .int 0, .int 0, .int 0]))] sz)) 0 0 (va_A [(h0, .inr (12, [.null, .int 0, .int 0, .int 0, .int 0, .int 0, .int 0, .int 0, .long 0, .long 0, .long 0, .int 0, .int 0, .int 0, .int 0, .int 0, .int 0, .int 0]))] sz) := by
  refine Met.ofW (cc := cX10_init) (maxL := 4) (ret := none) (by decide) rfl ?_
  intro p e s m args below meth c s₁ B hml hv
  obtain ⟨rfl, hsz, hP, hK, hD0, hN, hE, hO, hT, hG⟩ := hv
  have hx := B.exec
  have hb := B.bytes
  have hr := B.returns
  have hts := atoms_spec (ws := wz_c_X10_init_X8) B.pre
  have hown : s.vm.findClass RX10 = some m.cls := findClass_of_methodNamed B.named
  have hlocks := B.notSynchronized
  have hin : meth.name = "<init>" := (name_of_methodNamed B.named B.method).1
  subst hsz
  have hD := hD0.self (sz := s.heap.size)
  generalize hAe : va_A [(h0, .inr (12, [.null, .int 0, .int 0, .int 0, .int 0, .int 0, .int 0, .int 0, .long 0, .long 0, .long 0, .int 0, .int 0, .int 0, .int 0, .int 0, .int 0, .int 0]))] s.heap.size = A at hD hE hT hG ⊢
  have hA : ∀ q : Nat, s.heap.size ≤ q → A q := fun q h => by rw [← hAe]; exact Or.inr h
  have hS : va_S A s.heap s.heap [] := va_S.rf
  have hl := lv_entry ([.ref h0, .ref b, .int i1, .int i2]) (n := 4) (Nat.le_of_ble_eq_true rfl)
  rw [lg_entry_eq]
  generalize (lg_sl ([.ref h0, .ref b, .int i1, .int i2]) ++ List.replicate (4 - (lg_sl ([.ref h0, .ref b, .int i1, .int i2])).length) Slot.unset).toArray = ls at hl ⊢
  have hl : lv_has ls 4 [(0, .ref h0), (1, .ref b), (2, .int i1), (3, .int i2)] := hl
  refine lv_aload_n hx hb dX10_init_0 rfl (lv_at hl 0 rfl) ?_
  refine W.objInit hx hb hown (hts (.methodLink RX10 1 objectInit) (by decide +kernel)) (hts (.instanceMethod objectInit) (by decide +kernel)) (hts (.code objectInit ⟨#[0xb1]⟩ 1 none) (by decide +kernel)) rfl (by rw [hml]; exact hl.1) rfl dX10_init_1 (Nat.le_of_ble_eq_true rfl) (Nat.le_of_ble_eq_true rfl) ?_
  refine W.eq (g2 := F0 m 4 ls []) rfl ?_
  refine lv_aload_n hx hb dX10_init_4 rfl (lv_at hl 0 rfl) ?_
  refine lv_aload_n hx hb dX10_init_5 rfl (lv_at hl 1 rfl) ?_
  refine va_put (D := D) (ci := 12) (v := .ref b) (ty := (.array .byte)) (C := RX8) (T := TX8) (N := 18) hx hb hts (by decide +kernel) tyX8 tyX8_ok nmX8 hown hK hP hD hS 0 rfl rfl 0 (by decide) (hts (.fieldLink RX10 7 "SignetRing$Span" "row" "[B") (by decide +kernel)) (fun _ h9 => h9) rfl (by decide +kernel) rfl rfl (Nat.le_of_ble_eq_true rfl) dX10_init_6 (fun H locs hP hD hS => ?_)
  have hP : va_P D vwCl [(h0, .inr (12, [.ref b, .int 0, .int 0, .int 0, .int 0, .int 0, .int 0, .int 0, .long 0, .long 0, .long 0, .int 0, .int 0, .int 0, .int 0, .int 0, .int 0, .int 0]))] H := hP
  have hD : va_D A [(h0, .inr (12, [.ref b, .int 0, .int 0, .int 0, .int 0, .int 0, .int 0, .int 0, .long 0, .long 0, .long 0, .int 0, .int 0, .int 0, .int 0, .int 0, .int 0, .int 0]))] := hD
  refine lv_aload_n hx hb dX10_init_9 rfl (lv_at hl 0 rfl) ?_
  refine lv_iload_n hx hb dX10_init_10 rfl (lv_at hl 2 rfl) ?_
  refine va_put (D := D) (ci := 12) (v := .int i1) (ty := .int) (C := RX8) (T := TX8) (N := 18) hx hb hts (by decide +kernel) tyX8 tyX8_ok nmX8 hown hK hP hD hS 0 rfl rfl 1 (by decide) (hts (.fieldLink RX10 13 "SignetRing$Span" "from" "I") (by decide +kernel)) (fun _ h9 => h9) rfl (by decide +kernel) rfl rfl (Nat.le_of_ble_eq_true rfl) dX10_init_11 (fun H locs hP hD hS => ?_)
  have hP : va_P D vwCl [(h0, .inr (12, [.ref b, .int i1, .int 0, .int 0, .int 0, .int 0, .int 0, .int 0, .long 0, .long 0, .long 0, .int 0, .int 0, .int 0, .int 0, .int 0, .int 0, .int 0]))] H := hP
  have hD : va_D A [(h0, .inr (12, [.ref b, .int i1, .int 0, .int 0, .int 0, .int 0, .int 0, .int 0, .long 0, .long 0, .long 0, .int 0, .int 0, .int 0, .int 0, .int 0, .int 0, .int 0]))] := hD
  refine lv_aload_n hx hb dX10_init_14 rfl (lv_at hl 0 rfl) ?_
  refine lv_iload_n hx hb dX10_init_15 rfl (lv_at hl 3 rfl) ?_
  refine va_put (D := D) (ci := 12) (v := .int i2) (ty := .int) (C := RX8) (T := TX8) (N := 18) hx hb hts (by decide +kernel) tyX8 tyX8_ok nmX8 hown hK hP hD hS 0 rfl rfl 2 (by decide) (hts (.fieldLink RX10 17 "SignetRing$Span" "size" "I") (by decide +kernel)) (fun _ h9 => h9) rfl (by decide +kernel) rfl rfl (Nat.le_of_ble_eq_true rfl) dX10_init_16 (fun H locs hP hD hS => ?_)
  have hP : va_P D vwCl [(h0, .inr (12, [.ref b, .int i1, .int i2, .int 0, .int 0, .int 0, .int 0, .int 0, .long 0, .long 0, .long 0, .int 0, .int 0, .int 0, .int 0, .int 0, .int 0, .int 0]))] H := hP
  have hD : va_D A [(h0, .inr (12, [.ref b, .int i1, .int i2, .int 0, .int 0, .int 0, .int 0, .int 0, .long 0, .long 0, .long 0, .int 0, .int 0, .int 0, .int 0, .int 0, .int 0, .int 0]))] := hD
  have hP9 := hP.sub (ws' := [(h0, .inr (12, [.ref b, .int i1, .int i2, .int 0, .int 0, .int 0, .int 0, .int 0, .long 0, .long 0, .long 0, .int 0, .int 0, .int 0, .int 0, .int 0, .int 0, .int 0]))]) [0] rfl
  have hD9 := hD.sub (ws' := [(h0, .inr (12, [.ref b, .int i1, .int i2, .int 0, .int 0, .int 0, .int 0, .int 0, .long 0, .long 0, .long 0, .int 0, .int 0, .int 0, .int 0, .int 0, .int 0, .int 0]))]) [0] (by decide) rfl
  refine W.widen (k := 0) (n := 0) (Nat.le_of_ble_eq_true rfl) (Nat.le_of_ble_eq_true rfl) ?_
  exact W.vret hx hb hr (fun t ht hW => ⟨⟨(), rfl, trivial, by rw [ht]; exact hP9, hD9⟩, hS.F ht⟩) hS.2.2 dX10_init_19
def wz_c_X10_init_X5 : List Cond := .code yX10_init cX10_init 4 none :: ([.methodLink RX10 1 objectInit, .instanceMethod objectInit, .code objectInit ⟨#[0xb1]⟩ 1 none, .fieldLink RX10 7 "SignetRing$Span" "row" "[B", .fieldLink RX10 13 "SignetRing$Span" "from" "I", .fieldLink RX10 17 "SignetRing$Span" "size" "I"] ++ (wsX50 ++ ([])))
set_option maxHeartbeats 4000000 in
set_option maxRecDepth 100000 in
theorem c_X10_init_X5 (l : Launch) (D : va_G) (y : Nat → ClassId) (sz : Nat) (h0 : Nat) (b : Nat) (i1 : Int32) (i2 : Int32) : Met l yX10_init wz_c_X10_init_X5 ({ frames := 1, cells := 0, slots := 0, locals := 12 }) (va_Pc [.ref h0, .ref b, .int i1, .int i2] (zB D y [(h0, .inr (9, [.null, .int 0, .int 0, .null, .int 0]))] sz [] [] [] [])) (va_Qv (fun _ : Unit => True) (fun _ t => va_P D vwCl [(h0, .inr (9, [.ref b, .int i1, .int i2, .null, .int 0]))] t.heap ∧ va_D (va_A [(h0, .inr (9, [.null, .int 0, .int 0, .null, .int 0]))] sz) [(h0, .inr (9, [.ref b, .int i1, .int i2, .null, .int 0]))]) (va_A [(h0, .inr (9, [.null, .int 0, .int 0, .null, .int 0]))] sz)) 0 0 (va_A [(h0, .inr (9, [.null, .int 0, .int 0, .null, .int 0]))] sz) := by
  refine Met.ofW (cc := cX10_init) (maxL := 4) (ret := none) (by decide) rfl ?_
  intro p e s m args below meth c s₁ B hml hv
  obtain ⟨rfl, hsz, hP, hK, hD0, hN, hE, hO, hT, hG⟩ := hv
  have hx := B.exec
  have hb := B.bytes
  have hr := B.returns
  have hts := atoms_spec (ws := wz_c_X10_init_X5) B.pre
  have hown : s.vm.findClass RX10 = some m.cls := findClass_of_methodNamed B.named
  have hlocks := B.notSynchronized
  have hin : meth.name = "<init>" := (name_of_methodNamed B.named B.method).1
  subst hsz
  have hD := hD0.self (sz := s.heap.size)
  generalize hAe : va_A [(h0, .inr (9, [.null, .int 0, .int 0, .null, .int 0]))] s.heap.size = A at hD hE hT hG ⊢
  have hA : ∀ q : Nat, s.heap.size ≤ q → A q := fun q h => by rw [← hAe]; exact Or.inr h
  have hS : va_S A s.heap s.heap [] := va_S.rf
  have hl := lv_entry ([.ref h0, .ref b, .int i1, .int i2]) (n := 4) (Nat.le_of_ble_eq_true rfl)
  rw [lg_entry_eq]
  generalize (lg_sl ([.ref h0, .ref b, .int i1, .int i2]) ++ List.replicate (4 - (lg_sl ([.ref h0, .ref b, .int i1, .int i2])).length) Slot.unset).toArray = ls at hl ⊢
  have hl : lv_has ls 4 [(0, .ref h0), (1, .ref b), (2, .int i1), (3, .int i2)] := hl
  refine lv_aload_n hx hb dX10_init_0 rfl (lv_at hl 0 rfl) ?_
  refine W.objInit hx hb hown (hts (.methodLink RX10 1 objectInit) (by decide +kernel)) (hts (.instanceMethod objectInit) (by decide +kernel)) (hts (.code objectInit ⟨#[0xb1]⟩ 1 none) (by decide +kernel)) rfl (by rw [hml]; exact hl.1) rfl dX10_init_1 (Nat.le_of_ble_eq_true rfl) (Nat.le_of_ble_eq_true rfl) ?_
  refine W.eq (g2 := F0 m 4 ls []) rfl ?_
  refine lv_aload_n hx hb dX10_init_4 rfl (lv_at hl 0 rfl) ?_
  refine lv_aload_n hx hb dX10_init_5 rfl (lv_at hl 1 rfl) ?_
  refine va_put (D := D) (ci := 9) (v := .ref b) (ty := (.array .byte)) (C := RX5) (T := TX5) (N := 5) hx hb hts (by decide +kernel) tyX5 tyX5_ok nmX5 hown hK hP hD hS 0 rfl rfl 0 (by decide) (hts (.fieldLink RX10 7 "SignetRing$Span" "row" "[B") (by decide +kernel)) (fun _ h9 => h9) rfl (by decide +kernel) rfl rfl (Nat.le_of_ble_eq_true rfl) dX10_init_6 (fun H locs hP hD hS => ?_)
  have hP : va_P D vwCl [(h0, .inr (9, [.ref b, .int 0, .int 0, .null, .int 0]))] H := hP
  have hD : va_D A [(h0, .inr (9, [.ref b, .int 0, .int 0, .null, .int 0]))] := hD
  refine lv_aload_n hx hb dX10_init_9 rfl (lv_at hl 0 rfl) ?_
  refine lv_iload_n hx hb dX10_init_10 rfl (lv_at hl 2 rfl) ?_
  refine va_put (D := D) (ci := 9) (v := .int i1) (ty := .int) (C := RX5) (T := TX5) (N := 5) hx hb hts (by decide +kernel) tyX5 tyX5_ok nmX5 hown hK hP hD hS 0 rfl rfl 1 (by decide) (hts (.fieldLink RX10 13 "SignetRing$Span" "from" "I") (by decide +kernel)) (fun _ h9 => h9) rfl (by decide +kernel) rfl rfl (Nat.le_of_ble_eq_true rfl) dX10_init_11 (fun H locs hP hD hS => ?_)
  have hP : va_P D vwCl [(h0, .inr (9, [.ref b, .int i1, .int 0, .null, .int 0]))] H := hP
  have hD : va_D A [(h0, .inr (9, [.ref b, .int i1, .int 0, .null, .int 0]))] := hD
  refine lv_aload_n hx hb dX10_init_14 rfl (lv_at hl 0 rfl) ?_
  refine lv_iload_n hx hb dX10_init_15 rfl (lv_at hl 3 rfl) ?_
  refine va_put (D := D) (ci := 9) (v := .int i2) (ty := .int) (C := RX5) (T := TX5) (N := 5) hx hb hts (by decide +kernel) tyX5 tyX5_ok nmX5 hown hK hP hD hS 0 rfl rfl 2 (by decide) (hts (.fieldLink RX10 17 "SignetRing$Span" "size" "I") (by decide +kernel)) (fun _ h9 => h9) rfl (by decide +kernel) rfl rfl (Nat.le_of_ble_eq_true rfl) dX10_init_16 (fun H locs hP hD hS => ?_)
  have hP : va_P D vwCl [(h0, .inr (9, [.ref b, .int i1, .int i2, .null, .int 0]))] H := hP
  have hD : va_D A [(h0, .inr (9, [.ref b, .int i1, .int i2, .null, .int 0]))] := hD
  have hP9 := hP.sub (ws' := [(h0, .inr (9, [.ref b, .int i1, .int i2, .null, .int 0]))]) [0] rfl
  have hD9 := hD.sub (ws' := [(h0, .inr (9, [.ref b, .int i1, .int i2, .null, .int 0]))]) [0] (by decide) rfl
  refine W.widen (k := 0) (n := 0) (Nat.le_of_ble_eq_true rfl) (Nat.le_of_ble_eq_true rfl) ?_
  exact W.vret hx hb hr (fun t ht hW => ⟨⟨(), rfl, trivial, by rw [ht]; exact hP9, hD9⟩, hS.F ht⟩) hS.2.2 dX10_init_19
def wz_c_X10_init_X3 : List Cond := .code yX10_init cX10_init 4 none :: ([.methodLink RX10 1 objectInit, .instanceMethod objectInit, .code objectInit ⟨#[0xb1]⟩ 1 none, .fieldLink RX10 7 "SignetRing$Span" "row" "[B", .fieldLink RX10 13 "SignetRing$Span" "from" "I", .fieldLink RX10 17 "SignetRing$Span" "size" "I"] ++ (wsX30 ++ ([])))
set_option maxHeartbeats 4000000 in
set_option maxRecDepth 100000 in
theorem c_X10_init_X3 (l : Launch) (D : va_G) (y : Nat → ClassId) (sz : Nat) (h0 : Nat) (b : Nat) (i1 : Int32) (i2 : Int32) : Met l yX10_init wz_c_X10_init_X3 ({ frames := 1, cells := 0, slots := 0, locals := 12 }) (va_Pc [.ref h0, .ref b, .int i1, .int i2] (zB D y [(h0, .inr (7, [.null, .int 0, .null, .int 0, .int 0, .null, .null, .null, .null, .int 0, .int 0, .long 0, .int 0, .int 0, .int 0, .null, .int 0]))] sz [] [] [] [])) (va_Qv (fun _ : Unit => True) (fun _ t => va_P D vwCl [(h0, .inr (7, [.null, .int 0, .ref b, .int i1, .int i2, .null, .null, .null, .null, .int 0, .int 0, .long 0, .int 0, .int 0, .int 0, .null, .int 0]))] t.heap ∧ va_D (va_A [(h0, .inr (7, [.null, .int 0, .null, .int 0, .int 0, .null, .null, .null, .null, .int 0, .int 0, .long 0, .int 0, .int 0, .int 0, .null, .int 0]))] sz) [(h0, .inr (7, [.null, .int 0, .ref b, .int i1, .int i2, .null, .null, .null, .null, .int 0, .int 0, .long 0, .int 0, .int 0, .int 0, .null, .int 0]))]) (va_A [(h0, .inr (7, [.null, .int 0, .null, .int 0, .int 0, .null, .null, .null, .null, .int 0, .int 0, .long 0, .int 0, .int 0, .int 0, .null, .int 0]))] sz)) 0 0 (va_A [(h0, .inr (7, [.null, .int 0, .null, .int 0, .int 0, .null, .null, .null, .null, .int 0, .int 0, .long 0, .int 0, .int 0, .int 0, .null, .int 0]))] sz) := by
  refine Met.ofW (cc := cX10_init) (maxL := 4) (ret := none) (by decide) rfl ?_
  intro p e s m args below meth c s₁ B hml hv
  obtain ⟨rfl, hsz, hP, hK, hD0, hN, hE, hO, hT, hG⟩ := hv
  have hx := B.exec
  have hb := B.bytes
  have hr := B.returns
  have hts := atoms_spec (ws := wz_c_X10_init_X3) B.pre
  have hown : s.vm.findClass RX10 = some m.cls := findClass_of_methodNamed B.named
  have hlocks := B.notSynchronized
  have hin : meth.name = "<init>" := (name_of_methodNamed B.named B.method).1
  subst hsz
  have hD := hD0.self (sz := s.heap.size)
  generalize hAe : va_A [(h0, .inr (7, [.null, .int 0, .null, .int 0, .int 0, .null, .null, .null, .null, .int 0, .int 0, .long 0, .int 0, .int 0, .int 0, .null, .int 0]))] s.heap.size = A at hD hE hT hG ⊢
  have hA : ∀ q : Nat, s.heap.size ≤ q → A q := fun q h => by rw [← hAe]; exact Or.inr h
  have hS : va_S A s.heap s.heap [] := va_S.rf
  have hl := lv_entry ([.ref h0, .ref b, .int i1, .int i2]) (n := 4) (Nat.le_of_ble_eq_true rfl)
  rw [lg_entry_eq]
  generalize (lg_sl ([.ref h0, .ref b, .int i1, .int i2]) ++ List.replicate (4 - (lg_sl ([.ref h0, .ref b, .int i1, .int i2])).length) Slot.unset).toArray = ls at hl ⊢
  have hl : lv_has ls 4 [(0, .ref h0), (1, .ref b), (2, .int i1), (3, .int i2)] := hl
  refine lv_aload_n hx hb dX10_init_0 rfl (lv_at hl 0 rfl) ?_
  refine W.objInit hx hb hown (hts (.methodLink RX10 1 objectInit) (by decide +kernel)) (hts (.instanceMethod objectInit) (by decide +kernel)) (hts (.code objectInit ⟨#[0xb1]⟩ 1 none) (by decide +kernel)) rfl (by rw [hml]; exact hl.1) rfl dX10_init_1 (Nat.le_of_ble_eq_true rfl) (Nat.le_of_ble_eq_true rfl) ?_
  refine W.eq (g2 := F0 m 4 ls []) rfl ?_
  refine lv_aload_n hx hb dX10_init_4 rfl (lv_at hl 0 rfl) ?_
  refine lv_aload_n hx hb dX10_init_5 rfl (lv_at hl 1 rfl) ?_
  refine va_put (D := D) (ci := 7) (v := .ref b) (ty := (.array .byte)) (C := RX3) (T := TX3) (N := 17) hx hb hts (by decide +kernel) tyX3 tyX3_ok nmX3 hown hK hP hD hS 0 rfl rfl 2 (by decide) (hts (.fieldLink RX10 7 "SignetRing$Span" "row" "[B") (by decide +kernel)) (fun _ h9 => h9) rfl (by decide +kernel) rfl rfl (Nat.le_of_ble_eq_true rfl) dX10_init_6 (fun H locs hP hD hS => ?_)
  have hP : va_P D vwCl [(h0, .inr (7, [.null, .int 0, .ref b, .int 0, .int 0, .null, .null, .null, .null, .int 0, .int 0, .long 0, .int 0, .int 0, .int 0, .null, .int 0]))] H := hP
  have hD : va_D A [(h0, .inr (7, [.null, .int 0, .ref b, .int 0, .int 0, .null, .null, .null, .null, .int 0, .int 0, .long 0, .int 0, .int 0, .int 0, .null, .int 0]))] := hD
  refine lv_aload_n hx hb dX10_init_9 rfl (lv_at hl 0 rfl) ?_
  refine lv_iload_n hx hb dX10_init_10 rfl (lv_at hl 2 rfl) ?_
  refine va_put (D := D) (ci := 7) (v := .int i1) (ty := .int) (C := RX3) (T := TX3) (N := 17) hx hb hts (by decide +kernel) tyX3 tyX3_ok nmX3 hown hK hP hD hS 0 rfl rfl 3 (by decide) (hts (.fieldLink RX10 13 "SignetRing$Span" "from" "I") (by decide +kernel)) (fun _ h9 => h9) rfl (by decide +kernel) rfl rfl (Nat.le_of_ble_eq_true rfl) dX10_init_11 (fun H locs hP hD hS => ?_)
  have hP : va_P D vwCl [(h0, .inr (7, [.null, .int 0, .ref b, .int i1, .int 0, .null, .null, .null, .null, .int 0, .int 0, .long 0, .int 0, .int 0, .int 0, .null, .int 0]))] H := hP
  have hD : va_D A [(h0, .inr (7, [.null, .int 0, .ref b, .int i1, .int 0, .null, .null, .null, .null, .int 0, .int 0, .long 0, .int 0, .int 0, .int 0, .null, .int 0]))] := hD
  refine lv_aload_n hx hb dX10_init_14 rfl (lv_at hl 0 rfl) ?_
  refine lv_iload_n hx hb dX10_init_15 rfl (lv_at hl 3 rfl) ?_
  refine va_put (D := D) (ci := 7) (v := .int i2) (ty := .int) (C := RX3) (T := TX3) (N := 17) hx hb hts (by decide +kernel) tyX3 tyX3_ok nmX3 hown hK hP hD hS 0 rfl rfl 4 (by decide) (hts (.fieldLink RX10 17 "SignetRing$Span" "size" "I") (by decide +kernel)) (fun _ h9 => h9) rfl (by decide +kernel) rfl rfl (Nat.le_of_ble_eq_true rfl) dX10_init_16 (fun H locs hP hD hS => ?_)
  have hP : va_P D vwCl [(h0, .inr (7, [.null, .int 0, .ref b, .int i1, .int i2, .null, .null, .null, .null, .int 0, .int 0, .long 0, .int 0, .int 0, .int 0, .null, .int 0]))] H := hP
  have hD : va_D A [(h0, .inr (7, [.null, .int 0, .ref b, .int i1, .int i2, .null, .null, .null, .null, .int 0, .int 0, .long 0, .int 0, .int 0, .int 0, .null, .int 0]))] := hD
  have hP9 := hP.sub (ws' := [(h0, .inr (7, [.null, .int 0, .ref b, .int i1, .int i2, .null, .null, .null, .null, .int 0, .int 0, .long 0, .int 0, .int 0, .int 0, .null, .int 0]))]) [0] rfl
  have hD9 := hD.sub (ws' := [(h0, .inr (7, [.null, .int 0, .ref b, .int i1, .int i2, .null, .null, .null, .null, .int 0, .int 0, .long 0, .int 0, .int 0, .int 0, .null, .int 0]))]) [0] (by decide) rfl
  refine W.widen (k := 0) (n := 0) (Nat.le_of_ble_eq_true rfl) (Nat.le_of_ble_eq_true rfl) ?_
  exact W.vret hx hb hr (fun t ht hW => ⟨⟨(), rfl, trivial, by rw [ht]; exact hP9, hD9⟩, hS.F ht⟩) hS.2.2 dX10_init_19
def wz_c_X0_init_4096 : List Cond := .code yX0_init cX0_init 2 none :: ([.methodLink RX0 1 Lib.Math.max.name, .static Lib.Math.max.name, .initialized "java/lang/Math", .code Lib.Math.max.name Lib.Math.max.code 2 (some .int), .arrayClass .byte, .initialized RX10, .methodLink RX0 7 yX10_init, .instanceMethod yX10_init] ++ (wz_c_X10_init_X0 ++ ([])))
set_option maxRecDepth 100000 in
theorem gz_c_X0_init_4096_c_X10_init_X0 : GoodIn wz_c_X0_init_4096 wz_c_X10_init_X0 := goodIn_sub (fun w h => List.mem_cons_of_mem _ (List.mem_append_right _ (List.mem_append_left _ h))) (by decide +kernel)
set_option maxHeartbeats 4000000 in
set_option maxRecDepth 100000 in
theorem c_X0_init_4096 (l : Launch) (D : va_G) (y : Nat → ClassId) (sz : Nat) (h0 : Nat) : Met l yX0_init wz_c_X0_init_4096 ({ frames := 2, cells := 1, slots := 4096, locals := 35 }) (va_Pc [.ref h0, .int 4096] (zB D y [(h0, .inr (4, [.null, .int 0, .int 0]))] sz [] [] [] [])) (va_Qv (fun _ : Unit => True) (fun _ t => ∃ q2 : Nat, va_P D vwCl [(h0, .inr (4, [.ref q2, .int 0, .int 0])), (q2, .inl (y 0, 4096, .inl (fun _ => 0)))] t.heap ∧ va_D (va_A [(h0, .inr (4, [.null, .int 0, .int 0]))] sz) [(h0, .inr (4, [.ref q2, .int 0, .int 0])), (q2, .inl (y 0, 4096, .inl (fun _ => 0)))]) (va_A [(h0, .inr (4, [.null, .int 0, .int 0]))] sz)) 1 4096 (va_A [(h0, .inr (4, [.null, .int 0, .int 0]))] sz) := by
  refine Met.ofW (cc := cX0_init) (maxL := 2) (ret := none) (by decide) rfl ?_
  intro p e s m args below meth c s₁ B hml hv
  obtain ⟨rfl, hsz, hP, hK, hD0, hN, hE, hO, hT, hG⟩ := hv
  have hx := B.exec
  have hb := B.bytes
  have hr := B.returns
  have hts := atoms_spec (ws := wz_c_X0_init_4096) B.pre
  have hown : s.vm.findClass RX0 = some m.cls := findClass_of_methodNamed B.named
  have hlocks := B.notSynchronized
  have hin : meth.name = "<init>" := (name_of_methodNamed B.named B.method).1
  subst hsz
  have hD := hD0.self (sz := s.heap.size)
  generalize hAe : va_A [(h0, .inr (4, [.null, .int 0, .int 0]))] s.heap.size = A at hD hE hT hG ⊢
  have hA : ∀ q : Nat, s.heap.size ≤ q → A q := fun q h => by rw [← hAe]; exact Or.inr h
  have hS : va_S A s.heap s.heap [] := va_S.rf
  have hl := lv_entry ([.ref h0, .int 4096]) (n := 2) (Nat.le_of_ble_eq_true rfl)
  rw [lg_entry_eq]
  generalize (lg_sl ([.ref h0, .int 4096]) ++ List.replicate (2 - (lg_sl ([.ref h0, .int 4096])).length) Slot.unset).toArray = ls at hl ⊢
  have hl : lv_has ls 2 [(0, .ref h0), (1, .int 4096)] := hl
  refine lv_aload_n hx hb dX0_init_0 rfl (lv_at hl 0 rfl) ?_
  refine lv_iload_n hx hb dX0_init_1 rfl (lv_at hl 1 rfl) ?_
  refine lv_iconst (v := 1) hx hb dX0_init_2 (by decide) ?_
  refine va_mmax hx hb (hml.trans hl.1.symm) hown (hts (.methodLink RX0 1 Lib.Math.max.name) (by decide +kernel)) (hts (.static Lib.Math.max.name) (by decide +kernel)) (hts (.initialized "java/lang/Math") (by decide +kernel)) (hts (.code Lib.Math.max.name Lib.Math.max.code 2 (some .int)) (by decide +kernel)) (Nat.le_of_ble_eq_true rfl) (Nat.le_of_ble_eq_true rfl) (Nat.le_of_ble_eq_true rfl) (Nat.le_of_ble_eq_true rfl) dX0_init_3 ?_
  refine lv_topi (fun v1 ev1 => ?_)
  have ev1 : v1 = 4096 := ev1.trans (by decide +kernel)
  subst ev1
  refine zz_newa (atype := .byte) (n := 4096) (N' := 4096) (a0 := (4096, .inl (fun _ => 0))) (ty := .byte) hx hb (hts (.arrayClass .byte) (by decide +kernel)) rfl hK 0 rfl hP hD hS hA (zz_aB 4096) (by decide +kernel) (by decide +kernel) (by decide +kernel) (Nat.le_of_ble_eq_true rfl) (Nat.le_of_ble_eq_true rfl) dX0_init_6 (fun q2 H hP hD hS => ?_)
  have hP : va_P D vwCl [(h0, .inr (4, [.null, .int 0, .int 0])), (q2, .inl (y 0, 4096, .inl (fun _ => 0)))] H := hP
  have hD : va_D A [(h0, .inr (4, [.null, .int 0, .int 0])), (q2, .inl (y 0, 4096, .inl (fun _ => 0)))] := hD
  refine lv_iconst (v := 0) hx hb dX0_init_8 (by decide) ?_
  refine lv_iconst (v := 0) hx hb dX0_init_9 (by decide) ?_
  have hPc := hP.sub (ws' := [(h0, .inr (4, [.null, .int 0, .int 0]))]) [0] rfl
  have hDc := hD.sub (ws' := [(h0, .inr (4, [.null, .int 0, .int 0]))]) [0] (by decide) rfl
  have hFc := va_free (wc := [(h0, .inr (4, [.null, .int 0, .int 0]))]) hD hS hA [0] rfl
  refine va_callv (va_runI (As := [.ref q2, .int 0, .int 0]) (rest := []) ⟨hx, hb, hml, hown, hts⟩ (c_X10_init_X0 l D y H.size h0 q2 0 0) (cwI 3 hts gz_c_X0_init_4096_c_X10_init_X0 rfl rfl rfl (hts (.initialized RX10) (by decide +kernel)) (hts (.methodLink RX0 7 yX10_init) (by decide +kernel)) (hts (.instanceMethod yX10_init) (by decide +kernel)) rfl (by decide +kernel) ⟨(Nat.le_of_ble_eq_true rfl), (Nat.le_of_ble_eq_true rfl)⟩) (zB.preS hPc hDc hK hN hE hO hT hG hS hFc (fun _ h => nomatch h) (fun _ h => nomatch h) (fun _ h => nomatch h) (fun _ h => nomatch h)) rfl rfl hl.1 rfl (lv_room (Nat.le_of_ble_eq_true rfl)) dX0_init_10 ⟨(Nat.le_of_ble_eq_true rfl), (Nat.le_of_ble_eq_true rfl)⟩) hS (fun q _ h => hFc q h) hFc (fun u t H1 locs ht hvm hw hB hz1 hk1 hS => ?_)
  obtain ⟨hP1, hD1⟩ := hB
  rw [ht] at hP1
  obtain ⟨hP, hD⟩ := va_join (wr := [(q2, .inl (y 0, 4096, .inl (fun _ => 0)))]) (w1 := [(h0, .inr (4, [.ref q2, .int 0, .int 0]))]) hP hD [0] [1] rfl rfl (by decide) (by decide) hk1 hFc hP1 hD1
  generalize H1 = H at hP hS ⊢
  have hP : va_P D vwCl [(q2, .inl (y 0, 4096, .inl (fun _ => 0))), (h0, .inr (4, [.ref q2, .int 0, .int 0]))] H := hP
  have hD : va_D A [(q2, .inl (y 0, 4096, .inl (fun _ => 0))), (h0, .inr (4, [.ref q2, .int 0, .int 0]))] := hD
  have hP9 := hP.sub (ws' := [(h0, .inr (4, [.ref q2, .int 0, .int 0])), (q2, .inl (y 0, 4096, .inl (fun _ => 0)))]) [1, 0] rfl
  have hD9 := hD.sub (ws' := [(h0, .inr (4, [.ref q2, .int 0, .int 0])), (q2, .inl (y 0, 4096, .inl (fun _ => 0)))]) [1, 0] (by decide) rfl
  refine W.widen (k := 1) (n := 4096) (Nat.le_of_ble_eq_true rfl) (Nat.le_of_ble_eq_true rfl) ?_
  exact W.vret hx hb hr (fun t ht hW => ⟨⟨(), rfl, trivial, q2, by rw [ht]; exact hP9, hD9⟩, hS.F ht⟩) hS.2.2 dX0_init_13
def wz_c_X0_init_1024 : List Cond := .code yX0_init cX0_init 2 none :: ([.methodLink RX0 1 Lib.Math.max.name, .static Lib.Math.max.name, .initialized "java/lang/Math", .code Lib.Math.max.name Lib.Math.max.code 2 (some .int), .arrayClass .byte, .initialized RX10, .methodLink RX0 7 yX10_init, .instanceMethod yX10_init] ++ (wz_c_X10_init_X0 ++ ([])))
set_option maxRecDepth 100000 in
theorem gz_c_X0_init_1024_c_X10_init_X0 : GoodIn wz_c_X0_init_1024 wz_c_X10_init_X0 := goodIn_sub (fun w h => List.mem_cons_of_mem _ (List.mem_append_right _ (List.mem_append_left _ h))) (by decide +kernel)
set_option maxHeartbeats 4000000 in
set_option maxRecDepth 100000 in
theorem c_X0_init_1024 (l : Launch) (D : va_G) (y : Nat → ClassId) (sz : Nat) (h0 : Nat) : Met l yX0_init wz_c_X0_init_1024 ({ frames := 2, cells := 1, slots := 1024, locals := 35 }) (va_Pc [.ref h0, .int 1024] (zB D y [(h0, .inr (4, [.null, .int 0, .int 0]))] sz [] [] [] [])) (va_Qv (fun _ : Unit => True) (fun _ t => ∃ q2 : Nat, va_P D vwCl [(h0, .inr (4, [.ref q2, .int 0, .int 0])), (q2, .inl (y 0, 1024, .inl (fun _ => 0)))] t.heap ∧ va_D (va_A [(h0, .inr (4, [.null, .int 0, .int 0]))] sz) [(h0, .inr (4, [.ref q2, .int 0, .int 0])), (q2, .inl (y 0, 1024, .inl (fun _ => 0)))]) (va_A [(h0, .inr (4, [.null, .int 0, .int 0]))] sz)) 1 1024 (va_A [(h0, .inr (4, [.null, .int 0, .int 0]))] sz) := by
  refine Met.ofW (cc := cX0_init) (maxL := 2) (ret := none) (by decide) rfl ?_
  intro p e s m args below meth c s₁ B hml hv
  obtain ⟨rfl, hsz, hP, hK, hD0, hN, hE, hO, hT, hG⟩ := hv
  have hx := B.exec
  have hb := B.bytes
  have hr := B.returns
  have hts := atoms_spec (ws := wz_c_X0_init_1024) B.pre
  have hown : s.vm.findClass RX0 = some m.cls := findClass_of_methodNamed B.named
  have hlocks := B.notSynchronized
  have hin : meth.name = "<init>" := (name_of_methodNamed B.named B.method).1
  subst hsz
  have hD := hD0.self (sz := s.heap.size)
  generalize hAe : va_A [(h0, .inr (4, [.null, .int 0, .int 0]))] s.heap.size = A at hD hE hT hG ⊢
  have hA : ∀ q : Nat, s.heap.size ≤ q → A q := fun q h => by rw [← hAe]; exact Or.inr h
  have hS : va_S A s.heap s.heap [] := va_S.rf
  have hl := lv_entry ([.ref h0, .int 1024]) (n := 2) (Nat.le_of_ble_eq_true rfl)
  rw [lg_entry_eq]
  generalize (lg_sl ([.ref h0, .int 1024]) ++ List.replicate (2 - (lg_sl ([.ref h0, .int 1024])).length) Slot.unset).toArray = ls at hl ⊢
  have hl : lv_has ls 2 [(0, .ref h0), (1, .int 1024)] := hl
  refine lv_aload_n hx hb dX0_init_0 rfl (lv_at hl 0 rfl) ?_
  refine lv_iload_n hx hb dX0_init_1 rfl (lv_at hl 1 rfl) ?_
  refine lv_iconst (v := 1) hx hb dX0_init_2 (by decide) ?_
  refine va_mmax hx hb (hml.trans hl.1.symm) hown (hts (.methodLink RX0 1 Lib.Math.max.name) (by decide +kernel)) (hts (.static Lib.Math.max.name) (by decide +kernel)) (hts (.initialized "java/lang/Math") (by decide +kernel)) (hts (.code Lib.Math.max.name Lib.Math.max.code 2 (some .int)) (by decide +kernel)) (Nat.le_of_ble_eq_true rfl) (Nat.le_of_ble_eq_true rfl) (Nat.le_of_ble_eq_true rfl) (Nat.le_of_ble_eq_true rfl) dX0_init_3 ?_
  refine lv_topi (fun v1 ev1 => ?_)
  have ev1 : v1 = 1024 := ev1.trans (by decide +kernel)
  subst ev1
  refine zz_newa (atype := .byte) (n := 1024) (N' := 1024) (a0 := (1024, .inl (fun _ => 0))) (ty := .byte) hx hb (hts (.arrayClass .byte) (by decide +kernel)) rfl hK 0 rfl hP hD hS hA (zz_aB 1024) (by decide +kernel) (by decide +kernel) (by decide +kernel) (Nat.le_of_ble_eq_true rfl) (Nat.le_of_ble_eq_true rfl) dX0_init_6 (fun q2 H hP hD hS => ?_)
  have hP : va_P D vwCl [(h0, .inr (4, [.null, .int 0, .int 0])), (q2, .inl (y 0, 1024, .inl (fun _ => 0)))] H := hP
  have hD : va_D A [(h0, .inr (4, [.null, .int 0, .int 0])), (q2, .inl (y 0, 1024, .inl (fun _ => 0)))] := hD
  refine lv_iconst (v := 0) hx hb dX0_init_8 (by decide) ?_
  refine lv_iconst (v := 0) hx hb dX0_init_9 (by decide) ?_
  have hPc := hP.sub (ws' := [(h0, .inr (4, [.null, .int 0, .int 0]))]) [0] rfl
  have hDc := hD.sub (ws' := [(h0, .inr (4, [.null, .int 0, .int 0]))]) [0] (by decide) rfl
  have hFc := va_free (wc := [(h0, .inr (4, [.null, .int 0, .int 0]))]) hD hS hA [0] rfl
  refine va_callv (va_runI (As := [.ref q2, .int 0, .int 0]) (rest := []) ⟨hx, hb, hml, hown, hts⟩ (c_X10_init_X0 l D y H.size h0 q2 0 0) (cwI 3 hts gz_c_X0_init_1024_c_X10_init_X0 rfl rfl rfl (hts (.initialized RX10) (by decide +kernel)) (hts (.methodLink RX0 7 yX10_init) (by decide +kernel)) (hts (.instanceMethod yX10_init) (by decide +kernel)) rfl (by decide +kernel) ⟨(Nat.le_of_ble_eq_true rfl), (Nat.le_of_ble_eq_true rfl)⟩) (zB.preS hPc hDc hK hN hE hO hT hG hS hFc (fun _ h => nomatch h) (fun _ h => nomatch h) (fun _ h => nomatch h) (fun _ h => nomatch h)) rfl rfl hl.1 rfl (lv_room (Nat.le_of_ble_eq_true rfl)) dX0_init_10 ⟨(Nat.le_of_ble_eq_true rfl), (Nat.le_of_ble_eq_true rfl)⟩) hS (fun q _ h => hFc q h) hFc (fun u t H1 locs ht hvm hw hB hz1 hk1 hS => ?_)
  obtain ⟨hP1, hD1⟩ := hB
  rw [ht] at hP1
  obtain ⟨hP, hD⟩ := va_join (wr := [(q2, .inl (y 0, 1024, .inl (fun _ => 0)))]) (w1 := [(h0, .inr (4, [.ref q2, .int 0, .int 0]))]) hP hD [0] [1] rfl rfl (by decide) (by decide) hk1 hFc hP1 hD1
  generalize H1 = H at hP hS ⊢
  have hP : va_P D vwCl [(q2, .inl (y 0, 1024, .inl (fun _ => 0))), (h0, .inr (4, [.ref q2, .int 0, .int 0]))] H := hP
  have hD : va_D A [(q2, .inl (y 0, 1024, .inl (fun _ => 0))), (h0, .inr (4, [.ref q2, .int 0, .int 0]))] := hD
  have hP9 := hP.sub (ws' := [(h0, .inr (4, [.ref q2, .int 0, .int 0])), (q2, .inl (y 0, 1024, .inl (fun _ => 0)))]) [1, 0] rfl
  have hD9 := hD.sub (ws' := [(h0, .inr (4, [.ref q2, .int 0, .int 0])), (q2, .inl (y 0, 1024, .inl (fun _ => 0)))]) [1, 0] (by decide) rfl
  refine W.widen (k := 1) (n := 1024) (Nat.le_of_ble_eq_true rfl) (Nat.le_of_ble_eq_true rfl) ?_
  exact W.vret hx hb hr (fun t ht hW => ⟨⟨(), rfl, trivial, q2, by rw [ht]; exact hP9, hD9⟩, hS.F ht⟩) hS.2.2 dX0_init_13
def wz_c_X0_init_256 : List Cond := .code yX0_init cX0_init 2 none :: ([.methodLink RX0 1 Lib.Math.max.name, .static Lib.Math.max.name, .initialized "java/lang/Math", .code Lib.Math.max.name Lib.Math.max.code 2 (some .int), .arrayClass .byte, .initialized RX10, .methodLink RX0 7 yX10_init, .instanceMethod yX10_init] ++ (wz_c_X10_init_X0 ++ ([])))
set_option maxRecDepth 100000 in
theorem gz_c_X0_init_256_c_X10_init_X0 : GoodIn wz_c_X0_init_256 wz_c_X10_init_X0 := goodIn_sub (fun w h => List.mem_cons_of_mem _ (List.mem_append_right _ (List.mem_append_left _ h))) (by decide +kernel)
set_option maxHeartbeats 4000000 in
set_option maxRecDepth 100000 in
theorem c_X0_init_256 (l : Launch) (D : va_G) (y : Nat → ClassId) (sz : Nat) (h0 : Nat) : Met l yX0_init wz_c_X0_init_256 ({ frames := 2, cells := 1, slots := 256, locals := 35 }) (va_Pc [.ref h0, .int 256] (zB D y [(h0, .inr (4, [.null, .int 0, .int 0]))] sz [] [] [] [])) (va_Qv (fun _ : Unit => True) (fun _ t => ∃ q2 : Nat, va_P D vwCl [(h0, .inr (4, [.ref q2, .int 0, .int 0])), (q2, .inl (y 0, 256, .inl (fun _ => 0)))] t.heap ∧ va_D (va_A [(h0, .inr (4, [.null, .int 0, .int 0]))] sz) [(h0, .inr (4, [.ref q2, .int 0, .int 0])), (q2, .inl (y 0, 256, .inl (fun _ => 0)))]) (va_A [(h0, .inr (4, [.null, .int 0, .int 0]))] sz)) 1 256 (va_A [(h0, .inr (4, [.null, .int 0, .int 0]))] sz) := by
  refine Met.ofW (cc := cX0_init) (maxL := 2) (ret := none) (by decide) rfl ?_
  intro p e s m args below meth c s₁ B hml hv
  obtain ⟨rfl, hsz, hP, hK, hD0, hN, hE, hO, hT, hG⟩ := hv
  have hx := B.exec
  have hb := B.bytes
  have hr := B.returns
  have hts := atoms_spec (ws := wz_c_X0_init_256) B.pre
  have hown : s.vm.findClass RX0 = some m.cls := findClass_of_methodNamed B.named
  have hlocks := B.notSynchronized
  have hin : meth.name = "<init>" := (name_of_methodNamed B.named B.method).1
  subst hsz
  have hD := hD0.self (sz := s.heap.size)
  generalize hAe : va_A [(h0, .inr (4, [.null, .int 0, .int 0]))] s.heap.size = A at hD hE hT hG ⊢
  have hA : ∀ q : Nat, s.heap.size ≤ q → A q := fun q h => by rw [← hAe]; exact Or.inr h
  have hS : va_S A s.heap s.heap [] := va_S.rf
  have hl := lv_entry ([.ref h0, .int 256]) (n := 2) (Nat.le_of_ble_eq_true rfl)
  rw [lg_entry_eq]
  generalize (lg_sl ([.ref h0, .int 256]) ++ List.replicate (2 - (lg_sl ([.ref h0, .int 256])).length) Slot.unset).toArray = ls at hl ⊢
  have hl : lv_has ls 2 [(0, .ref h0), (1, .int 256)] := hl
  refine lv_aload_n hx hb dX0_init_0 rfl (lv_at hl 0 rfl) ?_
  refine lv_iload_n hx hb dX0_init_1 rfl (lv_at hl 1 rfl) ?_
  refine lv_iconst (v := 1) hx hb dX0_init_2 (by decide) ?_
  refine va_mmax hx hb (hml.trans hl.1.symm) hown (hts (.methodLink RX0 1 Lib.Math.max.name) (by decide +kernel)) (hts (.static Lib.Math.max.name) (by decide +kernel)) (hts (.initialized "java/lang/Math") (by decide +kernel)) (hts (.code Lib.Math.max.name Lib.Math.max.code 2 (some .int)) (by decide +kernel)) (Nat.le_of_ble_eq_true rfl) (Nat.le_of_ble_eq_true rfl) (Nat.le_of_ble_eq_true rfl) (Nat.le_of_ble_eq_true rfl) dX0_init_3 ?_
  refine lv_topi (fun v1 ev1 => ?_)
  have ev1 : v1 = 256 := ev1.trans (by decide +kernel)
  subst ev1
  refine zz_newa (atype := .byte) (n := 256) (N' := 256) (a0 := (256, .inl (fun _ => 0))) (ty := .byte) hx hb (hts (.arrayClass .byte) (by decide +kernel)) rfl hK 0 rfl hP hD hS hA (zz_aB 256) (by decide +kernel) (by decide +kernel) (by decide +kernel) (Nat.le_of_ble_eq_true rfl) (Nat.le_of_ble_eq_true rfl) dX0_init_6 (fun q2 H hP hD hS => ?_)
  have hP : va_P D vwCl [(h0, .inr (4, [.null, .int 0, .int 0])), (q2, .inl (y 0, 256, .inl (fun _ => 0)))] H := hP
  have hD : va_D A [(h0, .inr (4, [.null, .int 0, .int 0])), (q2, .inl (y 0, 256, .inl (fun _ => 0)))] := hD
  refine lv_iconst (v := 0) hx hb dX0_init_8 (by decide) ?_
  refine lv_iconst (v := 0) hx hb dX0_init_9 (by decide) ?_
  have hPc := hP.sub (ws' := [(h0, .inr (4, [.null, .int 0, .int 0]))]) [0] rfl
  have hDc := hD.sub (ws' := [(h0, .inr (4, [.null, .int 0, .int 0]))]) [0] (by decide) rfl
  have hFc := va_free (wc := [(h0, .inr (4, [.null, .int 0, .int 0]))]) hD hS hA [0] rfl
  refine va_callv (va_runI (As := [.ref q2, .int 0, .int 0]) (rest := []) ⟨hx, hb, hml, hown, hts⟩ (c_X10_init_X0 l D y H.size h0 q2 0 0) (cwI 3 hts gz_c_X0_init_256_c_X10_init_X0 rfl rfl rfl (hts (.initialized RX10) (by decide +kernel)) (hts (.methodLink RX0 7 yX10_init) (by decide +kernel)) (hts (.instanceMethod yX10_init) (by decide +kernel)) rfl (by decide +kernel) ⟨(Nat.le_of_ble_eq_true rfl), (Nat.le_of_ble_eq_true rfl)⟩) (zB.preS hPc hDc hK hN hE hO hT hG hS hFc (fun _ h => nomatch h) (fun _ h => nomatch h) (fun _ h => nomatch h) (fun _ h => nomatch h)) rfl rfl hl.1 rfl (lv_room (Nat.le_of_ble_eq_true rfl)) dX0_init_10 ⟨(Nat.le_of_ble_eq_true rfl), (Nat.le_of_ble_eq_true rfl)⟩) hS (fun q _ h => hFc q h) hFc (fun u t H1 locs ht hvm hw hB hz1 hk1 hS => ?_)
  obtain ⟨hP1, hD1⟩ := hB
  rw [ht] at hP1
  obtain ⟨hP, hD⟩ := va_join (wr := [(q2, .inl (y 0, 256, .inl (fun _ => 0)))]) (w1 := [(h0, .inr (4, [.ref q2, .int 0, .int 0]))]) hP hD [0] [1] rfl rfl (by decide) (by decide) hk1 hFc hP1 hD1
  generalize H1 = H at hP hS ⊢
  have hP : va_P D vwCl [(q2, .inl (y 0, 256, .inl (fun _ => 0))), (h0, .inr (4, [.ref q2, .int 0, .int 0]))] H := hP
  have hD : va_D A [(q2, .inl (y 0, 256, .inl (fun _ => 0))), (h0, .inr (4, [.ref q2, .int 0, .int 0]))] := hD
  have hP9 := hP.sub (ws' := [(h0, .inr (4, [.ref q2, .int 0, .int 0])), (q2, .inl (y 0, 256, .inl (fun _ => 0)))]) [1, 0] rfl
  have hD9 := hD.sub (ws' := [(h0, .inr (4, [.ref q2, .int 0, .int 0])), (q2, .inl (y 0, 256, .inl (fun _ => 0)))]) [1, 0] (by decide) rfl
  refine W.widen (k := 1) (n := 256) (Nat.le_of_ble_eq_true rfl) (Nat.le_of_ble_eq_true rfl) ?_
  exact W.vret hx hb hr (fun t ht hW => ⟨⟨(), rfl, trivial, q2, by rw [ht]; exact hP9, hD9⟩, hS.F ht⟩) hS.2.2 dX0_init_13
def wz_c_X0_init_128 : List Cond := .code yX0_init cX0_init 2 none :: ([.methodLink RX0 1 Lib.Math.max.name, .static Lib.Math.max.name, .initialized "java/lang/Math", .code Lib.Math.max.name Lib.Math.max.code 2 (some .int), .arrayClass .byte, .initialized RX10, .methodLink RX0 7 yX10_init, .instanceMethod yX10_init] ++ (wz_c_X10_init_X0 ++ ([])))
set_option maxRecDepth 100000 in
theorem gz_c_X0_init_128_c_X10_init_X0 : GoodIn wz_c_X0_init_128 wz_c_X10_init_X0 := goodIn_sub (fun w h => List.mem_cons_of_mem _ (List.mem_append_right _ (List.mem_append_left _ h))) (by decide +kernel)
set_option maxHeartbeats 4000000 in
set_option maxRecDepth 100000 in
theorem c_X0_init_128 (l : Launch) (D : va_G) (y : Nat → ClassId) (sz : Nat) (h0 : Nat) : Met l yX0_init wz_c_X0_init_128 ({ frames := 2, cells := 1, slots := 128, locals := 35 }) (va_Pc [.ref h0, .int 128] (zB D y [(h0, .inr (4, [.null, .int 0, .int 0]))] sz [] [] [] [])) (va_Qv (fun _ : Unit => True) (fun _ t => ∃ q2 : Nat, va_P D vwCl [(h0, .inr (4, [.ref q2, .int 0, .int 0])), (q2, .inl (y 0, 128, .inl (fun _ => 0)))] t.heap ∧ va_D (va_A [(h0, .inr (4, [.null, .int 0, .int 0]))] sz) [(h0, .inr (4, [.ref q2, .int 0, .int 0])), (q2, .inl (y 0, 128, .inl (fun _ => 0)))]) (va_A [(h0, .inr (4, [.null, .int 0, .int 0]))] sz)) 1 128 (va_A [(h0, .inr (4, [.null, .int 0, .int 0]))] sz) := by
  refine Met.ofW (cc := cX0_init) (maxL := 2) (ret := none) (by decide) rfl ?_
  intro p e s m args below meth c s₁ B hml hv
  obtain ⟨rfl, hsz, hP, hK, hD0, hN, hE, hO, hT, hG⟩ := hv
  have hx := B.exec
  have hb := B.bytes
  have hr := B.returns
  have hts := atoms_spec (ws := wz_c_X0_init_128) B.pre
  have hown : s.vm.findClass RX0 = some m.cls := findClass_of_methodNamed B.named
  have hlocks := B.notSynchronized
  have hin : meth.name = "<init>" := (name_of_methodNamed B.named B.method).1
  subst hsz
  have hD := hD0.self (sz := s.heap.size)
  generalize hAe : va_A [(h0, .inr (4, [.null, .int 0, .int 0]))] s.heap.size = A at hD hE hT hG ⊢
  have hA : ∀ q : Nat, s.heap.size ≤ q → A q := fun q h => by rw [← hAe]; exact Or.inr h
  have hS : va_S A s.heap s.heap [] := va_S.rf
  have hl := lv_entry ([.ref h0, .int 128]) (n := 2) (Nat.le_of_ble_eq_true rfl)
  rw [lg_entry_eq]
  generalize (lg_sl ([.ref h0, .int 128]) ++ List.replicate (2 - (lg_sl ([.ref h0, .int 128])).length) Slot.unset).toArray = ls at hl ⊢
  have hl : lv_has ls 2 [(0, .ref h0), (1, .int 128)] := hl
  refine lv_aload_n hx hb dX0_init_0 rfl (lv_at hl 0 rfl) ?_
  refine lv_iload_n hx hb dX0_init_1 rfl (lv_at hl 1 rfl) ?_
  refine lv_iconst (v := 1) hx hb dX0_init_2 (by decide) ?_
  refine va_mmax hx hb (hml.trans hl.1.symm) hown (hts (.methodLink RX0 1 Lib.Math.max.name) (by decide +kernel)) (hts (.static Lib.Math.max.name) (by decide +kernel)) (hts (.initialized "java/lang/Math") (by decide +kernel)) (hts (.code Lib.Math.max.name Lib.Math.max.code 2 (some .int)) (by decide +kernel)) (Nat.le_of_ble_eq_true rfl) (Nat.le_of_ble_eq_true rfl) (Nat.le_of_ble_eq_true rfl) (Nat.le_of_ble_eq_true rfl) dX0_init_3 ?_
  refine lv_topi (fun v1 ev1 => ?_)
  have ev1 : v1 = 128 := ev1.trans (by decide +kernel)
  subst ev1
  refine zz_newa (atype := .byte) (n := 128) (N' := 128) (a0 := (128, .inl (fun _ => 0))) (ty := .byte) hx hb (hts (.arrayClass .byte) (by decide +kernel)) rfl hK 0 rfl hP hD hS hA (zz_aB 128) (by decide +kernel) (by decide +kernel) (by decide +kernel) (Nat.le_of_ble_eq_true rfl) (Nat.le_of_ble_eq_true rfl) dX0_init_6 (fun q2 H hP hD hS => ?_)
  have hP : va_P D vwCl [(h0, .inr (4, [.null, .int 0, .int 0])), (q2, .inl (y 0, 128, .inl (fun _ => 0)))] H := hP
  have hD : va_D A [(h0, .inr (4, [.null, .int 0, .int 0])), (q2, .inl (y 0, 128, .inl (fun _ => 0)))] := hD
  refine lv_iconst (v := 0) hx hb dX0_init_8 (by decide) ?_
  refine lv_iconst (v := 0) hx hb dX0_init_9 (by decide) ?_
  have hPc := hP.sub (ws' := [(h0, .inr (4, [.null, .int 0, .int 0]))]) [0] rfl
  have hDc := hD.sub (ws' := [(h0, .inr (4, [.null, .int 0, .int 0]))]) [0] (by decide) rfl
  have hFc := va_free (wc := [(h0, .inr (4, [.null, .int 0, .int 0]))]) hD hS hA [0] rfl
  refine va_callv (va_runI (As := [.ref q2, .int 0, .int 0]) (rest := []) ⟨hx, hb, hml, hown, hts⟩ (c_X10_init_X0 l D y H.size h0 q2 0 0) (cwI 3 hts gz_c_X0_init_128_c_X10_init_X0 rfl rfl rfl (hts (.initialized RX10) (by decide +kernel)) (hts (.methodLink RX0 7 yX10_init) (by decide +kernel)) (hts (.instanceMethod yX10_init) (by decide +kernel)) rfl (by decide +kernel) ⟨(Nat.le_of_ble_eq_true rfl), (Nat.le_of_ble_eq_true rfl)⟩) (zB.preS hPc hDc hK hN hE hO hT hG hS hFc (fun _ h => nomatch h) (fun _ h => nomatch h) (fun _ h => nomatch h) (fun _ h => nomatch h)) rfl rfl hl.1 rfl (lv_room (Nat.le_of_ble_eq_true rfl)) dX0_init_10 ⟨(Nat.le_of_ble_eq_true rfl), (Nat.le_of_ble_eq_true rfl)⟩) hS (fun q _ h => hFc q h) hFc (fun u t H1 locs ht hvm hw hB hz1 hk1 hS => ?_)
  obtain ⟨hP1, hD1⟩ := hB
  rw [ht] at hP1
  obtain ⟨hP, hD⟩ := va_join (wr := [(q2, .inl (y 0, 128, .inl (fun _ => 0)))]) (w1 := [(h0, .inr (4, [.ref q2, .int 0, .int 0]))]) hP hD [0] [1] rfl rfl (by decide) (by decide) hk1 hFc hP1 hD1
  generalize H1 = H at hP hS ⊢
  have hP : va_P D vwCl [(q2, .inl (y 0, 128, .inl (fun _ => 0))), (h0, .inr (4, [.ref q2, .int 0, .int 0]))] H := hP
  have hD : va_D A [(q2, .inl (y 0, 128, .inl (fun _ => 0))), (h0, .inr (4, [.ref q2, .int 0, .int 0]))] := hD
  have hP9 := hP.sub (ws' := [(h0, .inr (4, [.ref q2, .int 0, .int 0])), (q2, .inl (y 0, 128, .inl (fun _ => 0)))]) [1, 0] rfl
  have hD9 := hD.sub (ws' := [(h0, .inr (4, [.ref q2, .int 0, .int 0])), (q2, .inl (y 0, 128, .inl (fun _ => 0)))]) [1, 0] (by decide) rfl
  refine W.widen (k := 1) (n := 128) (Nat.le_of_ble_eq_true rfl) (Nat.le_of_ble_eq_true rfl) ?_
  exact W.vret hx hb hr (fun t ht hW => ⟨⟨(), rfl, trivial, q2, by rw [ht]; exact hP9, hD9⟩, hS.F ht⟩) hS.2.2 dX0_init_13
def wz_c_X1_init : List Cond := .code yX1_init cX1_init 1 none :: ([.methodLink RX1 3 objectInit, .instanceMethod objectInit, .code objectInit ⟨#[0xb1]⟩ 1 none, .arrayClass .int, .fieldLink RX1 9 "SignetRing$Digest" "state" "[I", .fieldLink RX1 15 "SignetRing$Digest" "words" "[I"] ++ (wsX10 ++ ([])))
set_option maxHeartbeats 4000000 in
set_option maxRecDepth 100000 in
theorem c_X1_init (l : Launch) (D : va_G) (y : Nat → ClassId) (sz : Nat) (h0 : Nat) : Met l yX1_init wz_c_X1_init ({ frames := 1, cells := 2, slots := 88, locals := 12 }) (va_Pc [.ref h0] (zB D y [(h0, .inr (5, [.null, .null, .int 0]))] sz [] [] [] [])) (va_Qv (fun _ : Unit => True) (fun _ t => ∃ q1 q2 : Nat, va_P D vwCl [(h0, .inr (5, [.ref q1, .ref q2, .int 0])), (q1, .inl (y 1, 8, .inl (fun _ => 0))), (q2, .inl (y 1, 80, .inl (fun _ => 0)))] t.heap ∧ va_D (va_A [(h0, .inr (5, [.null, .null, .int 0]))] sz) [(h0, .inr (5, [.ref q1, .ref q2, .int 0])), (q1, .inl (y 1, 8, .inl (fun _ => 0))), (q2, .inl (y 1, 80, .inl (fun _ => 0)))]) (va_A [(h0, .inr (5, [.null, .null, .int 0]))] sz)) 2 88 (va_A [(h0, .inr (5, [.null, .null, .int 0]))] sz) := by
  refine Met.ofW (cc := cX1_init) (maxL := 1) (ret := none) (by decide) rfl ?_
  intro p e s m args below meth c s₁ B hml hv
  obtain ⟨rfl, hsz, hP, hK, hD0, hN, hE, hO, hT, hG⟩ := hv
  have hx := B.exec
  have hb := B.bytes
  have hr := B.returns
  have hts := atoms_spec (ws := wz_c_X1_init) B.pre
  have hown : s.vm.findClass RX1 = some m.cls := findClass_of_methodNamed B.named
  have hlocks := B.notSynchronized
  have hin : meth.name = "<init>" := (name_of_methodNamed B.named B.method).1
  subst hsz
  have hD := hD0.self (sz := s.heap.size)
  generalize hAe : va_A [(h0, .inr (5, [.null, .null, .int 0]))] s.heap.size = A at hD hE hT hG ⊢
  have hA : ∀ q : Nat, s.heap.size ≤ q → A q := fun q h => by rw [← hAe]; exact Or.inr h
  have hS : va_S A s.heap s.heap [] := va_S.rf
  have hl := lv_entry ([.ref h0]) (n := 1) (Nat.le_of_ble_eq_true rfl)
  rw [lg_entry_eq]
  generalize (lg_sl ([.ref h0]) ++ List.replicate (1 - (lg_sl ([.ref h0])).length) Slot.unset).toArray = ls at hl ⊢
  have hl : lv_has ls 1 [(0, .ref h0)] := hl
  refine lv_aload_n hx hb dX1_init_0 rfl (lv_at hl 0 rfl) ?_
  refine W.objInit hx hb hown (hts (.methodLink RX1 3 objectInit) (by decide +kernel)) (hts (.instanceMethod objectInit) (by decide +kernel)) (hts (.code objectInit ⟨#[0xb1]⟩ 1 none) (by decide +kernel)) rfl (by rw [hml]; exact hl.1) rfl dX1_init_1 (Nat.le_of_ble_eq_true rfl) (Nat.le_of_ble_eq_true rfl) ?_
  refine W.eq (g2 := F0 m 4 ls []) rfl ?_
  refine lv_aload_n hx hb dX1_init_4 rfl (lv_at hl 0 rfl) ?_
  refine lv_bipush (v := 8) hx hb dX1_init_5 (by decide) ?_
  refine zz_newa (atype := .int) (n := 8) (N' := 8) (a0 := (8, .inl (fun _ => 0))) (ty := .int) hx hb (hts (.arrayClass .int) (by decide +kernel)) rfl hK 1 rfl hP hD hS hA (zz_aI 8) (by decide +kernel) (by decide +kernel) (by decide +kernel) (Nat.le_of_ble_eq_true rfl) (Nat.le_of_ble_eq_true rfl) dX1_init_7 (fun q1 H hP hD hS => ?_)
  have hP : va_P D vwCl [(h0, .inr (5, [.null, .null, .int 0])), (q1, .inl (y 1, 8, .inl (fun _ => 0)))] H := hP
  have hD : va_D A [(h0, .inr (5, [.null, .null, .int 0])), (q1, .inl (y 1, 8, .inl (fun _ => 0)))] := hD
  refine va_putF (D := D) (ci := 5) (v := .ref q1) (ty := (.array .int)) (C := RX1) (T := TX1) (N := 3) hx hb hts (by decide +kernel) tyX1 tyX1_ok nmX1 hown hK hP hD hS 0 rfl rfl 0 (by decide) (hts (.fieldLink RX1 9 "SignetRing$Digest" "state" "[I") (by decide +kernel)) (fun _ h9 => h9) rfl hin rfl (by decide +kernel) rfl rfl (Nat.le_of_ble_eq_true rfl) dX1_init_9 (fun H locs hP hD hS => ?_)
  have hP : va_P D vwCl [(h0, .inr (5, [.ref q1, .null, .int 0])), (q1, .inl (y 1, 8, .inl (fun _ => 0)))] H := hP
  have hD : va_D A [(h0, .inr (5, [.ref q1, .null, .int 0])), (q1, .inl (y 1, 8, .inl (fun _ => 0)))] := hD
  refine lv_aload_n hx hb dX1_init_12 rfl (lv_at hl 0 rfl) ?_
  refine lv_bipush (v := 80) hx hb dX1_init_13 (by decide) ?_
  refine zz_newa (atype := .int) (n := 80) (N' := 80) (a0 := (80, .inl (fun _ => 0))) (ty := .int) hx hb (hts (.arrayClass .int) (by decide +kernel)) rfl hK 1 rfl hP hD hS hA (zz_aI 80) (by decide +kernel) (by decide +kernel) (by decide +kernel) (Nat.le_of_ble_eq_true rfl) (Nat.le_of_ble_eq_true rfl) dX1_init_15 (fun q2 H hP hD hS => ?_)
  have hP : va_P D vwCl [(h0, .inr (5, [.ref q1, .null, .int 0])), (q1, .inl (y 1, 8, .inl (fun _ => 0))), (q2, .inl (y 1, 80, .inl (fun _ => 0)))] H := hP
  have hD : va_D A [(h0, .inr (5, [.ref q1, .null, .int 0])), (q1, .inl (y 1, 8, .inl (fun _ => 0))), (q2, .inl (y 1, 80, .inl (fun _ => 0)))] := hD
  refine va_putF (D := D) (ci := 5) (v := .ref q2) (ty := (.array .int)) (C := RX1) (T := TX1) (N := 3) hx hb hts (by decide +kernel) tyX1 tyX1_ok nmX1 hown hK hP hD hS 0 rfl rfl 1 (by decide) (hts (.fieldLink RX1 15 "SignetRing$Digest" "words" "[I") (by decide +kernel)) (fun _ h9 => h9) rfl hin rfl (by decide +kernel) rfl rfl (Nat.le_of_ble_eq_true rfl) dX1_init_17 (fun H locs hP hD hS => ?_)
  have hP : va_P D vwCl [(h0, .inr (5, [.ref q1, .ref q2, .int 0])), (q1, .inl (y 1, 8, .inl (fun _ => 0))), (q2, .inl (y 1, 80, .inl (fun _ => 0)))] H := hP
  have hD : va_D A [(h0, .inr (5, [.ref q1, .ref q2, .int 0])), (q1, .inl (y 1, 8, .inl (fun _ => 0))), (q2, .inl (y 1, 80, .inl (fun _ => 0)))] := hD
  have hP9 := hP.sub (ws' := [(h0, .inr (5, [.ref q1, .ref q2, .int 0])), (q1, .inl (y 1, 8, .inl (fun _ => 0))), (q2, .inl (y 1, 80, .inl (fun _ => 0)))]) [0, 1, 2] rfl
  have hD9 := hD.sub (ws' := [(h0, .inr (5, [.ref q1, .ref q2, .int 0])), (q1, .inl (y 1, 8, .inl (fun _ => 0))), (q2, .inl (y 1, 80, .inl (fun _ => 0)))]) [0, 1, 2] (by decide) rfl
  refine W.widen (k := 2) (n := 88) (Nat.le_of_ble_eq_true rfl) (Nat.le_of_ble_eq_true rfl) ?_
  exact W.vret hx hb hr (fun t ht hW => ⟨⟨(), rfl, trivial, q1, q2, by rw [ht]; exact hP9, hD9⟩, hS.F ht⟩) hS.2.2 dX1_init_20
def wz_c_X4_init : List Cond := .code yX4_init cX4_init 1 none :: ([.methodLink RX4 3 objectInit, .instanceMethod objectInit, .code objectInit ⟨#[0xb1]⟩ 1 none, .classLink RX4 9 RX10, .instantiable RX10 3, .initialized RX10, .arrayClass .byte, .methodLink RX4 11 yX10_init, .instanceMethod yX10_init, .fieldLink RX4 14 "SignetRing$Packets" "body" "LSignetRing$Span;", .classLink RX4 20 RX0, .instantiable RX0 3, .initialized RX0, .methodLink RX4 22 yX0_init, .instanceMethod yX0_init, .fieldLink RX4 25 "SignetRing$Packets" "parts" "LSignetRing$Bytes;", .fieldLink RX4 29 "SignetRing$Packets" "in" "LSignetRing$Span;"] ++ (wsX100 ++ (wsX40 ++ (wsX00 ++ (wz_c_X10_init_X10 ++ (wz_c_X0_init_256 ++ ([])))))))
set_option maxRecDepth 100000 in
theorem gz_c_X4_init_c_X10_init_X10 : GoodIn wz_c_X4_init wz_c_X10_init_X10 := goodIn_sub (fun w h => List.mem_cons_of_mem _ (List.mem_append_right _ (List.mem_append_right _ (List.mem_append_right _ (List.mem_append_right _ (List.mem_append_left _ h)))))) (by decide +kernel)
set_option maxRecDepth 100000 in
theorem gz_c_X4_init_c_X0_init_256 : GoodIn wz_c_X4_init wz_c_X0_init_256 := goodIn_sub (fun w h => List.mem_cons_of_mem _ (List.mem_append_right _ (List.mem_append_right _ (List.mem_append_right _ (List.mem_append_right _ (List.mem_append_right _ (List.mem_append_left _ h))))))) (by decide +kernel)
set_option maxHeartbeats 4000000 in
set_option maxRecDepth 100000 in
theorem c_X4_init (l : Launch) (D : va_G) (y : Nat → ClassId) (sz : Nat) (h0 : Nat) : Met l yX4_init wz_c_X4_init ({ frames := 3, cells := 4, slots := 262, locals := 56 }) (va_Pc [.ref h0] (zB D y [(h0, .inr (8, [.null, .null, .null, .int 0, .int 0, .int 0]))] sz [] [] [] [])) (va_Qv (fun _ : Unit => True) (fun _ t => ∃ q2 q1 q3 q4 : Nat, va_P D vwCl [(h0, .inr (8, [.ref q1, .ref q3, .ref q1, .int 0, .int 0, .int 0])), (q2, .inl (y 0, 0, .inl (fun _ => 0))), (q1, .inr (14, [.ref q2, .int 0, .int 0])), (q3, .inr (4, [.ref q4, .int 0, .int 0])), (q4, .inl (y 0, 256, .inl (fun _ => 0)))] t.heap ∧ va_D (va_A [(h0, .inr (8, [.null, .null, .null, .int 0, .int 0, .int 0]))] sz) [(h0, .inr (8, [.ref q1, .ref q3, .ref q1, .int 0, .int 0, .int 0])), (q2, .inl (y 0, 0, .inl (fun _ => 0))), (q1, .inr (14, [.ref q2, .int 0, .int 0])), (q3, .inr (4, [.ref q4, .int 0, .int 0])), (q4, .inl (y 0, 256, .inl (fun _ => 0)))]) (va_A [(h0, .inr (8, [.null, .null, .null, .int 0, .int 0, .int 0]))] sz)) 4 262 (va_A [(h0, .inr (8, [.null, .null, .null, .int 0, .int 0, .int 0]))] sz) := by
  refine Met.ofW (cc := cX4_init) (maxL := 1) (ret := none) (by decide) rfl ?_
  intro p e s m args below meth c s₁ B hml hv
  obtain ⟨rfl, hsz, hP, hK, hD0, hN, hE, hO, hT, hG⟩ := hv
  have hx := B.exec
  have hb := B.bytes
  have hr := B.returns
  have hts := atoms_spec (ws := wz_c_X4_init) B.pre
  have hown : s.vm.findClass RX4 = some m.cls := findClass_of_methodNamed B.named
  have hlocks := B.notSynchronized
  have hin : meth.name = "<init>" := (name_of_methodNamed B.named B.method).1
  subst hsz
  have hD := hD0.self (sz := s.heap.size)
  generalize hAe : va_A [(h0, .inr (8, [.null, .null, .null, .int 0, .int 0, .int 0]))] s.heap.size = A at hD hE hT hG ⊢
  have hA : ∀ q : Nat, s.heap.size ≤ q → A q := fun q h => by rw [← hAe]; exact Or.inr h
  have hS : va_S A s.heap s.heap [] := va_S.rf
  have hl := lv_entry ([.ref h0]) (n := 1) (Nat.le_of_ble_eq_true rfl)
  rw [lg_entry_eq]
  generalize (lg_sl ([.ref h0]) ++ List.replicate (1 - (lg_sl ([.ref h0])).length) Slot.unset).toArray = ls at hl ⊢
  have hl : lv_has ls 1 [(0, .ref h0)] := hl
  refine lv_aload_n hx hb dX4_init_0 rfl (lv_at hl 0 rfl) ?_
  refine W.objInit hx hb hown (hts (.methodLink RX4 3 objectInit) (by decide +kernel)) (hts (.instanceMethod objectInit) (by decide +kernel)) (hts (.code objectInit ⟨#[0xb1]⟩ 1 none) (by decide +kernel)) rfl (by rw [hml]; exact hl.1) rfl dX4_init_1 (Nat.le_of_ble_eq_true rfl) (Nat.le_of_ble_eq_true rfl) ?_
  refine W.eq (g2 := F0 m 4 ls []) rfl ?_
  refine lv_aload_n hx hb dX4_init_4 rfl (lv_at hl 0 rfl) ?_
  refine va_new (ci := 14) (fs := [.null, .int 0, .int 0]) (C := RX10) (T := TX10) (N := 3) hx hb hts (by decide +kernel) tyX10 tyX10_ok hown (hts (.classLink RX4 9 RX10) (by decide +kernel)) (hts (.instantiable RX10 3) (by decide +kernel)) (hts (.initialized RX10) (by decide +kernel)) hK hP hD hS hA rfl (by decide) (Nat.le_of_ble_eq_true rfl) (Nat.le_of_ble_eq_true rfl) dX4_init_5 (fun q1 H hP hD hS => ?_)
  have hP : va_P D vwCl [(h0, .inr (8, [.null, .null, .null, .int 0, .int 0, .int 0])), (q1, .inr (14, [.null, .int 0, .int 0]))] H := hP
  have hD : va_D A [(h0, .inr (8, [.null, .null, .null, .int 0, .int 0, .int 0])), (q1, .inr (14, [.null, .int 0, .int 0]))] := hD
  refine lv_dup hx hb dX4_init_8 rfl ?_
  refine lv_iconst (v := 0) hx hb dX4_init_9 (by decide) ?_
  refine zz_newa (atype := .byte) (n := 0) (N' := 0) (a0 := (0, .inl (fun _ => 0))) (ty := .byte) hx hb (hts (.arrayClass .byte) (by decide +kernel)) rfl hK 0 rfl hP hD hS hA (zz_aB 0) (by decide +kernel) (by decide +kernel) (by decide +kernel) (Nat.le_of_ble_eq_true rfl) (Nat.le_of_ble_eq_true rfl) dX4_init_10 (fun q2 H hP hD hS => ?_)
  have hP : va_P D vwCl [(h0, .inr (8, [.null, .null, .null, .int 0, .int 0, .int 0])), (q1, .inr (14, [.null, .int 0, .int 0])), (q2, .inl (y 0, 0, .inl (fun _ => 0)))] H := hP
  have hD : va_D A [(h0, .inr (8, [.null, .null, .null, .int 0, .int 0, .int 0])), (q1, .inr (14, [.null, .int 0, .int 0])), (q2, .inl (y 0, 0, .inl (fun _ => 0)))] := hD
  refine lv_iconst (v := 0) hx hb dX4_init_12 (by decide) ?_
  refine lv_iconst (v := 0) hx hb dX4_init_13 (by decide) ?_
  have hPc := hP.sub (ws' := [(q1, .inr (14, [.null, .int 0, .int 0]))]) [1] rfl
  have hDc := hD.sub (ws' := [(q1, .inr (14, [.null, .int 0, .int 0]))]) [1] (by decide) rfl
  have hFc := va_free (wc := [(q1, .inr (14, [.null, .int 0, .int 0]))]) hD hS hA [1] rfl
  refine va_callv (va_runI (As := [.ref q2, .int 0, .int 0]) (rest := [.ref q1, .ref h0]) ⟨hx, hb, hml, hown, hts⟩ (c_X10_init_X10 l D y H.size q1 q2 0 0) (cwI 3 hts gz_c_X4_init_c_X10_init_X10 rfl rfl rfl (hts (.initialized RX10) (by decide +kernel)) (hts (.methodLink RX4 11 yX10_init) (by decide +kernel)) (hts (.instanceMethod yX10_init) (by decide +kernel)) rfl (by decide +kernel) ⟨(Nat.le_of_ble_eq_true rfl), (Nat.le_of_ble_eq_true rfl)⟩) (zB.preS hPc hDc hK hN hE hO hT hG hS hFc (fun _ h => nomatch h) (fun _ h => nomatch h) (fun _ h => nomatch h) (fun _ h => nomatch h)) rfl rfl hl.1 rfl (lv_room (Nat.le_of_ble_eq_true rfl)) dX4_init_14 ⟨(Nat.le_of_ble_eq_true rfl), (Nat.le_of_ble_eq_true rfl)⟩) hS (fun q _ h => hFc q h) hFc (fun u t H1 locs ht hvm hw hB hz1 hk1 hS => ?_)
  obtain ⟨hP1, hD1⟩ := hB
  rw [ht] at hP1
  obtain ⟨hP, hD⟩ := va_join (wr := [(h0, .inr (8, [.null, .null, .null, .int 0, .int 0, .int 0])), (q2, .inl (y 0, 0, .inl (fun _ => 0)))]) (w1 := [(q1, .inr (14, [.ref q2, .int 0, .int 0]))]) hP hD [1] [0, 2] rfl rfl (by decide) (by decide) hk1 hFc hP1 hD1
  generalize H1 = H at hP hS ⊢
  have hP : va_P D vwCl [(h0, .inr (8, [.null, .null, .null, .int 0, .int 0, .int 0])), (q2, .inl (y 0, 0, .inl (fun _ => 0))), (q1, .inr (14, [.ref q2, .int 0, .int 0]))] H := hP
  have hD : va_D A [(h0, .inr (8, [.null, .null, .null, .int 0, .int 0, .int 0])), (q2, .inl (y 0, 0, .inl (fun _ => 0))), (q1, .inr (14, [.ref q2, .int 0, .int 0]))] := hD
  refine va_putF (D := D) (ci := 8) (v := .ref q1) (ty := (.object "SignetRing$Span")) (C := RX4) (T := TX4) (N := 6) hx hb hts (by decide +kernel) tyX4 tyX4_ok nmX4 hown hK hP hD hS 0 rfl rfl 0 (by decide) (hts (.fieldLink RX4 14 "SignetRing$Packets" "body" "LSignetRing$Span;") (by decide +kernel)) (fun _ h9 => h9) rfl hin rfl (by decide +kernel) rfl rfl (Nat.le_of_ble_eq_true rfl) dX4_init_17 (fun H locs hP hD hS => ?_)
  have hP : va_P D vwCl [(h0, .inr (8, [.ref q1, .null, .null, .int 0, .int 0, .int 0])), (q2, .inl (y 0, 0, .inl (fun _ => 0))), (q1, .inr (14, [.ref q2, .int 0, .int 0]))] H := hP
  have hD : va_D A [(h0, .inr (8, [.ref q1, .null, .null, .int 0, .int 0, .int 0])), (q2, .inl (y 0, 0, .inl (fun _ => 0))), (q1, .inr (14, [.ref q2, .int 0, .int 0]))] := hD
  refine lv_aload_n hx hb dX4_init_20 rfl (lv_at hl 0 rfl) ?_
  refine va_new (ci := 4) (fs := [.null, .int 0, .int 0]) (C := RX0) (T := TX0) (N := 3) hx hb hts (by decide +kernel) tyX0 tyX0_ok hown (hts (.classLink RX4 20 RX0) (by decide +kernel)) (hts (.instantiable RX0 3) (by decide +kernel)) (hts (.initialized RX0) (by decide +kernel)) hK hP hD hS hA rfl (by decide) (Nat.le_of_ble_eq_true rfl) (Nat.le_of_ble_eq_true rfl) dX4_init_21 (fun q3 H hP hD hS => ?_)
  have hP : va_P D vwCl [(h0, .inr (8, [.ref q1, .null, .null, .int 0, .int 0, .int 0])), (q2, .inl (y 0, 0, .inl (fun _ => 0))), (q1, .inr (14, [.ref q2, .int 0, .int 0])), (q3, .inr (4, [.null, .int 0, .int 0]))] H := hP
  have hD : va_D A [(h0, .inr (8, [.ref q1, .null, .null, .int 0, .int 0, .int 0])), (q2, .inl (y 0, 0, .inl (fun _ => 0))), (q1, .inr (14, [.ref q2, .int 0, .int 0])), (q3, .inr (4, [.null, .int 0, .int 0]))] := hD
  refine lv_dup hx hb dX4_init_24 rfl ?_
  refine lv_sipush (v := 256) hx hb dX4_init_25 (by decide) ?_
  have hPc := hP.sub (ws' := [(q3, .inr (4, [.null, .int 0, .int 0]))]) [3] rfl
  have hDc := hD.sub (ws' := [(q3, .inr (4, [.null, .int 0, .int 0]))]) [3] (by decide) rfl
  have hFc := va_free (wc := [(q3, .inr (4, [.null, .int 0, .int 0]))]) hD hS hA [3] rfl
  refine va_callv (va_runI (As := [.int 256]) (rest := [.ref q3, .ref h0]) ⟨hx, hb, hml, hown, hts⟩ (c_X0_init_256 l D y H.size q3) (cwI 1 hts gz_c_X4_init_c_X0_init_256 rfl rfl rfl (hts (.initialized RX0) (by decide +kernel)) (hts (.methodLink RX4 22 yX0_init) (by decide +kernel)) (hts (.instanceMethod yX0_init) (by decide +kernel)) rfl (by decide +kernel) ⟨(Nat.le_of_ble_eq_true rfl), (Nat.le_of_ble_eq_true rfl)⟩) (zB.preS hPc hDc hK hN hE hO hT hG hS hFc (fun _ h => nomatch h) (fun _ h => nomatch h) (fun _ h => nomatch h) (fun _ h => nomatch h)) rfl rfl hl.1 rfl (lv_room (Nat.le_of_ble_eq_true rfl)) dX4_init_28 ⟨(Nat.le_of_ble_eq_true rfl), (Nat.le_of_ble_eq_true rfl)⟩) hS (fun q _ h => hFc q h) hFc (fun u t H1 locs ht hvm hw hB hz1 hk1 hS => ?_)
  obtain ⟨q4, hP1, hD1⟩ := hB
  rw [ht] at hP1
  obtain ⟨hP, hD⟩ := va_join (wr := [(h0, .inr (8, [.ref q1, .null, .null, .int 0, .int 0, .int 0])), (q2, .inl (y 0, 0, .inl (fun _ => 0))), (q1, .inr (14, [.ref q2, .int 0, .int 0]))]) (w1 := [(q3, .inr (4, [.ref q4, .int 0, .int 0])), (q4, .inl (y 0, 256, .inl (fun _ => 0)))]) hP hD [3] [0, 1, 2] rfl rfl (by decide) (by decide) hk1 hFc hP1 hD1
  generalize H1 = H at hP hS ⊢
  have hP : va_P D vwCl [(h0, .inr (8, [.ref q1, .null, .null, .int 0, .int 0, .int 0])), (q2, .inl (y 0, 0, .inl (fun _ => 0))), (q1, .inr (14, [.ref q2, .int 0, .int 0])), (q3, .inr (4, [.ref q4, .int 0, .int 0])), (q4, .inl (y 0, 256, .inl (fun _ => 0)))] H := hP
  have hD : va_D A [(h0, .inr (8, [.ref q1, .null, .null, .int 0, .int 0, .int 0])), (q2, .inl (y 0, 0, .inl (fun _ => 0))), (q1, .inr (14, [.ref q2, .int 0, .int 0])), (q3, .inr (4, [.ref q4, .int 0, .int 0])), (q4, .inl (y 0, 256, .inl (fun _ => 0)))] := hD
  refine va_putF (D := D) (ci := 8) (v := .ref q3) (ty := (.object "SignetRing$Bytes")) (C := RX4) (T := TX4) (N := 6) hx hb hts (by decide +kernel) tyX4 tyX4_ok nmX4 hown hK hP hD hS 0 rfl rfl 1 (by decide) (hts (.fieldLink RX4 25 "SignetRing$Packets" "parts" "LSignetRing$Bytes;") (by decide +kernel)) (fun _ h9 => h9) rfl hin rfl (by decide +kernel) rfl rfl (Nat.le_of_ble_eq_true rfl) dX4_init_31 (fun H locs hP hD hS => ?_)
  have hP : va_P D vwCl [(h0, .inr (8, [.ref q1, .ref q3, .null, .int 0, .int 0, .int 0])), (q2, .inl (y 0, 0, .inl (fun _ => 0))), (q1, .inr (14, [.ref q2, .int 0, .int 0])), (q3, .inr (4, [.ref q4, .int 0, .int 0])), (q4, .inl (y 0, 256, .inl (fun _ => 0)))] H := hP
  have hD : va_D A [(h0, .inr (8, [.ref q1, .ref q3, .null, .int 0, .int 0, .int 0])), (q2, .inl (y 0, 0, .inl (fun _ => 0))), (q1, .inr (14, [.ref q2, .int 0, .int 0])), (q3, .inr (4, [.ref q4, .int 0, .int 0])), (q4, .inl (y 0, 256, .inl (fun _ => 0)))] := hD
  refine lv_aload_n hx hb dX4_init_34 rfl (lv_at hl 0 rfl) ?_
  refine lv_aload_n hx hb dX4_init_35 rfl (lv_at hl 0 rfl) ?_
  refine va_get (D := D) (ci := 8) (v := .ref q1) (C := RX4) (T := TX4) (N := 6) hx hb hts (by decide +kernel) hown hK hP 0 rfl rfl 0 (by decide) (hts (.fieldLink RX4 14 "SignetRing$Packets" "body" "LSignetRing$Span;") (by decide +kernel)) (fun _ h9 => h9) rfl dX4_init_36 ?_
  refine va_put (D := D) (ci := 8) (v := .ref q1) (ty := (.object "SignetRing$Span")) (C := RX4) (T := TX4) (N := 6) hx hb hts (by decide +kernel) tyX4 tyX4_ok nmX4 hown hK hP hD hS 0 rfl rfl 2 (by decide) (hts (.fieldLink RX4 29 "SignetRing$Packets" "in" "LSignetRing$Span;") (by decide +kernel)) (fun _ h9 => h9) rfl (by decide +kernel) rfl rfl (Nat.le_of_ble_eq_true rfl) dX4_init_39 (fun H locs hP hD hS => ?_)
  have hP : va_P D vwCl [(h0, .inr (8, [.ref q1, .ref q3, .ref q1, .int 0, .int 0, .int 0])), (q2, .inl (y 0, 0, .inl (fun _ => 0))), (q1, .inr (14, [.ref q2, .int 0, .int 0])), (q3, .inr (4, [.ref q4, .int 0, .int 0])), (q4, .inl (y 0, 256, .inl (fun _ => 0)))] H := hP
  have hD : va_D A [(h0, .inr (8, [.ref q1, .ref q3, .ref q1, .int 0, .int 0, .int 0])), (q2, .inl (y 0, 0, .inl (fun _ => 0))), (q1, .inr (14, [.ref q2, .int 0, .int 0])), (q3, .inr (4, [.ref q4, .int 0, .int 0])), (q4, .inl (y 0, 256, .inl (fun _ => 0)))] := hD
  have hP9 := hP.sub (ws' := [(h0, .inr (8, [.ref q1, .ref q3, .ref q1, .int 0, .int 0, .int 0])), (q2, .inl (y 0, 0, .inl (fun _ => 0))), (q1, .inr (14, [.ref q2, .int 0, .int 0])), (q3, .inr (4, [.ref q4, .int 0, .int 0])), (q4, .inl (y 0, 256, .inl (fun _ => 0)))]) [0, 1, 2, 3, 4] rfl
  have hD9 := hD.sub (ws' := [(h0, .inr (8, [.ref q1, .ref q3, .ref q1, .int 0, .int 0, .int 0])), (q2, .inl (y 0, 0, .inl (fun _ => 0))), (q1, .inr (14, [.ref q2, .int 0, .int 0])), (q3, .inr (4, [.ref q4, .int 0, .int 0])), (q4, .inl (y 0, 256, .inl (fun _ => 0)))]) [0, 1, 2, 3, 4] (by decide) rfl
  refine W.widen (k := 4) (n := 262) (Nat.le_of_ble_eq_true rfl) (Nat.le_of_ble_eq_true rfl) ?_
  exact W.vret hx hb hr (fun t ht hW => ⟨⟨(), rfl, trivial, q2, q1, q3, q4, by rw [ht]; exact hP9, hD9⟩, hS.F ht⟩) hS.2.2 dX4_init_42
def wz_c_X9_init : List Cond := .code yX9_init cX9_init 1 none :: ([.methodLink RX9 3 objectInit, .instanceMethod objectInit, .code objectInit ⟨#[0xb1]⟩ 1 none, .classLink RX9 9 RX0, .instantiable RX0 3, .initialized RX0, .methodLink RX9 11 yX0_init, .instanceMethod yX0_init, .fieldLink RX9 14 "SignetRing$Signs" "plain" "LSignetRing$Bytes;", .fieldLink RX9 20 "SignetRing$Signs" "in" "LSignetRing$Span;"] ++ (wsX00 ++ (wsX90 ++ (wz_c_X0_init_1024 ++ ([])))))
set_option maxRecDepth 100000 in
theorem gz_c_X9_init_c_X0_init_1024 : GoodIn wz_c_X9_init wz_c_X0_init_1024 := goodIn_sub (fun w h => List.mem_cons_of_mem _ (List.mem_append_right _ (List.mem_append_right _ (List.mem_append_right _ (List.mem_append_left _ h))))) (by decide +kernel)
set_option maxHeartbeats 4000000 in
set_option maxRecDepth 100000 in
theorem c_X9_init (l : Launch) (D : va_G) (y : Nat → ClassId) (sz : Nat) (h0 : Nat) : Met l yX9_init wz_c_X9_init ({ frames := 3, cells := 2, slots := 1027, locals := 56 }) (va_Pc [.ref h0] (zB D y [(h0, .inr (13, [.null, .null, .int 0, .int 0, .int 0, .int 0, .int 0]))] sz [] [] [] [])) (va_Qv (fun _ : Unit => True) (fun _ t => ∃ q1 q2 : Nat, va_P D vwCl [(h0, .inr (13, [.ref q1, .ref q1, .int 0, .int 0, .int 0, .int 0, .int 0])), (q1, .inr (4, [.ref q2, .int 0, .int 0])), (q2, .inl (y 0, 1024, .inl (fun _ => 0)))] t.heap ∧ va_D (va_A [(h0, .inr (13, [.null, .null, .int 0, .int 0, .int 0, .int 0, .int 0]))] sz) [(h0, .inr (13, [.ref q1, .ref q1, .int 0, .int 0, .int 0, .int 0, .int 0])), (q1, .inr (4, [.ref q2, .int 0, .int 0])), (q2, .inl (y 0, 1024, .inl (fun _ => 0)))]) (va_A [(h0, .inr (13, [.null, .null, .int 0, .int 0, .int 0, .int 0, .int 0]))] sz)) 2 1027 (va_A [(h0, .inr (13, [.null, .null, .int 0, .int 0, .int 0, .int 0, .int 0]))] sz) := by
  refine Met.ofW (cc := cX9_init) (maxL := 1) (ret := none) (by decide) rfl ?_
  intro p e s m args below meth c s₁ B hml hv
  obtain ⟨rfl, hsz, hP, hK, hD0, hN, hE, hO, hT, hG⟩ := hv
  have hx := B.exec
  have hb := B.bytes
  have hr := B.returns
  have hts := atoms_spec (ws := wz_c_X9_init) B.pre
  have hown : s.vm.findClass RX9 = some m.cls := findClass_of_methodNamed B.named
  have hlocks := B.notSynchronized
  have hin : meth.name = "<init>" := (name_of_methodNamed B.named B.method).1
  subst hsz
  have hD := hD0.self (sz := s.heap.size)
  generalize hAe : va_A [(h0, .inr (13, [.null, .null, .int 0, .int 0, .int 0, .int 0, .int 0]))] s.heap.size = A at hD hE hT hG ⊢
  have hA : ∀ q : Nat, s.heap.size ≤ q → A q := fun q h => by rw [← hAe]; exact Or.inr h
  have hS : va_S A s.heap s.heap [] := va_S.rf
  have hl := lv_entry ([.ref h0]) (n := 1) (Nat.le_of_ble_eq_true rfl)
  rw [lg_entry_eq]
  generalize (lg_sl ([.ref h0]) ++ List.replicate (1 - (lg_sl ([.ref h0])).length) Slot.unset).toArray = ls at hl ⊢
  have hl : lv_has ls 1 [(0, .ref h0)] := hl
  refine lv_aload_n hx hb dX9_init_0 rfl (lv_at hl 0 rfl) ?_
  refine W.objInit hx hb hown (hts (.methodLink RX9 3 objectInit) (by decide +kernel)) (hts (.instanceMethod objectInit) (by decide +kernel)) (hts (.code objectInit ⟨#[0xb1]⟩ 1 none) (by decide +kernel)) rfl (by rw [hml]; exact hl.1) rfl dX9_init_1 (Nat.le_of_ble_eq_true rfl) (Nat.le_of_ble_eq_true rfl) ?_
  refine W.eq (g2 := F0 m 4 ls []) rfl ?_
  refine lv_aload_n hx hb dX9_init_4 rfl (lv_at hl 0 rfl) ?_
  refine va_new (ci := 4) (fs := [.null, .int 0, .int 0]) (C := RX0) (T := TX0) (N := 3) hx hb hts (by decide +kernel) tyX0 tyX0_ok hown (hts (.classLink RX9 9 RX0) (by decide +kernel)) (hts (.instantiable RX0 3) (by decide +kernel)) (hts (.initialized RX0) (by decide +kernel)) hK hP hD hS hA rfl (by decide) (Nat.le_of_ble_eq_true rfl) (Nat.le_of_ble_eq_true rfl) dX9_init_5 (fun q1 H hP hD hS => ?_)
  have hP : va_P D vwCl [(h0, .inr (13, [.null, .null, .int 0, .int 0, .int 0, .int 0, .int 0])), (q1, .inr (4, [.null, .int 0, .int 0]))] H := hP
  have hD : va_D A [(h0, .inr (13, [.null, .null, .int 0, .int 0, .int 0, .int 0, .int 0])), (q1, .inr (4, [.null, .int 0, .int 0]))] := hD
  refine lv_dup hx hb dX9_init_8 rfl ?_
  refine lv_sipush (v := 1024) hx hb dX9_init_9 (by decide) ?_
  have hPc := hP.sub (ws' := [(q1, .inr (4, [.null, .int 0, .int 0]))]) [1] rfl
  have hDc := hD.sub (ws' := [(q1, .inr (4, [.null, .int 0, .int 0]))]) [1] (by decide) rfl
  have hFc := va_free (wc := [(q1, .inr (4, [.null, .int 0, .int 0]))]) hD hS hA [1] rfl
  refine va_callv (va_runI (As := [.int 1024]) (rest := [.ref q1, .ref h0]) ⟨hx, hb, hml, hown, hts⟩ (c_X0_init_1024 l D y H.size q1) (cwI 1 hts gz_c_X9_init_c_X0_init_1024 rfl rfl rfl (hts (.initialized RX0) (by decide +kernel)) (hts (.methodLink RX9 11 yX0_init) (by decide +kernel)) (hts (.instanceMethod yX0_init) (by decide +kernel)) rfl (by decide +kernel) ⟨(Nat.le_of_ble_eq_true rfl), (Nat.le_of_ble_eq_true rfl)⟩) (zB.preS hPc hDc hK hN hE hO hT hG hS hFc (fun _ h => nomatch h) (fun _ h => nomatch h) (fun _ h => nomatch h) (fun _ h => nomatch h)) rfl rfl hl.1 rfl (lv_room (Nat.le_of_ble_eq_true rfl)) dX9_init_12 ⟨(Nat.le_of_ble_eq_true rfl), (Nat.le_of_ble_eq_true rfl)⟩) hS (fun q _ h => hFc q h) hFc (fun u t H1 locs ht hvm hw hB hz1 hk1 hS => ?_)
  obtain ⟨q2, hP1, hD1⟩ := hB
  rw [ht] at hP1
  obtain ⟨hP, hD⟩ := va_join (wr := [(h0, .inr (13, [.null, .null, .int 0, .int 0, .int 0, .int 0, .int 0]))]) (w1 := [(q1, .inr (4, [.ref q2, .int 0, .int 0])), (q2, .inl (y 0, 1024, .inl (fun _ => 0)))]) hP hD [1] [0] rfl rfl (by decide) (by decide) hk1 hFc hP1 hD1
  generalize H1 = H at hP hS ⊢
  have hP : va_P D vwCl [(h0, .inr (13, [.null, .null, .int 0, .int 0, .int 0, .int 0, .int 0])), (q1, .inr (4, [.ref q2, .int 0, .int 0])), (q2, .inl (y 0, 1024, .inl (fun _ => 0)))] H := hP
  have hD : va_D A [(h0, .inr (13, [.null, .null, .int 0, .int 0, .int 0, .int 0, .int 0])), (q1, .inr (4, [.ref q2, .int 0, .int 0])), (q2, .inl (y 0, 1024, .inl (fun _ => 0)))] := hD
  refine va_putF (D := D) (ci := 13) (v := .ref q1) (ty := (.object "SignetRing$Bytes")) (C := RX9) (T := TX9) (N := 7) hx hb hts (by decide +kernel) tyX9 tyX9_ok nmX9 hown hK hP hD hS 0 rfl rfl 0 (by decide) (hts (.fieldLink RX9 14 "SignetRing$Signs" "plain" "LSignetRing$Bytes;") (by decide +kernel)) (fun _ h9 => h9) rfl hin rfl (by decide +kernel) rfl rfl (Nat.le_of_ble_eq_true rfl) dX9_init_15 (fun H locs hP hD hS => ?_)
  have hP : va_P D vwCl [(h0, .inr (13, [.ref q1, .null, .int 0, .int 0, .int 0, .int 0, .int 0])), (q1, .inr (4, [.ref q2, .int 0, .int 0])), (q2, .inl (y 0, 1024, .inl (fun _ => 0)))] H := hP
  have hD : va_D A [(h0, .inr (13, [.ref q1, .null, .int 0, .int 0, .int 0, .int 0, .int 0])), (q1, .inr (4, [.ref q2, .int 0, .int 0])), (q2, .inl (y 0, 1024, .inl (fun _ => 0)))] := hD
  refine lv_aload_n hx hb dX9_init_18 rfl (lv_at hl 0 rfl) ?_
  refine lv_aload_n hx hb dX9_init_19 rfl (lv_at hl 0 rfl) ?_
  refine va_get (D := D) (ci := 13) (v := .ref q1) (C := RX9) (T := TX9) (N := 7) hx hb hts (by decide +kernel) hown hK hP 0 rfl rfl 0 (by decide) (hts (.fieldLink RX9 14 "SignetRing$Signs" "plain" "LSignetRing$Bytes;") (by decide +kernel)) (fun _ h9 => h9) rfl dX9_init_20 ?_
  refine va_put (D := D) (ci := 13) (v := .ref q1) (ty := (.object "SignetRing$Span")) (C := RX9) (T := TX9) (N := 7) hx hb hts (by decide +kernel) tyX9 tyX9_ok nmX9 hown hK hP hD hS 0 rfl rfl 1 (by decide) (hts (.fieldLink RX9 20 "SignetRing$Signs" "in" "LSignetRing$Span;") (by decide +kernel)) (fun _ h9 => h9) rfl (by decide +kernel) rfl rfl (Nat.le_of_ble_eq_true rfl) dX9_init_23 (fun H locs hP hD hS => ?_)
  have hP : va_P D vwCl [(h0, .inr (13, [.ref q1, .ref q1, .int 0, .int 0, .int 0, .int 0, .int 0])), (q1, .inr (4, [.ref q2, .int 0, .int 0])), (q2, .inl (y 0, 1024, .inl (fun _ => 0)))] H := hP
  have hD : va_D A [(h0, .inr (13, [.ref q1, .ref q1, .int 0, .int 0, .int 0, .int 0, .int 0])), (q1, .inr (4, [.ref q2, .int 0, .int 0])), (q2, .inl (y 0, 1024, .inl (fun _ => 0)))] := hD
  have hP9 := hP.sub (ws' := [(h0, .inr (13, [.ref q1, .ref q1, .int 0, .int 0, .int 0, .int 0, .int 0])), (q1, .inr (4, [.ref q2, .int 0, .int 0])), (q2, .inl (y 0, 1024, .inl (fun _ => 0)))]) [0, 1, 2] rfl
  have hD9 := hD.sub (ws' := [(h0, .inr (13, [.ref q1, .ref q1, .int 0, .int 0, .int 0, .int 0, .int 0])), (q1, .inr (4, [.ref q2, .int 0, .int 0])), (q2, .inl (y 0, 1024, .inl (fun _ => 0)))]) [0, 1, 2] (by decide) rfl
  refine W.widen (k := 2) (n := 1027) (Nat.le_of_ble_eq_true rfl) (Nat.le_of_ble_eq_true rfl) ?_
  exact W.vret hx hb hr (fun t ht hW => ⟨⟨(), rfl, trivial, q1, q2, by rw [ht]; exact hP9, hD9⟩, hS.F ht⟩) hS.2.2 dX9_init_26
def wz_c_X6_init : List Cond := .code yX6_init cX6_init 1 none :: ([.methodLink RX6 3 objectInit, .instanceMethod objectInit, .code objectInit ⟨#[0xb1]⟩ 1 none, .arrayClass .long, .fieldLink RX6 9 "SignetRing$Power" "modulus" "[J", .fieldLink RX6 13 "SignetRing$Power" "quotient" "[J", .fieldLink RX6 16 "SignetRing$Power" "one" "[J", .fieldLink RX6 19 "SignetRing$Power" "unit" "[J", .fieldLink RX6 22 "SignetRing$Power" "square" "[J", .fieldLink RX6 25 "SignetRing$Power" "base" "[J", .fieldLink RX6 28 "SignetRing$Power" "power" "[J", .fieldLink RX6 31 "SignetRing$Power" "limbs" "I"] ++ (wsX60 ++ ([])))
set_option maxHeartbeats 4000000 in
set_option maxRecDepth 100000 in
theorem c_X6_init (l : Launch) (D : va_G) (y : Nat → ClassId) (sz : Nat) (h0 : Nat) : Met l yX6_init wz_c_X6_init ({ frames := 1, cells := 7, slots := 266, locals := 12 }) (va_Pc [.ref h0] (zB D y [(h0, .inr (10, [.null, .null, .null, .null, .null, .null, .null, .null, .int 0, .int 0, .long 0]))] sz [] [] [] [])) (va_Qv (fun _ : Unit => True) (fun _ t => ∃ q1 q2 q3 q4 q5 q6 q7 : Nat, va_P D vwCl [(h0, .inr (10, [.ref q1, .ref q2, .ref q3, .ref q4, .ref q5, .ref q6, .ref q7, .null, .int 1, .int 0, .long 0])), (q1, .inl (y 2, 38, .inr (.inl (fun _ => 0)))), (q2, .inl (y 2, 38, .inr (.inl (fun _ => 0)))), (q3, .inl (y 2, 38, .inr (.inl (vp_updL (fun _ => 0) (0 : Int32).toNatClampNeg 1)))), (q4, .inl (y 2, 38, .inr (.inl (fun _ => 0)))), (q5, .inl (y 2, 38, .inr (.inl (fun _ => 0)))), (q6, .inl (y 2, 38, .inr (.inl (fun _ => 0)))), (q7, .inl (y 2, 38, .inr (.inl (fun _ => 0))))] t.heap ∧ va_D (va_A [(h0, .inr (10, [.null, .null, .null, .null, .null, .null, .null, .null, .int 0, .int 0, .long 0]))] sz) [(h0, .inr (10, [.ref q1, .ref q2, .ref q3, .ref q4, .ref q5, .ref q6, .ref q7, .null, .int 1, .int 0, .long 0])), (q1, .inl (y 2, 38, .inr (.inl (fun _ => 0)))), (q2, .inl (y 2, 38, .inr (.inl (fun _ => 0)))), (q3, .inl (y 2, 38, .inr (.inl (vp_updL (fun _ => 0) (0 : Int32).toNatClampNeg 1)))), (q4, .inl (y 2, 38, .inr (.inl (fun _ => 0)))), (q5, .inl (y 2, 38, .inr (.inl (fun _ => 0)))), (q6, .inl (y 2, 38, .inr (.inl (fun _ => 0)))), (q7, .inl (y 2, 38, .inr (.inl (fun _ => 0))))]) (va_A [(h0, .inr (10, [.null, .null, .null, .null, .null, .null, .null, .null, .int 0, .int 0, .long 0]))] sz)) 7 266 (va_A [(h0, .inr (10, [.null, .null, .null, .null, .null, .null, .null, .null, .int 0, .int 0, .long 0]))] sz) := by
  refine Met.ofW (cc := cX6_init) (maxL := 1) (ret := none) (by decide) rfl ?_
  intro p e s m args below meth c s₁ B hml hv
  obtain ⟨rfl, hsz, hP, hK, hD0, hN, hE, hO, hT, hG⟩ := hv
  have hx := B.exec
  have hb := B.bytes
  have hr := B.returns
  have hts := atoms_spec (ws := wz_c_X6_init) B.pre
  have hown : s.vm.findClass RX6 = some m.cls := findClass_of_methodNamed B.named
  have hlocks := B.notSynchronized
  have hin : meth.name = "<init>" := (name_of_methodNamed B.named B.method).1
  subst hsz
  have hD := hD0.self (sz := s.heap.size)
  generalize hAe : va_A [(h0, .inr (10, [.null, .null, .null, .null, .null, .null, .null, .null, .int 0, .int 0, .long 0]))] s.heap.size = A at hD hE hT hG ⊢
  have hA : ∀ q : Nat, s.heap.size ≤ q → A q := fun q h => by rw [← hAe]; exact Or.inr h
  have hS : va_S A s.heap s.heap [] := va_S.rf
  have hl := lv_entry ([.ref h0]) (n := 1) (Nat.le_of_ble_eq_true rfl)
  rw [lg_entry_eq]
  generalize (lg_sl ([.ref h0]) ++ List.replicate (1 - (lg_sl ([.ref h0])).length) Slot.unset).toArray = ls at hl ⊢
  have hl : lv_has ls 1 [(0, .ref h0)] := hl
  refine lv_aload_n hx hb dX6_init_0 rfl (lv_at hl 0 rfl) ?_
  refine W.objInit hx hb hown (hts (.methodLink RX6 3 objectInit) (by decide +kernel)) (hts (.instanceMethod objectInit) (by decide +kernel)) (hts (.code objectInit ⟨#[0xb1]⟩ 1 none) (by decide +kernel)) rfl (by rw [hml]; exact hl.1) rfl dX6_init_1 (Nat.le_of_ble_eq_true rfl) (Nat.le_of_ble_eq_true rfl) ?_
  refine W.eq (g2 := F0 m 4 ls []) rfl ?_
  refine lv_aload_n hx hb dX6_init_4 rfl (lv_at hl 0 rfl) ?_
  refine lv_bipush (v := 38) hx hb dX6_init_5 (by decide) ?_
  refine zz_newa (atype := .long) (n := 38) (N' := 38) (a0 := (38, .inr (.inl (fun _ => 0)))) (ty := .long) hx hb (hts (.arrayClass .long) (by decide +kernel)) rfl hK 2 rfl hP hD hS hA (zz_aJ 38) (by decide +kernel) (by decide +kernel) (by decide +kernel) (Nat.le_of_ble_eq_true rfl) (Nat.le_of_ble_eq_true rfl) dX6_init_7 (fun q1 H hP hD hS => ?_)
  have hP : va_P D vwCl [(h0, .inr (10, [.null, .null, .null, .null, .null, .null, .null, .null, .int 0, .int 0, .long 0])), (q1, .inl (y 2, 38, .inr (.inl (fun _ => 0))))] H := hP
  have hD : va_D A [(h0, .inr (10, [.null, .null, .null, .null, .null, .null, .null, .null, .int 0, .int 0, .long 0])), (q1, .inl (y 2, 38, .inr (.inl (fun _ => 0))))] := hD
  refine va_putF (D := D) (ci := 10) (v := .ref q1) (ty := (.array .long)) (C := RX6) (T := TX6) (N := 11) hx hb hts (by decide +kernel) tyX6 tyX6_ok nmX6 hown hK hP hD hS 0 rfl rfl 0 (by decide) (hts (.fieldLink RX6 9 "SignetRing$Power" "modulus" "[J") (by decide +kernel)) (fun _ h9 => h9) rfl hin rfl (by decide +kernel) rfl rfl (Nat.le_of_ble_eq_true rfl) dX6_init_9 (fun H locs hP hD hS => ?_)
  have hP : va_P D vwCl [(h0, .inr (10, [.ref q1, .null, .null, .null, .null, .null, .null, .null, .int 0, .int 0, .long 0])), (q1, .inl (y 2, 38, .inr (.inl (fun _ => 0))))] H := hP
  have hD : va_D A [(h0, .inr (10, [.ref q1, .null, .null, .null, .null, .null, .null, .null, .int 0, .int 0, .long 0])), (q1, .inl (y 2, 38, .inr (.inl (fun _ => 0))))] := hD
  refine lv_aload_n hx hb dX6_init_12 rfl (lv_at hl 0 rfl) ?_
  refine lv_bipush (v := 38) hx hb dX6_init_13 (by decide) ?_
  refine zz_newa (atype := .long) (n := 38) (N' := 38) (a0 := (38, .inr (.inl (fun _ => 0)))) (ty := .long) hx hb (hts (.arrayClass .long) (by decide +kernel)) rfl hK 2 rfl hP hD hS hA (zz_aJ 38) (by decide +kernel) (by decide +kernel) (by decide +kernel) (Nat.le_of_ble_eq_true rfl) (Nat.le_of_ble_eq_true rfl) dX6_init_15 (fun q2 H hP hD hS => ?_)
  have hP : va_P D vwCl [(h0, .inr (10, [.ref q1, .null, .null, .null, .null, .null, .null, .null, .int 0, .int 0, .long 0])), (q1, .inl (y 2, 38, .inr (.inl (fun _ => 0)))), (q2, .inl (y 2, 38, .inr (.inl (fun _ => 0))))] H := hP
  have hD : va_D A [(h0, .inr (10, [.ref q1, .null, .null, .null, .null, .null, .null, .null, .int 0, .int 0, .long 0])), (q1, .inl (y 2, 38, .inr (.inl (fun _ => 0)))), (q2, .inl (y 2, 38, .inr (.inl (fun _ => 0))))] := hD
  refine va_putF (D := D) (ci := 10) (v := .ref q2) (ty := (.array .long)) (C := RX6) (T := TX6) (N := 11) hx hb hts (by decide +kernel) tyX6 tyX6_ok nmX6 hown hK hP hD hS 0 rfl rfl 1 (by decide) (hts (.fieldLink RX6 13 "SignetRing$Power" "quotient" "[J") (by decide +kernel)) (fun _ h9 => h9) rfl hin rfl (by decide +kernel) rfl rfl (Nat.le_of_ble_eq_true rfl) dX6_init_17 (fun H locs hP hD hS => ?_)
  have hP : va_P D vwCl [(h0, .inr (10, [.ref q1, .ref q2, .null, .null, .null, .null, .null, .null, .int 0, .int 0, .long 0])), (q1, .inl (y 2, 38, .inr (.inl (fun _ => 0)))), (q2, .inl (y 2, 38, .inr (.inl (fun _ => 0))))] H := hP
  have hD : va_D A [(h0, .inr (10, [.ref q1, .ref q2, .null, .null, .null, .null, .null, .null, .int 0, .int 0, .long 0])), (q1, .inl (y 2, 38, .inr (.inl (fun _ => 0)))), (q2, .inl (y 2, 38, .inr (.inl (fun _ => 0))))] := hD
  refine lv_aload_n hx hb dX6_init_20 rfl (lv_at hl 0 rfl) ?_
  refine lv_bipush (v := 38) hx hb dX6_init_21 (by decide) ?_
  refine zz_newa (atype := .long) (n := 38) (N' := 38) (a0 := (38, .inr (.inl (fun _ => 0)))) (ty := .long) hx hb (hts (.arrayClass .long) (by decide +kernel)) rfl hK 2 rfl hP hD hS hA (zz_aJ 38) (by decide +kernel) (by decide +kernel) (by decide +kernel) (Nat.le_of_ble_eq_true rfl) (Nat.le_of_ble_eq_true rfl) dX6_init_23 (fun q3 H hP hD hS => ?_)
  have hP : va_P D vwCl [(h0, .inr (10, [.ref q1, .ref q2, .null, .null, .null, .null, .null, .null, .int 0, .int 0, .long 0])), (q1, .inl (y 2, 38, .inr (.inl (fun _ => 0)))), (q2, .inl (y 2, 38, .inr (.inl (fun _ => 0)))), (q3, .inl (y 2, 38, .inr (.inl (fun _ => 0))))] H := hP
  have hD : va_D A [(h0, .inr (10, [.ref q1, .ref q2, .null, .null, .null, .null, .null, .null, .int 0, .int 0, .long 0])), (q1, .inl (y 2, 38, .inr (.inl (fun _ => 0)))), (q2, .inl (y 2, 38, .inr (.inl (fun _ => 0)))), (q3, .inl (y 2, 38, .inr (.inl (fun _ => 0))))] := hD
  refine va_putF (D := D) (ci := 10) (v := .ref q3) (ty := (.array .long)) (C := RX6) (T := TX6) (N := 11) hx hb hts (by decide +kernel) tyX6 tyX6_ok nmX6 hown hK hP hD hS 0 rfl rfl 2 (by decide) (hts (.fieldLink RX6 16 "SignetRing$Power" "one" "[J") (by decide +kernel)) (fun _ h9 => h9) rfl hin rfl (by decide +kernel) rfl rfl (Nat.le_of_ble_eq_true rfl) dX6_init_25 (fun H locs hP hD hS => ?_)
  have hP : va_P D vwCl [(h0, .inr (10, [.ref q1, .ref q2, .ref q3, .null, .null, .null, .null, .null, .int 0, .int 0, .long 0])), (q1, .inl (y 2, 38, .inr (.inl (fun _ => 0)))), (q2, .inl (y 2, 38, .inr (.inl (fun _ => 0)))), (q3, .inl (y 2, 38, .inr (.inl (fun _ => 0))))] H := hP
  have hD : va_D A [(h0, .inr (10, [.ref q1, .ref q2, .ref q3, .null, .null, .null, .null, .null, .int 0, .int 0, .long 0])), (q1, .inl (y 2, 38, .inr (.inl (fun _ => 0)))), (q2, .inl (y 2, 38, .inr (.inl (fun _ => 0)))), (q3, .inl (y 2, 38, .inr (.inl (fun _ => 0))))] := hD
  refine lv_aload_n hx hb dX6_init_28 rfl (lv_at hl 0 rfl) ?_
  refine lv_bipush (v := 38) hx hb dX6_init_29 (by decide) ?_
  refine zz_newa (atype := .long) (n := 38) (N' := 38) (a0 := (38, .inr (.inl (fun _ => 0)))) (ty := .long) hx hb (hts (.arrayClass .long) (by decide +kernel)) rfl hK 2 rfl hP hD hS hA (zz_aJ 38) (by decide +kernel) (by decide +kernel) (by decide +kernel) (Nat.le_of_ble_eq_true rfl) (Nat.le_of_ble_eq_true rfl) dX6_init_31 (fun q4 H hP hD hS => ?_)
  have hP : va_P D vwCl [(h0, .inr (10, [.ref q1, .ref q2, .ref q3, .null, .null, .null, .null, .null, .int 0, .int 0, .long 0])), (q1, .inl (y 2, 38, .inr (.inl (fun _ => 0)))), (q2, .inl (y 2, 38, .inr (.inl (fun _ => 0)))), (q3, .inl (y 2, 38, .inr (.inl (fun _ => 0)))), (q4, .inl (y 2, 38, .inr (.inl (fun _ => 0))))] H := hP
  have hD : va_D A [(h0, .inr (10, [.ref q1, .ref q2, .ref q3, .null, .null, .null, .null, .null, .int 0, .int 0, .long 0])), (q1, .inl (y 2, 38, .inr (.inl (fun _ => 0)))), (q2, .inl (y 2, 38, .inr (.inl (fun _ => 0)))), (q3, .inl (y 2, 38, .inr (.inl (fun _ => 0)))), (q4, .inl (y 2, 38, .inr (.inl (fun _ => 0))))] := hD
  refine va_putF (D := D) (ci := 10) (v := .ref q4) (ty := (.array .long)) (C := RX6) (T := TX6) (N := 11) hx hb hts (by decide +kernel) tyX6 tyX6_ok nmX6 hown hK hP hD hS 0 rfl rfl 3 (by decide) (hts (.fieldLink RX6 19 "SignetRing$Power" "unit" "[J") (by decide +kernel)) (fun _ h9 => h9) rfl hin rfl (by decide +kernel) rfl rfl (Nat.le_of_ble_eq_true rfl) dX6_init_33 (fun H locs hP hD hS => ?_)
  have hP : va_P D vwCl [(h0, .inr (10, [.ref q1, .ref q2, .ref q3, .ref q4, .null, .null, .null, .null, .int 0, .int 0, .long 0])), (q1, .inl (y 2, 38, .inr (.inl (fun _ => 0)))), (q2, .inl (y 2, 38, .inr (.inl (fun _ => 0)))), (q3, .inl (y 2, 38, .inr (.inl (fun _ => 0)))), (q4, .inl (y 2, 38, .inr (.inl (fun _ => 0))))] H := hP
  have hD : va_D A [(h0, .inr (10, [.ref q1, .ref q2, .ref q3, .ref q4, .null, .null, .null, .null, .int 0, .int 0, .long 0])), (q1, .inl (y 2, 38, .inr (.inl (fun _ => 0)))), (q2, .inl (y 2, 38, .inr (.inl (fun _ => 0)))), (q3, .inl (y 2, 38, .inr (.inl (fun _ => 0)))), (q4, .inl (y 2, 38, .inr (.inl (fun _ => 0))))] := hD
  refine lv_aload_n hx hb dX6_init_36 rfl (lv_at hl 0 rfl) ?_
  refine lv_bipush (v := 38) hx hb dX6_init_37 (by decide) ?_
  refine zz_newa (atype := .long) (n := 38) (N' := 38) (a0 := (38, .inr (.inl (fun _ => 0)))) (ty := .long) hx hb (hts (.arrayClass .long) (by decide +kernel)) rfl hK 2 rfl hP hD hS hA (zz_aJ 38) (by decide +kernel) (by decide +kernel) (by decide +kernel) (Nat.le_of_ble_eq_true rfl) (Nat.le_of_ble_eq_true rfl) dX6_init_39 (fun q5 H hP hD hS => ?_)
  have hP : va_P D vwCl [(h0, .inr (10, [.ref q1, .ref q2, .ref q3, .ref q4, .null, .null, .null, .null, .int 0, .int 0, .long 0])), (q1, .inl (y 2, 38, .inr (.inl (fun _ => 0)))), (q2, .inl (y 2, 38, .inr (.inl (fun _ => 0)))), (q3, .inl (y 2, 38, .inr (.inl (fun _ => 0)))), (q4, .inl (y 2, 38, .inr (.inl (fun _ => 0)))), (q5, .inl (y 2, 38, .inr (.inl (fun _ => 0))))] H := hP
  have hD : va_D A [(h0, .inr (10, [.ref q1, .ref q2, .ref q3, .ref q4, .null, .null, .null, .null, .int 0, .int 0, .long 0])), (q1, .inl (y 2, 38, .inr (.inl (fun _ => 0)))), (q2, .inl (y 2, 38, .inr (.inl (fun _ => 0)))), (q3, .inl (y 2, 38, .inr (.inl (fun _ => 0)))), (q4, .inl (y 2, 38, .inr (.inl (fun _ => 0)))), (q5, .inl (y 2, 38, .inr (.inl (fun _ => 0))))] := hD
  refine va_putF (D := D) (ci := 10) (v := .ref q5) (ty := (.array .long)) (C := RX6) (T := TX6) (N := 11) hx hb hts (by decide +kernel) tyX6 tyX6_ok nmX6 hown hK hP hD hS 0 rfl rfl 4 (by decide) (hts (.fieldLink RX6 22 "SignetRing$Power" "square" "[J") (by decide +kernel)) (fun _ h9 => h9) rfl hin rfl (by decide +kernel) rfl rfl (Nat.le_of_ble_eq_true rfl) dX6_init_41 (fun H locs hP hD hS => ?_)
  have hP : va_P D vwCl [(h0, .inr (10, [.ref q1, .ref q2, .ref q3, .ref q4, .ref q5, .null, .null, .null, .int 0, .int 0, .long 0])), (q1, .inl (y 2, 38, .inr (.inl (fun _ => 0)))), (q2, .inl (y 2, 38, .inr (.inl (fun _ => 0)))), (q3, .inl (y 2, 38, .inr (.inl (fun _ => 0)))), (q4, .inl (y 2, 38, .inr (.inl (fun _ => 0)))), (q5, .inl (y 2, 38, .inr (.inl (fun _ => 0))))] H := hP
  have hD : va_D A [(h0, .inr (10, [.ref q1, .ref q2, .ref q3, .ref q4, .ref q5, .null, .null, .null, .int 0, .int 0, .long 0])), (q1, .inl (y 2, 38, .inr (.inl (fun _ => 0)))), (q2, .inl (y 2, 38, .inr (.inl (fun _ => 0)))), (q3, .inl (y 2, 38, .inr (.inl (fun _ => 0)))), (q4, .inl (y 2, 38, .inr (.inl (fun _ => 0)))), (q5, .inl (y 2, 38, .inr (.inl (fun _ => 0))))] := hD
  refine lv_aload_n hx hb dX6_init_44 rfl (lv_at hl 0 rfl) ?_
  refine lv_bipush (v := 38) hx hb dX6_init_45 (by decide) ?_
  refine zz_newa (atype := .long) (n := 38) (N' := 38) (a0 := (38, .inr (.inl (fun _ => 0)))) (ty := .long) hx hb (hts (.arrayClass .long) (by decide +kernel)) rfl hK 2 rfl hP hD hS hA (zz_aJ 38) (by decide +kernel) (by decide +kernel) (by decide +kernel) (Nat.le_of_ble_eq_true rfl) (Nat.le_of_ble_eq_true rfl) dX6_init_47 (fun q6 H hP hD hS => ?_)
  have hP : va_P D vwCl [(h0, .inr (10, [.ref q1, .ref q2, .ref q3, .ref q4, .ref q5, .null, .null, .null, .int 0, .int 0, .long 0])), (q1, .inl (y 2, 38, .inr (.inl (fun _ => 0)))), (q2, .inl (y 2, 38, .inr (.inl (fun _ => 0)))), (q3, .inl (y 2, 38, .inr (.inl (fun _ => 0)))), (q4, .inl (y 2, 38, .inr (.inl (fun _ => 0)))), (q5, .inl (y 2, 38, .inr (.inl (fun _ => 0)))), (q6, .inl (y 2, 38, .inr (.inl (fun _ => 0))))] H := hP
  have hD : va_D A [(h0, .inr (10, [.ref q1, .ref q2, .ref q3, .ref q4, .ref q5, .null, .null, .null, .int 0, .int 0, .long 0])), (q1, .inl (y 2, 38, .inr (.inl (fun _ => 0)))), (q2, .inl (y 2, 38, .inr (.inl (fun _ => 0)))), (q3, .inl (y 2, 38, .inr (.inl (fun _ => 0)))), (q4, .inl (y 2, 38, .inr (.inl (fun _ => 0)))), (q5, .inl (y 2, 38, .inr (.inl (fun _ => 0)))), (q6, .inl (y 2, 38, .inr (.inl (fun _ => 0))))] := hD
  refine va_putF (D := D) (ci := 10) (v := .ref q6) (ty := (.array .long)) (C := RX6) (T := TX6) (N := 11) hx hb hts (by decide +kernel) tyX6 tyX6_ok nmX6 hown hK hP hD hS 0 rfl rfl 5 (by decide) (hts (.fieldLink RX6 25 "SignetRing$Power" "base" "[J") (by decide +kernel)) (fun _ h9 => h9) rfl hin rfl (by decide +kernel) rfl rfl (Nat.le_of_ble_eq_true rfl) dX6_init_49 (fun H locs hP hD hS => ?_)
  have hP : va_P D vwCl [(h0, .inr (10, [.ref q1, .ref q2, .ref q3, .ref q4, .ref q5, .ref q6, .null, .null, .int 0, .int 0, .long 0])), (q1, .inl (y 2, 38, .inr (.inl (fun _ => 0)))), (q2, .inl (y 2, 38, .inr (.inl (fun _ => 0)))), (q3, .inl (y 2, 38, .inr (.inl (fun _ => 0)))), (q4, .inl (y 2, 38, .inr (.inl (fun _ => 0)))), (q5, .inl (y 2, 38, .inr (.inl (fun _ => 0)))), (q6, .inl (y 2, 38, .inr (.inl (fun _ => 0))))] H := hP
  have hD : va_D A [(h0, .inr (10, [.ref q1, .ref q2, .ref q3, .ref q4, .ref q5, .ref q6, .null, .null, .int 0, .int 0, .long 0])), (q1, .inl (y 2, 38, .inr (.inl (fun _ => 0)))), (q2, .inl (y 2, 38, .inr (.inl (fun _ => 0)))), (q3, .inl (y 2, 38, .inr (.inl (fun _ => 0)))), (q4, .inl (y 2, 38, .inr (.inl (fun _ => 0)))), (q5, .inl (y 2, 38, .inr (.inl (fun _ => 0)))), (q6, .inl (y 2, 38, .inr (.inl (fun _ => 0))))] := hD
  refine lv_aload_n hx hb dX6_init_52 rfl (lv_at hl 0 rfl) ?_
  refine lv_bipush (v := 38) hx hb dX6_init_53 (by decide) ?_
  refine zz_newa (atype := .long) (n := 38) (N' := 38) (a0 := (38, .inr (.inl (fun _ => 0)))) (ty := .long) hx hb (hts (.arrayClass .long) (by decide +kernel)) rfl hK 2 rfl hP hD hS hA (zz_aJ 38) (by decide +kernel) (by decide +kernel) (by decide +kernel) (Nat.le_of_ble_eq_true rfl) (Nat.le_of_ble_eq_true rfl) dX6_init_55 (fun q7 H hP hD hS => ?_)
  have hP : va_P D vwCl [(h0, .inr (10, [.ref q1, .ref q2, .ref q3, .ref q4, .ref q5, .ref q6, .null, .null, .int 0, .int 0, .long 0])), (q1, .inl (y 2, 38, .inr (.inl (fun _ => 0)))), (q2, .inl (y 2, 38, .inr (.inl (fun _ => 0)))), (q3, .inl (y 2, 38, .inr (.inl (fun _ => 0)))), (q4, .inl (y 2, 38, .inr (.inl (fun _ => 0)))), (q5, .inl (y 2, 38, .inr (.inl (fun _ => 0)))), (q6, .inl (y 2, 38, .inr (.inl (fun _ => 0)))), (q7, .inl (y 2, 38, .inr (.inl (fun _ => 0))))] H := hP
  have hD : va_D A [(h0, .inr (10, [.ref q1, .ref q2, .ref q3, .ref q4, .ref q5, .ref q6, .null, .null, .int 0, .int 0, .long 0])), (q1, .inl (y 2, 38, .inr (.inl (fun _ => 0)))), (q2, .inl (y 2, 38, .inr (.inl (fun _ => 0)))), (q3, .inl (y 2, 38, .inr (.inl (fun _ => 0)))), (q4, .inl (y 2, 38, .inr (.inl (fun _ => 0)))), (q5, .inl (y 2, 38, .inr (.inl (fun _ => 0)))), (q6, .inl (y 2, 38, .inr (.inl (fun _ => 0)))), (q7, .inl (y 2, 38, .inr (.inl (fun _ => 0))))] := hD
  refine va_putF (D := D) (ci := 10) (v := .ref q7) (ty := (.array .long)) (C := RX6) (T := TX6) (N := 11) hx hb hts (by decide +kernel) tyX6 tyX6_ok nmX6 hown hK hP hD hS 0 rfl rfl 6 (by decide) (hts (.fieldLink RX6 28 "SignetRing$Power" "power" "[J") (by decide +kernel)) (fun _ h9 => h9) rfl hin rfl (by decide +kernel) rfl rfl (Nat.le_of_ble_eq_true rfl) dX6_init_57 (fun H locs hP hD hS => ?_)
  have hP : va_P D vwCl [(h0, .inr (10, [.ref q1, .ref q2, .ref q3, .ref q4, .ref q5, .ref q6, .ref q7, .null, .int 0, .int 0, .long 0])), (q1, .inl (y 2, 38, .inr (.inl (fun _ => 0)))), (q2, .inl (y 2, 38, .inr (.inl (fun _ => 0)))), (q3, .inl (y 2, 38, .inr (.inl (fun _ => 0)))), (q4, .inl (y 2, 38, .inr (.inl (fun _ => 0)))), (q5, .inl (y 2, 38, .inr (.inl (fun _ => 0)))), (q6, .inl (y 2, 38, .inr (.inl (fun _ => 0)))), (q7, .inl (y 2, 38, .inr (.inl (fun _ => 0))))] H := hP
  have hD : va_D A [(h0, .inr (10, [.ref q1, .ref q2, .ref q3, .ref q4, .ref q5, .ref q6, .ref q7, .null, .int 0, .int 0, .long 0])), (q1, .inl (y 2, 38, .inr (.inl (fun _ => 0)))), (q2, .inl (y 2, 38, .inr (.inl (fun _ => 0)))), (q3, .inl (y 2, 38, .inr (.inl (fun _ => 0)))), (q4, .inl (y 2, 38, .inr (.inl (fun _ => 0)))), (q5, .inl (y 2, 38, .inr (.inl (fun _ => 0)))), (q6, .inl (y 2, 38, .inr (.inl (fun _ => 0)))), (q7, .inl (y 2, 38, .inr (.inl (fun _ => 0))))] := hD
  refine lv_aload_n hx hb dX6_init_60 rfl (lv_at hl 0 rfl) ?_
  refine lv_iconst (v := 1) hx hb dX6_init_61 (by decide) ?_
  refine va_put (D := D) (ci := 10) (v := .int 1) (ty := .int) (C := RX6) (T := TX6) (N := 11) hx hb hts (by decide +kernel) tyX6 tyX6_ok nmX6 hown hK hP hD hS 0 rfl rfl 8 (by decide) (hts (.fieldLink RX6 31 "SignetRing$Power" "limbs" "I") (by decide +kernel)) (fun _ h9 => h9) rfl (by decide +kernel) rfl rfl (Nat.le_of_ble_eq_true rfl) dX6_init_62 (fun H locs hP hD hS => ?_)
  have hP : va_P D vwCl [(h0, .inr (10, [.ref q1, .ref q2, .ref q3, .ref q4, .ref q5, .ref q6, .ref q7, .null, .int 1, .int 0, .long 0])), (q1, .inl (y 2, 38, .inr (.inl (fun _ => 0)))), (q2, .inl (y 2, 38, .inr (.inl (fun _ => 0)))), (q3, .inl (y 2, 38, .inr (.inl (fun _ => 0)))), (q4, .inl (y 2, 38, .inr (.inl (fun _ => 0)))), (q5, .inl (y 2, 38, .inr (.inl (fun _ => 0)))), (q6, .inl (y 2, 38, .inr (.inl (fun _ => 0)))), (q7, .inl (y 2, 38, .inr (.inl (fun _ => 0))))] H := hP
  have hD : va_D A [(h0, .inr (10, [.ref q1, .ref q2, .ref q3, .ref q4, .ref q5, .ref q6, .ref q7, .null, .int 1, .int 0, .long 0])), (q1, .inl (y 2, 38, .inr (.inl (fun _ => 0)))), (q2, .inl (y 2, 38, .inr (.inl (fun _ => 0)))), (q3, .inl (y 2, 38, .inr (.inl (fun _ => 0)))), (q4, .inl (y 2, 38, .inr (.inl (fun _ => 0)))), (q5, .inl (y 2, 38, .inr (.inl (fun _ => 0)))), (q6, .inl (y 2, 38, .inr (.inl (fun _ => 0)))), (q7, .inl (y 2, 38, .inr (.inl (fun _ => 0))))] := hD
  refine lv_aload_n hx hb dX6_init_65 rfl (lv_at hl 0 rfl) ?_
  refine va_get (D := D) (ci := 10) (v := .ref q3) (C := RX6) (T := TX6) (N := 11) hx hb hts (by decide +kernel) hown hK hP 0 rfl rfl 2 (by decide) (hts (.fieldLink RX6 16 "SignetRing$Power" "one" "[J") (by decide +kernel)) (fun _ h9 => h9) rfl dX6_init_66 ?_
  refine lv_iconst (v := 0) hx hb dX6_init_69 (by decide) ?_
  refine lv_lconst (v := 1) hx hb dX6_init_70 (by decide) ?_
  refine va_last hx hb hK hP hD hS 3 2 rfl rfl (by unfold vp_in; decide) dX6_init_71 (fun H locs hP hD hS => ?_)
  have hP : va_P D vwCl [(h0, .inr (10, [.ref q1, .ref q2, .ref q3, .ref q4, .ref q5, .ref q6, .ref q7, .null, .int 1, .int 0, .long 0])), (q1, .inl (y 2, 38, .inr (.inl (fun _ => 0)))), (q2, .inl (y 2, 38, .inr (.inl (fun _ => 0)))), (q3, .inl (y 2, 38, .inr (.inl (vp_updL (fun _ => 0) (0 : Int32).toNatClampNeg 1)))), (q4, .inl (y 2, 38, .inr (.inl (fun _ => 0)))), (q5, .inl (y 2, 38, .inr (.inl (fun _ => 0)))), (q6, .inl (y 2, 38, .inr (.inl (fun _ => 0)))), (q7, .inl (y 2, 38, .inr (.inl (fun _ => 0))))] H := hP
  have hD : va_D A [(h0, .inr (10, [.ref q1, .ref q2, .ref q3, .ref q4, .ref q5, .ref q6, .ref q7, .null, .int 1, .int 0, .long 0])), (q1, .inl (y 2, 38, .inr (.inl (fun _ => 0)))), (q2, .inl (y 2, 38, .inr (.inl (fun _ => 0)))), (q3, .inl (y 2, 38, .inr (.inl (vp_updL (fun _ => 0) (0 : Int32).toNatClampNeg 1)))), (q4, .inl (y 2, 38, .inr (.inl (fun _ => 0)))), (q5, .inl (y 2, 38, .inr (.inl (fun _ => 0)))), (q6, .inl (y 2, 38, .inr (.inl (fun _ => 0)))), (q7, .inl (y 2, 38, .inr (.inl (fun _ => 0))))] := hD
  have hP9 := hP.sub (ws' := [(h0, .inr (10, [.ref q1, .ref q2, .ref q3, .ref q4, .ref q5, .ref q6, .ref q7, .null, .int 1, .int 0, .long 0])), (q1, .inl (y 2, 38, .inr (.inl (fun _ => 0)))), (q2, .inl (y 2, 38, .inr (.inl (fun _ => 0)))), (q3, .inl (y 2, 38, .inr (.inl (vp_updL (fun _ => 0) (0 : Int32).toNatClampNeg 1)))), (q4, .inl (y 2, 38, .inr (.inl (fun _ => 0)))), (q5, .inl (y 2, 38, .inr (.inl (fun _ => 0)))), (q6, .inl (y 2, 38, .inr (.inl (fun _ => 0)))), (q7, .inl (y 2, 38, .inr (.inl (fun _ => 0))))]) [0, 1, 2, 3, 4, 5, 6, 7] rfl
  have hD9 := hD.sub (ws' := [(h0, .inr (10, [.ref q1, .ref q2, .ref q3, .ref q4, .ref q5, .ref q6, .ref q7, .null, .int 1, .int 0, .long 0])), (q1, .inl (y 2, 38, .inr (.inl (fun _ => 0)))), (q2, .inl (y 2, 38, .inr (.inl (fun _ => 0)))), (q3, .inl (y 2, 38, .inr (.inl (vp_updL (fun _ => 0) (0 : Int32).toNatClampNeg 1)))), (q4, .inl (y 2, 38, .inr (.inl (fun _ => 0)))), (q5, .inl (y 2, 38, .inr (.inl (fun _ => 0)))), (q6, .inl (y 2, 38, .inr (.inl (fun _ => 0)))), (q7, .inl (y 2, 38, .inr (.inl (fun _ => 0))))]) [0, 1, 2, 3, 4, 5, 6, 7] (by decide) rfl
  refine W.widen (k := 7) (n := 266) (Nat.le_of_ble_eq_true rfl) (Nat.le_of_ble_eq_true rfl) ?_
  exact W.vret hx hb hr (fun t ht hW => ⟨⟨(), rfl, trivial, q1, q2, q3, q4, q5, q6, q7, by rw [ht]; exact hP9, hD9⟩, hS.F ht⟩) hS.2.2 dX6_init_72

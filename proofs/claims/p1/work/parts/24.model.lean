def wz_c_M_thrown : List Cond := .code yX12_thrown cX12_thrown 1 (some .int) :: ([.fieldLink RX12 78 "SignetRingModel" "thrown" "I"] ++ (wsX120 ++ ([])))
set_option maxHeartbeats 4000000 in
set_option maxRecDepth 100000 in
theorem c_M_thrown (l : Launch) (D : va_G) (y : Nat → ClassId) (sz : Nat) (h0 : Nat) (w1 : Value) (w2 : Value) (w3 : Value) (w4 : Value) (w5 : Value) (w6 : Value) (w7 : Value) (w8 : Value) (w9 : Value) (w10 : Value) (w11 : Value) (w12 : Value) (w13 : Value) (w14 : Value) (w15 : Value) (w16 : Value) (w17 : Value) (w18 : Value) (w19 : Value) (w20 : Value) (w21 : Value) (w22 : Value) (w23 : Value) (w24 : Value) (w25 : Value) (w26 : Value) (w27 : Value) (w28 : Value) (w29 : Value) (w30 : Value) (w31 : Value) (w32 : Value) (w33 : Value) (w34 : Value) (w35 : Value) (w36 : Value) (w37 : Value) (w38 : Value) (w39 : Value) (w40 : Value) (w41 : Value) (w42 : Value) (w43 : Value) (w44 : Value) (w45 : Value) (w46 : Value) (w47 : Value) (w48 : Value) (w49 : Value) (w50 : Value) (w51 : Value) (w52 : Value) (w53 : Value) (w54 : Value) (w55 : Value) (w56 : Value) (w57 : Value) (w58 : Value) (w59 : Value) (w60 : Value) (w61 : Value) (w62 : Value) (w63 : Value) (n : Int32) : Met l yX12_thrown wz_c_M_thrown ({ frames := 0, cells := 0, slots := 0, locals := 0 }) (va_Pc [.ref h0] (zB D y [(h0, .inr (16, [.int n, w1, w2, w3, w4, w5, w6, w7, w8, w9, w10, w11, w12, w13, w14, w15, w16, w17, w18, w19, w20, w21, w22, w23, w24, w25, w26, w27, w28, w29, w30, w31, w32, w33, w34, w35, w36, w37, w38, w39, w40, w41, w42, w43, w44, w45, w46, w47, w48, w49, w50, w51, w52, w53, w54, w55, w56, w57, w58, w59, w60, w61, w62, w63]))] sz [] [] [] [])) (va_Qi (fun (r : Int32) (_ : Unit) => r = n) (fun _ t => va_P D vwCl [(h0, .inr (16, [.int n, w1, w2, w3, w4, w5, w6, w7, w8, w9, w10, w11, w12, w13, w14, w15, w16, w17, w18, w19, w20, w21, w22, w23, w24, w25, w26, w27, w28, w29, w30, w31, w32, w33, w34, w35, w36, w37, w38, w39, w40, w41, w42, w43, w44, w45, w46, w47, w48, w49, w50, w51, w52, w53, w54, w55, w56, w57, w58, w59, w60, w61, w62, w63]))] t.heap ∧ va_D (va_A [(h0, .inr (16, [.int n, w1, w2, w3, w4, w5, w6, w7, w8, w9, w10, w11, w12, w13, w14, w15, w16, w17, w18, w19, w20, w21, w22, w23, w24, w25, w26, w27, w28, w29, w30, w31, w32, w33, w34, w35, w36, w37, w38, w39, w40, w41, w42, w43, w44, w45, w46, w47, w48, w49, w50, w51, w52, w53, w54, w55, w56, w57, w58, w59, w60, w61, w62, w63]))] sz) [(h0, .inr (16, [.int n, w1, w2, w3, w4, w5, w6, w7, w8, w9, w10, w11, w12, w13, w14, w15, w16, w17, w18, w19, w20, w21, w22, w23, w24, w25, w26, w27, w28, w29, w30, w31, w32, w33, w34, w35, w36, w37, w38, w39, w40, w41, w42, w43, w44, w45, w46, w47, w48, w49, w50, w51, w52, w53, w54, w55, w56, w57, w58, w59, w60, w61, w62, w63]))]) (va_A [(h0, .inr (16, [.int n, w1, w2, w3, w4, w5, w6, w7, w8, w9, w10, w11, w12, w13, w14, w15, w16, w17, w18, w19, w20, w21, w22, w23, w24, w25, w26, w27, w28, w29, w30, w31, w32, w33, w34, w35, w36, w37, w38, w39, w40, w41, w42, w43, w44, w45, w46, w47, w48, w49, w50, w51, w52, w53, w54, w55, w56, w57, w58, w59, w60, w61, w62, w63]))] sz)) 0 0 (va_A [(h0, .inr (16, [.int n, w1, w2, w3, w4, w5, w6, w7, w8, w9, w10, w11, w12, w13, w14, w15, w16, w17, w18, w19, w20, w21, w22, w23, w24, w25, w26, w27, w28, w29, w30, w31, w32, w33, w34, w35, w36, w37, w38, w39, w40, w41, w42, w43, w44, w45, w46, w47, w48, w49, w50, w51, w52, w53, w54, w55, w56, w57, w58, w59, w60, w61, w62, w63]))] sz) := by
  refine Met.ofW (cc := cX12_thrown) (maxL := 1) (ret := (some .int)) (by decide) rfl ?_
  intro p e s m args below meth c s₁ B hml hv
  obtain ⟨rfl, hsz, hP, hK, hD0, hN, hE, hO, hT, hG⟩ := hv
  have hx := B.exec
  have hb := B.bytes
  have hr := B.returns
  have hts := atoms_spec (ws := wz_c_M_thrown) B.pre
  have hown : s.vm.findClass RX12 = some m.cls := findClass_of_methodNamed B.named
  have hlocks := B.notSynchronized
  subst hsz
  have hD := hD0.self (sz := s.heap.size)
  generalize hAe : va_A [(h0, .inr (16, [.int n, w1, w2, w3, w4, w5, w6, w7, w8, w9, w10, w11, w12, w13, w14, w15, w16, w17, w18, w19, w20, w21, w22, w23, w24, w25, w26, w27, w28, w29, w30, w31, w32, w33, w34, w35, w36, w37, w38, w39, w40, w41, w42, w43, w44, w45, w46, w47, w48, w49, w50, w51, w52, w53, w54, w55, w56, w57, w58, w59, w60, w61, w62, w63]))] s.heap.size = A at hD hE hT hG ⊢
  have hA : ∀ q : Nat, s.heap.size ≤ q → A q := fun q h => by rw [← hAe]; exact Or.inr h
  have hS : va_S A s.heap s.heap [] := va_S.rf
  have hl := lv_entry ([.ref h0]) (n := 1) (Nat.le_of_ble_eq_true rfl)
  rw [lg_entry_eq]
  generalize (lg_sl ([.ref h0]) ++ List.replicate (1 - (lg_sl ([.ref h0])).length) Slot.unset).toArray = ls at hl ⊢
  have hl : lv_has ls 1 [(0, .ref h0)] := hl
  refine lv_aload_n hx hb dX12_thrown_0 rfl (lv_at hl 0 rfl) ?_
  refine va_get (D := D) (ci := 16) (v := .int n) (C := RX12) (T := TX12) (N := 64) hx hb hts (by decide +kernel) hown hK hP 0 rfl rfl 0 (by decide) (hts (.fieldLink RX12 78 "SignetRingModel" "thrown" "I") (by decide +kernel)) (fun _ h9 => h9) rfl dX12_thrown_1 ?_
  have hP9 := hP.sub (ws' := [(h0, .inr (16, [.int n, w1, w2, w3, w4, w5, w6, w7, w8, w9, w10, w11, w12, w13, w14, w15, w16, w17, w18, w19, w20, w21, w22, w23, w24, w25, w26, w27, w28, w29, w30, w31, w32, w33, w34, w35, w36, w37, w38, w39, w40, w41, w42, w43, w44, w45, w46, w47, w48, w49, w50, w51, w52, w53, w54, w55, w56, w57, w58, w59, w60, w61, w62, w63]))]) [0] rfl
  have hD9 := hD.sub (ws' := [(h0, .inr (16, [.int n, w1, w2, w3, w4, w5, w6, w7, w8, w9, w10, w11, w12, w13, w14, w15, w16, w17, w18, w19, w20, w21, w22, w23, w24, w25, w26, w27, w28, w29, w30, w31, w32, w33, w34, w35, w36, w37, w38, w39, w40, w41, w42, w43, w44, w45, w46, w47, w48, w49, w50, w51, w52, w53, w54, w55, w56, w57, w58, w59, w60, w61, w62, w63]))]) [0] (by decide) rfl
  refine W.widen (k := 0) (n := 0) (Nat.le_of_ble_eq_true rfl) (Nat.le_of_ble_eq_true rfl) ?_
  exact W.iret (v := n) hx hb hr (fun t ht hW => ⟨⟨n, (), rfl, rfl, by rw [ht]; exact hP9, hD9⟩, hS.F ht⟩) hS.2.2 dX12_thrown_4
def wz_c_M_isTime_y : List Cond := .code yX12_isTime cX12_isTime 2 (some .boolean) :: ([.constantLong RX12 151 4294967295] ++ ([]))
set_option maxHeartbeats 4000000 in
set_option maxRecDepth 100000 in
theorem c_M_isTime_y (l : Launch) (D : va_G) (y : Nat → ClassId) (sz : Nat) (tm : Int64) (h1 : ¬ lg_cmp tm 0 < 0) (h2 : ¬ 0 < lg_cmp tm 4294967295) : Met l yX12_isTime wz_c_M_isTime_y ({ frames := 0, cells := 0, slots := 0, locals := 0 }) (va_Pc [.long tm] (zB D y [] sz [] [] [] [])) (va_Qi (fun (r : Int32) (_ : Unit) => r = 1) (fun _ t => va_P D vwCl [] t.heap ∧ va_D (va_A [] sz) []) (va_A [] sz)) 0 0 (va_A [] sz) := by
  refine Met.ofW (cc := cX12_isTime) (maxL := 2) (ret := (some .boolean)) (by decide) rfl ?_
  intro p e s m args below meth c s₁ B hml hv
  obtain ⟨rfl, hsz, hP, hK, hD0, hN, hE, hO, hT, hG⟩ := hv
  have hx := B.exec
  have hb := B.bytes
  have hr := B.returns
  have hts := atoms_spec (ws := wz_c_M_isTime_y) B.pre
  have hown : s.vm.findClass RX12 = some m.cls := findClass_of_methodNamed B.named
  have hlocks := B.notSynchronized
  subst hsz
  have hD := hD0.self (sz := s.heap.size)
  generalize hAe : va_A [] s.heap.size = A at hD hE hT hG ⊢
  have hA : ∀ q : Nat, s.heap.size ≤ q → A q := fun q h => by rw [← hAe]; exact Or.inr h
  have hS : va_S A s.heap s.heap [] := va_S.rf
  have hl := lv_entry ([.long tm]) (n := 2) (Nat.le_of_ble_eq_true rfl)
  rw [lg_entry_eq]
  generalize (lg_sl ([.long tm]) ++ List.replicate (2 - (lg_sl ([.long tm])).length) Slot.unset).toArray = ls at hl ⊢
  have hl : lv_has ls 2 [(0, .long tm)] := hl
  refine lv_lload_n hx hb dX12_isTime_0 rfl (lv_at hl 0 rfl) ?_
  refine lv_lconst (v := 0) hx hb dX12_isTime_1 (by decide) ?_
  refine W.lcmp hx hb dX12_isTime_2 ?_
  refine lv_if_lt (tgt := 18) hx hb dX12_isTime_3 (by decide) (fun c9 => absurd c9 h1) (fun _ => ?_)
  refine lv_lload_n hx hb dX12_isTime_6 rfl (lv_at hl 0 rfl) ?_
  refine lv_ldc2 (v := 4294967295) hx hb hown (hts (.constantLong RX12 151 4294967295) (by decide +kernel)) dX12_isTime_7 ?_
  refine W.lcmp hx hb dX12_isTime_10 ?_
  refine lv_if_gt (tgt := 18) hx hb dX12_isTime_11 (by decide) (fun c9 => absurd c9 h2) (fun _ => ?_)
  refine lv_iconst (v := 1) hx hb dX12_isTime_14 (by decide) ?_
  refine lv_goto (tgt := 19) hx hb dX12_isTime_15 (by decide) ?_
  have hP9 := hP.sub (ws' := []) [] rfl
  have hD9 := hD.sub (ws' := []) [] (by decide) rfl
  refine W.widen (k := 0) (n := 0) (Nat.le_of_ble_eq_true rfl) (Nat.le_of_ble_eq_true rfl) ?_
  exact W.zret (v := 1) hx hb hr (by decide) (fun t ht hW => ⟨⟨1, (), rfl, rfl, by rw [ht]; exact hP9, hD9⟩, hS.F ht⟩) hS.2.2 dX12_isTime_19
def wz_c_M_isTime_n : List Cond := .code yX12_isTime cX12_isTime 2 (some .boolean) :: ([] ++ ([]))
set_option maxHeartbeats 4000000 in
set_option maxRecDepth 100000 in
theorem c_M_isTime_n (l : Launch) (D : va_G) (y : Nat → ClassId) (sz : Nat) (tm : Int64) (h1 : lg_cmp tm 0 < 0) : Met l yX12_isTime wz_c_M_isTime_n ({ frames := 0, cells := 0, slots := 0, locals := 0 }) (va_Pc [.long tm] (zB D y [] sz [] [] [] [])) (va_Qi (fun (r : Int32) (_ : Unit) => r = 0) (fun _ t => va_P D vwCl [] t.heap ∧ va_D (va_A [] sz) []) (va_A [] sz)) 0 0 (va_A [] sz) := by
  refine Met.ofW (cc := cX12_isTime) (maxL := 2) (ret := (some .boolean)) (by decide) rfl ?_
  intro p e s m args below meth c s₁ B hml hv
  obtain ⟨rfl, hsz, hP, hK, hD0, hN, hE, hO, hT, hG⟩ := hv
  have hx := B.exec
  have hb := B.bytes
  have hr := B.returns
  have hts := atoms_spec (ws := wz_c_M_isTime_n) B.pre
  have hown : s.vm.findClass RX12 = some m.cls := findClass_of_methodNamed B.named
  have hlocks := B.notSynchronized
  subst hsz
  have hD := hD0.self (sz := s.heap.size)
  generalize hAe : va_A [] s.heap.size = A at hD hE hT hG ⊢
  have hA : ∀ q : Nat, s.heap.size ≤ q → A q := fun q h => by rw [← hAe]; exact Or.inr h
  have hS : va_S A s.heap s.heap [] := va_S.rf
  have hl := lv_entry ([.long tm]) (n := 2) (Nat.le_of_ble_eq_true rfl)
  rw [lg_entry_eq]
  generalize (lg_sl ([.long tm]) ++ List.replicate (2 - (lg_sl ([.long tm])).length) Slot.unset).toArray = ls at hl ⊢
  have hl : lv_has ls 2 [(0, .long tm)] := hl
  refine lv_lload_n hx hb dX12_isTime_0 rfl (lv_at hl 0 rfl) ?_
  refine lv_lconst (v := 0) hx hb dX12_isTime_1 (by decide) ?_
  refine W.lcmp hx hb dX12_isTime_2 ?_
  refine lv_if_lt (tgt := 18) hx hb dX12_isTime_3 (by decide) (fun _ => ?_) (fun c9 => absurd h1 c9)
  refine lv_iconst (v := 0) hx hb dX12_isTime_18 (by decide) ?_
  have hP9 := hP.sub (ws' := []) [] rfl
  have hD9 := hD.sub (ws' := []) [] (by decide) rfl
  refine W.widen (k := 0) (n := 0) (Nat.le_of_ble_eq_true rfl) (Nat.le_of_ble_eq_true rfl) ?_
  exact W.zret (v := 0) hx hb hr (by decide) (fun t ht hW => ⟨⟨0, (), rfl, rfl, by rw [ht]; exact hP9, hD9⟩, hS.F ht⟩) hS.2.2 dX12_isTime_19
def wz_c_M_isTime_m : List Cond := .code yX12_isTime cX12_isTime 2 (some .boolean) :: ([.constantLong RX12 151 4294967295] ++ ([]))
set_option maxHeartbeats 4000000 in
set_option maxRecDepth 100000 in
theorem c_M_isTime_m (l : Launch) (D : va_G) (y : Nat → ClassId) (sz : Nat) (tm : Int64) (h1 : ¬ lg_cmp tm 0 < 0) (h2 : 0 < lg_cmp tm 4294967295) : Met l yX12_isTime wz_c_M_isTime_m ({ frames := 0, cells := 0, slots := 0, locals := 0 }) (va_Pc [.long tm] (zB D y [] sz [] [] [] [])) (va_Qi (fun (r : Int32) (_ : Unit) => r = 0) (fun _ t => va_P D vwCl [] t.heap ∧ va_D (va_A [] sz) []) (va_A [] sz)) 0 0 (va_A [] sz) := by
  refine Met.ofW (cc := cX12_isTime) (maxL := 2) (ret := (some .boolean)) (by decide) rfl ?_
  intro p e s m args below meth c s₁ B hml hv
  obtain ⟨rfl, hsz, hP, hK, hD0, hN, hE, hO, hT, hG⟩ := hv
  have hx := B.exec
  have hb := B.bytes
  have hr := B.returns
  have hts := atoms_spec (ws := wz_c_M_isTime_m) B.pre
  have hown : s.vm.findClass RX12 = some m.cls := findClass_of_methodNamed B.named
  have hlocks := B.notSynchronized
  subst hsz
  have hD := hD0.self (sz := s.heap.size)
  generalize hAe : va_A [] s.heap.size = A at hD hE hT hG ⊢
  have hA : ∀ q : Nat, s.heap.size ≤ q → A q := fun q h => by rw [← hAe]; exact Or.inr h
  have hS : va_S A s.heap s.heap [] := va_S.rf
  have hl := lv_entry ([.long tm]) (n := 2) (Nat.le_of_ble_eq_true rfl)
  rw [lg_entry_eq]
  generalize (lg_sl ([.long tm]) ++ List.replicate (2 - (lg_sl ([.long tm])).length) Slot.unset).toArray = ls at hl ⊢
  have hl : lv_has ls 2 [(0, .long tm)] := hl
  refine lv_lload_n hx hb dX12_isTime_0 rfl (lv_at hl 0 rfl) ?_
  refine lv_lconst (v := 0) hx hb dX12_isTime_1 (by decide) ?_
  refine W.lcmp hx hb dX12_isTime_2 ?_
  refine lv_if_lt (tgt := 18) hx hb dX12_isTime_3 (by decide) (fun c9 => absurd c9 h1) (fun _ => ?_)
  refine lv_lload_n hx hb dX12_isTime_6 rfl (lv_at hl 0 rfl) ?_
  refine lv_ldc2 (v := 4294967295) hx hb hown (hts (.constantLong RX12 151 4294967295) (by decide +kernel)) dX12_isTime_7 ?_
  refine W.lcmp hx hb dX12_isTime_10 ?_
  refine lv_if_gt (tgt := 18) hx hb dX12_isTime_11 (by decide) (fun _ => ?_) (fun c9 => absurd h2 c9)
  refine lv_iconst (v := 0) hx hb dX12_isTime_18 (by decide) ?_
  have hP9 := hP.sub (ws' := []) [] rfl
  have hD9 := hD.sub (ws' := []) [] (by decide) rfl
  refine W.widen (k := 0) (n := 0) (Nat.le_of_ble_eq_true rfl) (Nat.le_of_ble_eq_true rfl) ?_
  exact W.zret (v := 0) hx hb hr (by decide) (fun t ht hW => ⟨⟨0, (), rfl, rfl, by rw [ht]; exact hP9, hD9⟩, hS.F ht⟩) hS.2.2 dX12_isTime_19
def wz_c_M_placeOf : List Cond := .code yX12_placeOf cX12_placeOf 4 (some .int) :: ([.fieldLink RX12 485 "SignetRingModel" "packets" "I"] ++ (wsX120 ++ ([])))
set_option maxHeartbeats 4000000 in
set_option maxRecDepth 100000 in
theorem c_M_placeOf (l : Launch) (D : va_G) (y : Nat → ClassId) (sz : Nat) (h0 : Nat) (w1 : Value) (w2 : Value) (w3 : Value) (w4 : Value) (w5 : Value) (w6 : Value) (w7 : Value) (w8 : Value) (w9 : Value) (w10 : Value) (w11 : Value) (w12 : Value) (w13 : Value) (w14 : Value) (w15 : Value) (w16 : Value) (w17 : Value) (w18 : Value) (w19 : Value) (w20 : Value) (w21 : Value) (w22 : Value) (w23 : Value) (w24 : Value) (w25 : Value) (w26 : Value) (w27 : Value) (w28 : Value) (w29 : Value) (w30 : Value) (w31 : Value) (w32 : Value) (w33 : Value) (w34 : Value) (w35 : Value) (w36 : Value) (w37 : Value) (w38 : Value) (w39 : Value) (w40 : Value) (w41 : Value) (w42 : Value) (w43 : Value) (w44 : Value) (w45 : Value) (w46 : Value) (w47 : Value) (w48 : Value) (w49 : Value) (w50 : Value) (w51 : Value) (w52 : Value) (w53 : Value) (w54 : Value) (w55 : Value) (w56 : Value) (w57 : Value) (w58 : Value) (w59 : Value) (w60 : Value) (w61 : Value) (w62 : Value) (w63 : Value) (k : Int32) : Met l yX12_placeOf wz_c_M_placeOf ({ frames := 0, cells := 0, slots := 0, locals := 0 }) (va_Pc [.ref h0, .int k] (zB D y [(h0, .inr (16, [w1, w2, w3, w4, w5, w6, .int 0, w7, w8, w9, w10, w11, w12, w13, w14, w15, w16, w17, w18, w19, w20, w21, w22, w23, w24, w25, w26, w27, w28, w29, w30, w31, w32, w33, w34, w35, w36, w37, w38, w39, w40, w41, w42, w43, w44, w45, w46, w47, w48, w49, w50, w51, w52, w53, w54, w55, w56, w57, w58, w59, w60, w61, w62, w63]))] sz [] [] [] [])) (va_Qi (fun (r : Int32) (_ : Unit) => r = -1) (fun _ t => va_P D vwCl [(h0, .inr (16, [w1, w2, w3, w4, w5, w6, .int 0, w7, w8, w9, w10, w11, w12, w13, w14, w15, w16, w17, w18, w19, w20, w21, w22, w23, w24, w25, w26, w27, w28, w29, w30, w31, w32, w33, w34, w35, w36, w37, w38, w39, w40, w41, w42, w43, w44, w45, w46, w47, w48, w49, w50, w51, w52, w53, w54, w55, w56, w57, w58, w59, w60, w61, w62, w63]))] t.heap ∧ va_D (va_A [(h0, .inr (16, [w1, w2, w3, w4, w5, w6, .int 0, w7, w8, w9, w10, w11, w12, w13, w14, w15, w16, w17, w18, w19, w20, w21, w22, w23, w24, w25, w26, w27, w28, w29, w30, w31, w32, w33, w34, w35, w36, w37, w38, w39, w40, w41, w42, w43, w44, w45, w46, w47, w48, w49, w50, w51, w52, w53, w54, w55, w56, w57, w58, w59, w60, w61, w62, w63]))] sz) [(h0, .inr (16, [w1, w2, w3, w4, w5, w6, .int 0, w7, w8, w9, w10, w11, w12, w13, w14, w15, w16, w17, w18, w19, w20, w21, w22, w23, w24, w25, w26, w27, w28, w29, w30, w31, w32, w33, w34, w35, w36, w37, w38, w39, w40, w41, w42, w43, w44, w45, w46, w47, w48, w49, w50, w51, w52, w53, w54, w55, w56, w57, w58, w59, w60, w61, w62, w63]))]) (va_A [(h0, .inr (16, [w1, w2, w3, w4, w5, w6, .int 0, w7, w8, w9, w10, w11, w12, w13, w14, w15, w16, w17, w18, w19, w20, w21, w22, w23, w24, w25, w26, w27, w28, w29, w30, w31, w32, w33, w34, w35, w36, w37, w38, w39, w40, w41, w42, w43, w44, w45, w46, w47, w48, w49, w50, w51, w52, w53, w54, w55, w56, w57, w58, w59, w60, w61, w62, w63]))] sz)) 0 0 (va_A [(h0, .inr (16, [w1, w2, w3, w4, w5, w6, .int 0, w7, w8, w9, w10, w11, w12, w13, w14, w15, w16, w17, w18, w19, w20, w21, w22, w23, w24, w25, w26, w27, w28, w29, w30, w31, w32, w33, w34, w35, w36, w37, w38, w39, w40, w41, w42, w43, w44, w45, w46, w47, w48, w49, w50, w51, w52, w53, w54, w55, w56, w57, w58, w59, w60, w61, w62, w63]))] sz) := by
  refine Met.ofW (cc := cX12_placeOf) (maxL := 4) (ret := (some .int)) (by decide) rfl ?_
  intro p e s m args below meth c s₁ B hml hv
  obtain ⟨rfl, hsz, hP, hK, hD0, hN, hE, hO, hT, hG⟩ := hv
  have hx := B.exec
  have hb := B.bytes
  have hr := B.returns
  have hts := atoms_spec (ws := wz_c_M_placeOf) B.pre
  have hown : s.vm.findClass RX12 = some m.cls := findClass_of_methodNamed B.named
  have hlocks := B.notSynchronized
  subst hsz
  have hD := hD0.self (sz := s.heap.size)
  generalize hAe : va_A [(h0, .inr (16, [w1, w2, w3, w4, w5, w6, .int 0, w7, w8, w9, w10, w11, w12, w13, w14, w15, w16, w17, w18, w19, w20, w21, w22, w23, w24, w25, w26, w27, w28, w29, w30, w31, w32, w33, w34, w35, w36, w37, w38, w39, w40, w41, w42, w43, w44, w45, w46, w47, w48, w49, w50, w51, w52, w53, w54, w55, w56, w57, w58, w59, w60, w61, w62, w63]))] s.heap.size = A at hD hE hT hG ⊢
  have hA : ∀ q : Nat, s.heap.size ≤ q → A q := fun q h => by rw [← hAe]; exact Or.inr h
  have hS : va_S A s.heap s.heap [] := va_S.rf
  have hl := lv_entry ([.ref h0, .int k]) (n := 4) (Nat.le_of_ble_eq_true rfl)
  rw [lg_entry_eq]
  generalize (lg_sl ([.ref h0, .int k]) ++ List.replicate (4 - (lg_sl ([.ref h0, .int k])).length) Slot.unset).toArray = ls at hl ⊢
  have hl : lv_has ls 4 [(0, .ref h0), (1, .int k)] := hl
  refine lv_iconst (v := -1) hx hb dX12_placeOf_0 (by decide) ?_
  refine lv_istore_n (lv' := [(2, .int (-1)), (0, .ref h0), (1, .int k)]) hx hb dX12_placeOf_1 rfl hl (by decide) rfl (fun ls hl => ?_)
  refine lv_iconst (v := 0) hx hb dX12_placeOf_2 (by decide) ?_
  refine lv_istore_n (lv' := [(3, .int 0), (2, .int (-1)), (0, .ref h0), (1, .int k)]) hx hb dX12_placeOf_3 rfl hl (by decide) rfl (fun ls hl => ?_)
  refine lv_iload_n hx hb dX12_placeOf_4 rfl (lv_at hl 0 rfl) ?_
  refine lv_aload_n hx hb dX12_placeOf_5 rfl (lv_at hl 2 rfl) ?_
  refine va_get (D := D) (ci := 16) (v := .int 0) (C := RX12) (T := TX12) (N := 64) hx hb hts (by decide +kernel) hown hK hP 0 rfl rfl 6 (by decide) (hts (.fieldLink RX12 485 "SignetRingModel" "packets" "I") (by decide +kernel)) (fun _ h9 => h9) rfl dX12_placeOf_6 ?_
  refine lv_icmp_ge (tgt := 48) hx hb dX12_placeOf_9 (by decide) (fun _ => ?_) (fun c9 => absurd (by decide) c9)
  refine lv_iconst (v := -1) hx hb dX12_placeOf_48 (by decide) ?_
  have hP9 := hP.sub (ws' := [(h0, .inr (16, [w1, w2, w3, w4, w5, w6, .int 0, w7, w8, w9, w10, w11, w12, w13, w14, w15, w16, w17, w18, w19, w20, w21, w22, w23, w24, w25, w26, w27, w28, w29, w30, w31, w32, w33, w34, w35, w36, w37, w38, w39, w40, w41, w42, w43, w44, w45, w46, w47, w48, w49, w50, w51, w52, w53, w54, w55, w56, w57, w58, w59, w60, w61, w62, w63]))]) [0] rfl
  have hD9 := hD.sub (ws' := [(h0, .inr (16, [w1, w2, w3, w4, w5, w6, .int 0, w7, w8, w9, w10, w11, w12, w13, w14, w15, w16, w17, w18, w19, w20, w21, w22, w23, w24, w25, w26, w27, w28, w29, w30, w31, w32, w33, w34, w35, w36, w37, w38, w39, w40, w41, w42, w43, w44, w45, w46, w47, w48, w49, w50, w51, w52, w53, w54, w55, w56, w57, w58, w59, w60, w61, w62, w63]))]) [0] (by decide) rfl
  refine W.widen (k := 0) (n := 0) (Nat.le_of_ble_eq_true rfl) (Nat.le_of_ble_eq_true rfl) ?_
  exact W.iret (v := (-1)) hx hb hr (fun t ht hW => ⟨⟨(-1), (), rfl, rfl, by rw [ht]; exact hP9, hD9⟩, hS.F ht⟩) hS.2.2 dX12_placeOf_49
def wz_c_M_thingOf : List Cond := .code yX12_thingOf cX12_thingOf 4 (some .int) :: ([.methodLink RX12 590 yX12_placeOf, .instanceMethod yX12_placeOf, .selects RX12 yX12_placeOf yX12_placeOf, .initialized RX12] ++ (wz_c_M_placeOf ++ ([])))
set_option maxRecDepth 100000 in
theorem gz_c_M_thingOf_c_M_placeOf : GoodIn wz_c_M_thingOf wz_c_M_placeOf := goodIn_sub (fun w h => List.mem_cons_of_mem _ (List.mem_append_right _ (List.mem_append_left _ h))) (by decide +kernel)
set_option maxRecDepth 100000 in
theorem gv_c_M_thingOf_c_M_placeOf_590 : GoodIn wz_c_M_thingOf (wsV RX12 590 RX12 yX12_placeOf wz_c_M_placeOf) := goodIn_app (goodIn_of _ (by decide +kernel)) gz_c_M_thingOf_c_M_placeOf
set_option maxHeartbeats 4000000 in
set_option maxRecDepth 100000 in
theorem c_M_thingOf (l : Launch) (D : va_G) (y : Nat → ClassId) (sz : Nat) (h0 : Nat) (w1 : Value) (w2 : Value) (w3 : Value) (w4 : Value) (w5 : Value) (w6 : Value) (w7 : Value) (w8 : Value) (w9 : Value) (w10 : Value) (w11 : Value) (w12 : Value) (w13 : Value) (w14 : Value) (w15 : Value) (w16 : Value) (w17 : Value) (w18 : Value) (w19 : Value) (w20 : Value) (w21 : Value) (w22 : Value) (w23 : Value) (w24 : Value) (w25 : Value) (w26 : Value) (w27 : Value) (w28 : Value) (w29 : Value) (w30 : Value) (w31 : Value) (w32 : Value) (w33 : Value) (w34 : Value) (w35 : Value) (w36 : Value) (w37 : Value) (w38 : Value) (w39 : Value) (w40 : Value) (w41 : Value) (w42 : Value) (w43 : Value) (w44 : Value) (w45 : Value) (w46 : Value) (w47 : Value) (w48 : Value) (w49 : Value) (w50 : Value) (w51 : Value) (w52 : Value) (w53 : Value) (w54 : Value) (w55 : Value) (w56 : Value) (w57 : Value) (w58 : Value) (w59 : Value) (w60 : Value) (w61 : Value) (w62 : Value) (w63 : Value) (k : Int32) (pt : Int32) : Met l yX12_thingOf wz_c_M_thingOf ({ frames := 1, cells := 0, slots := 0, locals := 23 }) (va_Pc [.ref h0, .int k, .int pt] (zB D y [(h0, .inr (16, [w1, w2, w3, w4, w5, w6, .int 0, w7, w8, w9, w10, w11, w12, w13, w14, w15, w16, w17, w18, w19, w20, w21, w22, w23, w24, w25, w26, w27, w28, w29, w30, w31, w32, w33, w34, w35, w36, w37, w38, w39, w40, w41, w42, w43, w44, w45, w46, w47, w48, w49, w50, w51, w52, w53, w54, w55, w56, w57, w58, w59, w60, w61, w62, w63]))] sz [] [] [] [])) (va_Qi (fun (r : Int32) (_ : Unit) => r = -1) (fun _ t => va_P D vwCl [(h0, .inr (16, [w1, w2, w3, w4, w5, w6, .int 0, w7, w8, w9, w10, w11, w12, w13, w14, w15, w16, w17, w18, w19, w20, w21, w22, w23, w24, w25, w26, w27, w28, w29, w30, w31, w32, w33, w34, w35, w36, w37, w38, w39, w40, w41, w42, w43, w44, w45, w46, w47, w48, w49, w50, w51, w52, w53, w54, w55, w56, w57, w58, w59, w60, w61, w62, w63]))] t.heap ∧ va_D (va_A [(h0, .inr (16, [w1, w2, w3, w4, w5, w6, .int 0, w7, w8, w9, w10, w11, w12, w13, w14, w15, w16, w17, w18, w19, w20, w21, w22, w23, w24, w25, w26, w27, w28, w29, w30, w31, w32, w33, w34, w35, w36, w37, w38, w39, w40, w41, w42, w43, w44, w45, w46, w47, w48, w49, w50, w51, w52, w53, w54, w55, w56, w57, w58, w59, w60, w61, w62, w63]))] sz) [(h0, .inr (16, [w1, w2, w3, w4, w5, w6, .int 0, w7, w8, w9, w10, w11, w12, w13, w14, w15, w16, w17, w18, w19, w20, w21, w22, w23, w24, w25, w26, w27, w28, w29, w30, w31, w32, w33, w34, w35, w36, w37, w38, w39, w40, w41, w42, w43, w44, w45, w46, w47, w48, w49, w50, w51, w52, w53, w54, w55, w56, w57, w58, w59, w60, w61, w62, w63]))]) (va_A [(h0, .inr (16, [w1, w2, w3, w4, w5, w6, .int 0, w7, w8, w9, w10, w11, w12, w13, w14, w15, w16, w17, w18, w19, w20, w21, w22, w23, w24, w25, w26, w27, w28, w29, w30, w31, w32, w33, w34, w35, w36, w37, w38, w39, w40, w41, w42, w43, w44, w45, w46, w47, w48, w49, w50, w51, w52, w53, w54, w55, w56, w57, w58, w59, w60, w61, w62, w63]))] sz)) 0 0 (va_A [(h0, .inr (16, [w1, w2, w3, w4, w5, w6, .int 0, w7, w8, w9, w10, w11, w12, w13, w14, w15, w16, w17, w18, w19, w20, w21, w22, w23, w24, w25, w26, w27, w28, w29, w30, w31, w32, w33, w34, w35, w36, w37, w38, w39, w40, w41, w42, w43, w44, w45, w46, w47, w48, w49, w50, w51, w52, w53, w54, w55, w56, w57, w58, w59, w60, w61, w62, w63]))] sz) := by
  refine Met.ofW (cc := cX12_thingOf) (maxL := 4) (ret := (some .int)) (by decide) rfl ?_
  intro p e s m args below meth c s₁ B hml hv
  obtain ⟨rfl, hsz, hP, hK, hD0, hN, hE, hO, hT, hG⟩ := hv
  have hx := B.exec
  have hb := B.bytes
  have hr := B.returns
  have hts := atoms_spec (ws := wz_c_M_thingOf) B.pre
  have hown : s.vm.findClass RX12 = some m.cls := findClass_of_methodNamed B.named
  have hlocks := B.notSynchronized
  subst hsz
  have hD := hD0.self (sz := s.heap.size)
  generalize hAe : va_A [(h0, .inr (16, [w1, w2, w3, w4, w5, w6, .int 0, w7, w8, w9, w10, w11, w12, w13, w14, w15, w16, w17, w18, w19, w20, w21, w22, w23, w24, w25, w26, w27, w28, w29, w30, w31, w32, w33, w34, w35, w36, w37, w38, w39, w40, w41, w42, w43, w44, w45, w46, w47, w48, w49, w50, w51, w52, w53, w54, w55, w56, w57, w58, w59, w60, w61, w62, w63]))] s.heap.size = A at hD hE hT hG ⊢
  have hA : ∀ q : Nat, s.heap.size ≤ q → A q := fun q h => by rw [← hAe]; exact Or.inr h
  have hS : va_S A s.heap s.heap [] := va_S.rf
  have hl := lv_entry ([.ref h0, .int k, .int pt]) (n := 4) (Nat.le_of_ble_eq_true rfl)
  rw [lg_entry_eq]
  generalize (lg_sl ([.ref h0, .int k, .int pt]) ++ List.replicate (4 - (lg_sl ([.ref h0, .int k, .int pt])).length) Slot.unset).toArray = ls at hl ⊢
  have hl : lv_has ls 4 [(0, .ref h0), (1, .int k), (2, .int pt)] := hl
  refine lv_aload_n hx hb dX12_thingOf_0 rfl (lv_at hl 0 rfl) ?_
  refine lv_iload_n hx hb dX12_thingOf_1 rfl (lv_at hl 1 rfl) ?_
  have hPc := hP.sub (ws' := [(h0, .inr (16, [w1, w2, w3, w4, w5, w6, .int 0, w7, w8, w9, w10, w11, w12, w13, w14, w15, w16, w17, w18, w19, w20, w21, w22, w23, w24, w25, w26, w27, w28, w29, w30, w31, w32, w33, w34, w35, w36, w37, w38, w39, w40, w41, w42, w43, w44, w45, w46, w47, w48, w49, w50, w51, w52, w53, w54, w55, w56, w57, w58, w59, w60, w61, w62, w63]))]) [0] rfl
  have hDc := hD.sub (ws' := [(h0, .inr (16, [w1, w2, w3, w4, w5, w6, .int 0, w7, w8, w9, w10, w11, w12, w13, w14, w15, w16, w17, w18, w19, w20, w21, w22, w23, w24, w25, w26, w27, w28, w29, w30, w31, w32, w33, w34, w35, w36, w37, w38, w39, w40, w41, w42, w43, w44, w45, w46, w47, w48, w49, w50, w51, w52, w53, w54, w55, w56, w57, w58, w59, w60, w61, w62, w63]))]) [0] (by decide) rfl
  have hFc := va_free (wc := [(h0, .inr (16, [w1, w2, w3, w4, w5, w6, .int 0, w7, w8, w9, w10, w11, w12, w13, w14, w15, w16, w17, w18, w19, w20, w21, w22, w23, w24, w25, w26, w27, w28, w29, w30, w31, w32, w33, w34, w35, w36, w37, w38, w39, w40, w41, w42, w43, w44, w45, w46, w47, w48, w49, w50, w51, w52, w53, w54, w55, w56, w57, w58, w59, w60, w61, w62, w63]))]) hD hS hA [0] rfl
  refine va_calli (va_runV (As := [.int k]) (rest := []) ⟨hx, hb, hml, hown, hts⟩ (c_M_placeOf l D y s.heap.size h0 w1 w2 w3 w4 w5 w6 w7 w8 w9 w10 w11 w12 w13 w14 w15 w16 w17 w18 w19 w20 w21 w22 w23 w24 w25 w26 w27 w28 w29 w30 w31 w32 w33 w34 w35 w36 w37 w38 w39 w40 w41 w42 w43 w44 w45 w46 w47 w48 w49 w50 w51 w52 w53 w54 w55 w56 w57 w58 w59 w60 w61 w62 w63 k) (cwV 1 hts gv_c_M_thingOf_c_M_placeOf_590 rfl rfl rfl (by decide +kernel) ⟨(Nat.le_of_ble_eq_true rfl), (Nat.le_of_ble_eq_true rfl)⟩) (zB.preV hPc hDc hK hN hE hO hT hG hS hFc (fun _ h => nomatch h) (fun _ h => nomatch h) (fun _ h => nomatch h) (fun _ h => nomatch h) (va_recv hK hPc (ci := 16) (q0 := 0) rfl rfl)) rfl rfl hl.1 rfl (lv_room (Nat.le_of_ble_eq_true rfl)) dX12_thingOf_2 ⟨(Nat.le_of_ble_eq_true rfl), (Nat.le_of_ble_eq_true rfl)⟩) hS (fun q _ h => hFc q h) hFc (fun r1 u t H1 locs ht hvm hw hB hz1 hk1 hS => ?_)
  obtain ⟨hP1, hD1⟩ := hB
  rw [ht] at hP1
  obtain ⟨hP, hD⟩ := va_join (wr := []) (w1 := [(h0, .inr (16, [w1, w2, w3, w4, w5, w6, .int 0, w7, w8, w9, w10, w11, w12, w13, w14, w15, w16, w17, w18, w19, w20, w21, w22, w23, w24, w25, w26, w27, w28, w29, w30, w31, w32, w33, w34, w35, w36, w37, w38, w39, w40, w41, w42, w43, w44, w45, w46, w47, w48, w49, w50, w51, w52, w53, w54, w55, w56, w57, w58, w59, w60, w61, w62, w63]))]) hP hD [0] [] rfl rfl (by decide) (by decide) hk1 hFc hP1 hD1
  generalize H1 = H at hP hS ⊢
  have hP : va_P D vwCl [(h0, .inr (16, [w1, w2, w3, w4, w5, w6, .int 0, w7, w8, w9, w10, w11, w12, w13, w14, w15, w16, w17, w18, w19, w20, w21, w22, w23, w24, w25, w26, w27, w28, w29, w30, w31, w32, w33, w34, w35, w36, w37, w38, w39, w40, w41, w42, w43, w44, w45, w46, w47, w48, w49, w50, w51, w52, w53, w54, w55, w56, w57, w58, w59, w60, w61, w62, w63]))] H := hP
  have hD : va_D A [(h0, .inr (16, [w1, w2, w3, w4, w5, w6, .int 0, w7, w8, w9, w10, w11, w12, w13, w14, w15, w16, w17, w18, w19, w20, w21, w22, w23, w24, w25, w26, w27, w28, w29, w30, w31, w32, w33, w34, w35, w36, w37, w38, w39, w40, w41, w42, w43, w44, w45, w46, w47, w48, w49, w50, w51, w52, w53, w54, w55, w56, w57, w58, w59, w60, w61, w62, w63]))] := hD
  have hw : r1 = -1 := hw
  subst hw
  refine lv_istore_n (lv' := [(3, .int (-1)), (0, .ref h0), (1, .int k), (2, .int pt)]) hx hb dX12_thingOf_5 rfl hl (by decide) rfl (fun ls hl => ?_)
  refine lv_iload_n hx hb dX12_thingOf_6 rfl (lv_at hl 0 rfl) ?_
  refine lv_iconst (v := -1) hx hb dX12_thingOf_7 (by decide) ?_
  refine lv_icmp_ne (tgt := 15) hx hb dX12_thingOf_8 (by decide) (fun c9 => absurd (by decide) c9) (fun _ => ?_)
  refine lv_iconst (v := -1) hx hb dX12_thingOf_11 (by decide) ?_
  refine lv_goto (tgt := 21) hx hb dX12_thingOf_12 (by decide) ?_
  have hP9 := hP.sub (ws' := [(h0, .inr (16, [w1, w2, w3, w4, w5, w6, .int 0, w7, w8, w9, w10, w11, w12, w13, w14, w15, w16, w17, w18, w19, w20, w21, w22, w23, w24, w25, w26, w27, w28, w29, w30, w31, w32, w33, w34, w35, w36, w37, w38, w39, w40, w41, w42, w43, w44, w45, w46, w47, w48, w49, w50, w51, w52, w53, w54, w55, w56, w57, w58, w59, w60, w61, w62, w63]))]) [0] rfl
  have hD9 := hD.sub (ws' := [(h0, .inr (16, [w1, w2, w3, w4, w5, w6, .int 0, w7, w8, w9, w10, w11, w12, w13, w14, w15, w16, w17, w18, w19, w20, w21, w22, w23, w24, w25, w26, w27, w28, w29, w30, w31, w32, w33, w34, w35, w36, w37, w38, w39, w40, w41, w42, w43, w44, w45, w46, w47, w48, w49, w50, w51, w52, w53, w54, w55, w56, w57, w58, w59, w60, w61, w62, w63]))]) [0] (by decide) rfl
  refine W.widen (k := 0) (n := 0) (Nat.le_of_ble_eq_true rfl) (Nat.le_of_ble_eq_true rfl) ?_
  exact W.iret (v := (-1)) hx hb hr (fun t ht hW => ⟨⟨(-1), (), rfl, rfl, by rw [ht]; exact hP9, hD9⟩, hS.F ht⟩) hS.2.2 dX12_thingOf_21
def wz_c_M_keys : List Cond := .code yX12_keys cX12_keys 3 (some .int) :: ([.fieldLink RX12 78 "SignetRingModel" "thrown" "I", .fieldLink RX12 485 "SignetRingModel" "packets" "I"] ++ (wsX120 ++ ([])))
set_option maxHeartbeats 4000000 in
set_option maxRecDepth 100000 in
theorem c_M_keys (l : Launch) (D : va_G) (y : Nat → ClassId) (sz : Nat) (h0 : Nat) (w1 : Value) (w2 : Value) (w3 : Value) (w4 : Value) (w5 : Value) (w6 : Value) (w7 : Value) (w8 : Value) (w9 : Value) (w10 : Value) (w11 : Value) (w12 : Value) (w13 : Value) (w14 : Value) (w15 : Value) (w16 : Value) (w17 : Value) (w18 : Value) (w19 : Value) (w20 : Value) (w21 : Value) (w22 : Value) (w23 : Value) (w24 : Value) (w25 : Value) (w26 : Value) (w27 : Value) (w28 : Value) (w29 : Value) (w30 : Value) (w31 : Value) (w32 : Value) (w33 : Value) (w34 : Value) (w35 : Value) (w36 : Value) (w37 : Value) (w38 : Value) (w39 : Value) (w40 : Value) (w41 : Value) (w42 : Value) (w43 : Value) (w44 : Value) (w45 : Value) (w46 : Value) (w47 : Value) (w48 : Value) (w49 : Value) (w50 : Value) (w51 : Value) (w52 : Value) (w53 : Value) (w54 : Value) (w55 : Value) (w56 : Value) (w57 : Value) (w58 : Value) (w59 : Value) (w60 : Value) (w61 : Value) (w62 : Value) (w63 : Value) : Met l yX12_keys wz_c_M_keys ({ frames := 0, cells := 0, slots := 0, locals := 0 }) (va_Pc [.ref h0] (zB D y [(h0, .inr (16, [w1, w2, w3, w4, w5, w6, .int 0, w7, w8, w9, w10, w11, w12, w13, w14, w15, w16, w17, w18, w19, w20, w21, w22, w23, w24, w25, w26, w27, w28, w29, w30, w31, w32, w33, w34, w35, w36, w37, w38, w39, w40, w41, w42, w43, w44, w45, w46, w47, w48, w49, w50, w51, w52, w53, w54, w55, w56, w57, w58, w59, w60, w61, w62, w63]))] sz [] [] [] [])) (va_Qi (fun (r : Int32) (_ : Unit) => r = 0) (fun _ t => va_P D vwCl [(h0, .inr (16, [.int 0, w2, w3, w4, w5, w6, .int 0, w7, w8, w9, w10, w11, w12, w13, w14, w15, w16, w17, w18, w19, w20, w21, w22, w23, w24, w25, w26, w27, w28, w29, w30, w31, w32, w33, w34, w35, w36, w37, w38, w39, w40, w41, w42, w43, w44, w45, w46, w47, w48, w49, w50, w51, w52, w53, w54, w55, w56, w57, w58, w59, w60, w61, w62, w63]))] t.heap ∧ va_D (va_A [(h0, .inr (16, [w1, w2, w3, w4, w5, w6, .int 0, w7, w8, w9, w10, w11, w12, w13, w14, w15, w16, w17, w18, w19, w20, w21, w22, w23, w24, w25, w26, w27, w28, w29, w30, w31, w32, w33, w34, w35, w36, w37, w38, w39, w40, w41, w42, w43, w44, w45, w46, w47, w48, w49, w50, w51, w52, w53, w54, w55, w56, w57, w58, w59, w60, w61, w62, w63]))] sz) [(h0, .inr (16, [.int 0, w2, w3, w4, w5, w6, .int 0, w7, w8, w9, w10, w11, w12, w13, w14, w15, w16, w17, w18, w19, w20, w21, w22, w23, w24, w25, w26, w27, w28, w29, w30, w31, w32, w33, w34, w35, w36, w37, w38, w39, w40, w41, w42, w43, w44, w45, w46, w47, w48, w49, w50, w51, w52, w53, w54, w55, w56, w57, w58, w59, w60, w61, w62, w63]))]) (va_A [(h0, .inr (16, [w1, w2, w3, w4, w5, w6, .int 0, w7, w8, w9, w10, w11, w12, w13, w14, w15, w16, w17, w18, w19, w20, w21, w22, w23, w24, w25, w26, w27, w28, w29, w30, w31, w32, w33, w34, w35, w36, w37, w38, w39, w40, w41, w42, w43, w44, w45, w46, w47, w48, w49, w50, w51, w52, w53, w54, w55, w56, w57, w58, w59, w60, w61, w62, w63]))] sz)) 0 0 (va_A [(h0, .inr (16, [w1, w2, w3, w4, w5, w6, .int 0, w7, w8, w9, w10, w11, w12, w13, w14, w15, w16, w17, w18, w19, w20, w21, w22, w23, w24, w25, w26, w27, w28, w29, w30, w31, w32, w33, w34, w35, w36, w37, w38, w39, w40, w41, w42, w43, w44, w45, w46, w47, w48, w49, w50, w51, w52, w53, w54, w55, w56, w57, w58, w59, w60, w61, w62, w63]))] sz) := by
  refine Met.ofW (cc := cX12_keys) (maxL := 3) (ret := (some .int)) (by decide) rfl ?_
  intro p e s m args below meth c s₁ B hml hv
  obtain ⟨rfl, hsz, hP, hK, hD0, hN, hE, hO, hT, hG⟩ := hv
  have hx := B.exec
  have hb := B.bytes
  have hr := B.returns
  have hts := atoms_spec (ws := wz_c_M_keys) B.pre
  have hown : s.vm.findClass RX12 = some m.cls := findClass_of_methodNamed B.named
  have hlocks := B.notSynchronized
  subst hsz
  have hD := hD0.self (sz := s.heap.size)
  generalize hAe : va_A [(h0, .inr (16, [w1, w2, w3, w4, w5, w6, .int 0, w7, w8, w9, w10, w11, w12, w13, w14, w15, w16, w17, w18, w19, w20, w21, w22, w23, w24, w25, w26, w27, w28, w29, w30, w31, w32, w33, w34, w35, w36, w37, w38, w39, w40, w41, w42, w43, w44, w45, w46, w47, w48, w49, w50, w51, w52, w53, w54, w55, w56, w57, w58, w59, w60, w61, w62, w63]))] s.heap.size = A at hD hE hT hG ⊢
  have hA : ∀ q : Nat, s.heap.size ≤ q → A q := fun q h => by rw [← hAe]; exact Or.inr h
  have hS : va_S A s.heap s.heap [] := va_S.rf
  have hl := lv_entry ([.ref h0]) (n := 3) (Nat.le_of_ble_eq_true rfl)
  rw [lg_entry_eq]
  generalize (lg_sl ([.ref h0]) ++ List.replicate (3 - (lg_sl ([.ref h0])).length) Slot.unset).toArray = ls at hl ⊢
  have hl : lv_has ls 3 [(0, .ref h0)] := hl
  refine lv_aload_n hx hb dX12_keys_0 rfl (lv_at hl 0 rfl) ?_
  refine lv_iconst (v := 0) hx hb dX12_keys_1 (by decide) ?_
  refine va_put (D := D) (ci := 16) (v := .int 0) (ty := .int) (C := RX12) (T := TX12) (N := 64) hx hb hts (by decide +kernel) tyX12 tyX12_ok nmX12 hown hK hP hD hS 0 rfl rfl 0 (by decide) (hts (.fieldLink RX12 78 "SignetRingModel" "thrown" "I") (by decide +kernel)) (fun _ h9 => h9) rfl (by decide +kernel) rfl rfl (Nat.le_of_ble_eq_true rfl) dX12_keys_2 (fun H locs hP hD hS => ?_)
  have hP : va_P D vwCl [(h0, .inr (16, [.int 0, w2, w3, w4, w5, w6, .int 0, w7, w8, w9, w10, w11, w12, w13, w14, w15, w16, w17, w18, w19, w20, w21, w22, w23, w24, w25, w26, w27, w28, w29, w30, w31, w32, w33, w34, w35, w36, w37, w38, w39, w40, w41, w42, w43, w44, w45, w46, w47, w48, w49, w50, w51, w52, w53, w54, w55, w56, w57, w58, w59, w60, w61, w62, w63]))] H := hP
  have hD : va_D A [(h0, .inr (16, [.int 0, w2, w3, w4, w5, w6, .int 0, w7, w8, w9, w10, w11, w12, w13, w14, w15, w16, w17, w18, w19, w20, w21, w22, w23, w24, w25, w26, w27, w28, w29, w30, w31, w32, w33, w34, w35, w36, w37, w38, w39, w40, w41, w42, w43, w44, w45, w46, w47, w48, w49, w50, w51, w52, w53, w54, w55, w56, w57, w58, w59, w60, w61, w62, w63]))] := hD
  refine lv_iconst (v := 0) hx hb dX12_keys_5 (by decide) ?_
  refine lv_istore_n (lv' := [(1, .int 0), (0, .ref h0)]) hx hb dX12_keys_6 rfl hl (by decide) rfl (fun ls hl => ?_)
  refine lv_iconst (v := 0) hx hb dX12_keys_7 (by decide) ?_
  refine lv_istore_n (lv' := [(2, .int 0), (1, .int 0), (0, .ref h0)]) hx hb dX12_keys_8 rfl hl (by decide) rfl (fun ls hl => ?_)
  refine lv_iload_n hx hb dX12_keys_9 rfl (lv_at hl 0 rfl) ?_
  refine lv_aload_n hx hb dX12_keys_10 rfl (lv_at hl 2 rfl) ?_
  refine va_get (D := D) (ci := 16) (v := .int 0) (C := RX12) (T := TX12) (N := 64) hx hb hts (by decide +kernel) hown hK hP 0 rfl rfl 6 (by decide) (hts (.fieldLink RX12 485 "SignetRingModel" "packets" "I") (by decide +kernel)) (fun _ h9 => h9) rfl dX12_keys_11 ?_
  refine lv_icmp_ge (tgt := 42) hx hb dX12_keys_14 (by decide) (fun _ => ?_) (fun c9 => absurd (by decide) c9)
  refine lv_iload_n hx hb dX12_keys_42 rfl (lv_at hl 1 rfl) ?_
  have hP9 := hP.sub (ws' := [(h0, .inr (16, [.int 0, w2, w3, w4, w5, w6, .int 0, w7, w8, w9, w10, w11, w12, w13, w14, w15, w16, w17, w18, w19, w20, w21, w22, w23, w24, w25, w26, w27, w28, w29, w30, w31, w32, w33, w34, w35, w36, w37, w38, w39, w40, w41, w42, w43, w44, w45, w46, w47, w48, w49, w50, w51, w52, w53, w54, w55, w56, w57, w58, w59, w60, w61, w62, w63]))]) [0] rfl
  have hD9 := hD.sub (ws' := [(h0, .inr (16, [.int 0, w2, w3, w4, w5, w6, .int 0, w7, w8, w9, w10, w11, w12, w13, w14, w15, w16, w17, w18, w19, w20, w21, w22, w23, w24, w25, w26, w27, w28, w29, w30, w31, w32, w33, w34, w35, w36, w37, w38, w39, w40, w41, w42, w43, w44, w45, w46, w47, w48, w49, w50, w51, w52, w53, w54, w55, w56, w57, w58, w59, w60, w61, w62, w63]))]) [0] (by decide) rfl
  refine W.widen (k := 0) (n := 0) (Nat.le_of_ble_eq_true rfl) (Nat.le_of_ble_eq_true rfl) ?_
  exact W.iret (v := 0) hx hb hr (fun t ht hW => ⟨⟨0, (), rfl, rfl, by rw [ht]; exact hP9, hD9⟩, hS.F ht⟩) hS.2.2 dX12_keys_43
def wz_c_M_key : List Cond := .code yX12_key cX12_key 5 (some .long) :: ([.methodLink RX12 590 yX12_placeOf, .instanceMethod yX12_placeOf, .selects RX12 yX12_placeOf yX12_placeOf, .initialized RX12, .fieldLink RX12 78 "SignetRingModel" "thrown" "I"] ++ (wsX120 ++ (wz_c_M_placeOf ++ ([]))))
set_option maxRecDepth 100000 in
theorem gz_c_M_key_c_M_placeOf : GoodIn wz_c_M_key wz_c_M_placeOf := goodIn_sub (fun w h => List.mem_cons_of_mem _ (List.mem_append_right _ (List.mem_append_right _ (List.mem_append_left _ h)))) (by decide +kernel)
set_option maxRecDepth 100000 in
theorem gv_c_M_key_c_M_placeOf_590 : GoodIn wz_c_M_key (wsV RX12 590 RX12 yX12_placeOf wz_c_M_placeOf) := goodIn_app (goodIn_of _ (by decide +kernel)) gz_c_M_key_c_M_placeOf
set_option maxHeartbeats 4000000 in
set_option maxRecDepth 100000 in
theorem c_M_key (l : Launch) (D : va_G) (y : Nat → ClassId) (sz : Nat) (h0 : Nat) (w1 : Value) (w2 : Value) (w3 : Value) (w4 : Value) (w5 : Value) (w6 : Value) (w7 : Value) (w8 : Value) (w9 : Value) (w10 : Value) (w11 : Value) (w12 : Value) (w13 : Value) (w14 : Value) (w15 : Value) (w16 : Value) (w17 : Value) (w18 : Value) (w19 : Value) (w20 : Value) (w21 : Value) (w22 : Value) (w23 : Value) (w24 : Value) (w25 : Value) (w26 : Value) (w27 : Value) (w28 : Value) (w29 : Value) (w30 : Value) (w31 : Value) (w32 : Value) (w33 : Value) (w34 : Value) (w35 : Value) (w36 : Value) (w37 : Value) (w38 : Value) (w39 : Value) (w40 : Value) (w41 : Value) (w42 : Value) (w43 : Value) (w44 : Value) (w45 : Value) (w46 : Value) (w47 : Value) (w48 : Value) (w49 : Value) (w50 : Value) (w51 : Value) (w52 : Value) (w53 : Value) (w54 : Value) (w55 : Value) (w56 : Value) (w57 : Value) (w58 : Value) (w59 : Value) (w60 : Value) (w61 : Value) (w62 : Value) (w63 : Value) (k : Int32) (wh : Int32) : Met l yX12_key wz_c_M_key ({ frames := 1, cells := 0, slots := 0, locals := 23 }) (va_Pc [.ref h0, .int k, .int wh] (zB D y [(h0, .inr (16, [w1, w2, w3, w4, w5, w6, .int 0, w7, w8, w9, w10, w11, w12, w13, w14, w15, w16, w17, w18, w19, w20, w21, w22, w23, w24, w25, w26, w27, w28, w29, w30, w31, w32, w33, w34, w35, w36, w37, w38, w39, w40, w41, w42, w43, w44, w45, w46, w47, w48, w49, w50, w51, w52, w53, w54, w55, w56, w57, w58, w59, w60, w61, w62, w63]))] sz [] [] [] [])) (va_Ql (fun (r : Int64) (_ : Unit) => r = 0) (fun _ t => va_P D vwCl [(h0, .inr (16, [.int 1, w2, w3, w4, w5, w6, .int 0, w7, w8, w9, w10, w11, w12, w13, w14, w15, w16, w17, w18, w19, w20, w21, w22, w23, w24, w25, w26, w27, w28, w29, w30, w31, w32, w33, w34, w35, w36, w37, w38, w39, w40, w41, w42, w43, w44, w45, w46, w47, w48, w49, w50, w51, w52, w53, w54, w55, w56, w57, w58, w59, w60, w61, w62, w63]))] t.heap ∧ va_D (va_A [(h0, .inr (16, [w1, w2, w3, w4, w5, w6, .int 0, w7, w8, w9, w10, w11, w12, w13, w14, w15, w16, w17, w18, w19, w20, w21, w22, w23, w24, w25, w26, w27, w28, w29, w30, w31, w32, w33, w34, w35, w36, w37, w38, w39, w40, w41, w42, w43, w44, w45, w46, w47, w48, w49, w50, w51, w52, w53, w54, w55, w56, w57, w58, w59, w60, w61, w62, w63]))] sz) [(h0, .inr (16, [.int 1, w2, w3, w4, w5, w6, .int 0, w7, w8, w9, w10, w11, w12, w13, w14, w15, w16, w17, w18, w19, w20, w21, w22, w23, w24, w25, w26, w27, w28, w29, w30, w31, w32, w33, w34, w35, w36, w37, w38, w39, w40, w41, w42, w43, w44, w45, w46, w47, w48, w49, w50, w51, w52, w53, w54, w55, w56, w57, w58, w59, w60, w61, w62, w63]))]) (va_A [(h0, .inr (16, [w1, w2, w3, w4, w5, w6, .int 0, w7, w8, w9, w10, w11, w12, w13, w14, w15, w16, w17, w18, w19, w20, w21, w22, w23, w24, w25, w26, w27, w28, w29, w30, w31, w32, w33, w34, w35, w36, w37, w38, w39, w40, w41, w42, w43, w44, w45, w46, w47, w48, w49, w50, w51, w52, w53, w54, w55, w56, w57, w58, w59, w60, w61, w62, w63]))] sz)) 0 0 (va_A [(h0, .inr (16, [w1, w2, w3, w4, w5, w6, .int 0, w7, w8, w9, w10, w11, w12, w13, w14, w15, w16, w17, w18, w19, w20, w21, w22, w23, w24, w25, w26, w27, w28, w29, w30, w31, w32, w33, w34, w35, w36, w37, w38, w39, w40, w41, w42, w43, w44, w45, w46, w47, w48, w49, w50, w51, w52, w53, w54, w55, w56, w57, w58, w59, w60, w61, w62, w63]))] sz) := by
  refine Met.ofW (cc := cX12_key) (maxL := 5) (ret := (some .long)) (by decide) rfl ?_
  intro p e s m args below meth c s₁ B hml hv
  obtain ⟨rfl, hsz, hP, hK, hD0, hN, hE, hO, hT, hG⟩ := hv
  have hx := B.exec
  have hb := B.bytes
  have hr := B.returns
  have hts := atoms_spec (ws := wz_c_M_key) B.pre
  have hown : s.vm.findClass RX12 = some m.cls := findClass_of_methodNamed B.named
  have hlocks := B.notSynchronized
  subst hsz
  have hD := hD0.self (sz := s.heap.size)
  generalize hAe : va_A [(h0, .inr (16, [w1, w2, w3, w4, w5, w6, .int 0, w7, w8, w9, w10, w11, w12, w13, w14, w15, w16, w17, w18, w19, w20, w21, w22, w23, w24, w25, w26, w27, w28, w29, w30, w31, w32, w33, w34, w35, w36, w37, w38, w39, w40, w41, w42, w43, w44, w45, w46, w47, w48, w49, w50, w51, w52, w53, w54, w55, w56, w57, w58, w59, w60, w61, w62, w63]))] s.heap.size = A at hD hE hT hG ⊢
  have hA : ∀ q : Nat, s.heap.size ≤ q → A q := fun q h => by rw [← hAe]; exact Or.inr h
  have hS : va_S A s.heap s.heap [] := va_S.rf
  have hl := lv_entry ([.ref h0, .int k, .int wh]) (n := 5) (Nat.le_of_ble_eq_true rfl)
  rw [lg_entry_eq]
  generalize (lg_sl ([.ref h0, .int k, .int wh]) ++ List.replicate (5 - (lg_sl ([.ref h0, .int k, .int wh])).length) Slot.unset).toArray = ls at hl ⊢
  have hl : lv_has ls 5 [(0, .ref h0), (1, .int k), (2, .int wh)] := hl
  refine lv_aload_n hx hb dX12_key_0 rfl (lv_at hl 0 rfl) ?_
  refine lv_iload_n hx hb dX12_key_1 rfl (lv_at hl 1 rfl) ?_
  have hPc := hP.sub (ws' := [(h0, .inr (16, [w1, w2, w3, w4, w5, w6, .int 0, w7, w8, w9, w10, w11, w12, w13, w14, w15, w16, w17, w18, w19, w20, w21, w22, w23, w24, w25, w26, w27, w28, w29, w30, w31, w32, w33, w34, w35, w36, w37, w38, w39, w40, w41, w42, w43, w44, w45, w46, w47, w48, w49, w50, w51, w52, w53, w54, w55, w56, w57, w58, w59, w60, w61, w62, w63]))]) [0] rfl
  have hDc := hD.sub (ws' := [(h0, .inr (16, [w1, w2, w3, w4, w5, w6, .int 0, w7, w8, w9, w10, w11, w12, w13, w14, w15, w16, w17, w18, w19, w20, w21, w22, w23, w24, w25, w26, w27, w28, w29, w30, w31, w32, w33, w34, w35, w36, w37, w38, w39, w40, w41, w42, w43, w44, w45, w46, w47, w48, w49, w50, w51, w52, w53, w54, w55, w56, w57, w58, w59, w60, w61, w62, w63]))]) [0] (by decide) rfl
  have hFc := va_free (wc := [(h0, .inr (16, [w1, w2, w3, w4, w5, w6, .int 0, w7, w8, w9, w10, w11, w12, w13, w14, w15, w16, w17, w18, w19, w20, w21, w22, w23, w24, w25, w26, w27, w28, w29, w30, w31, w32, w33, w34, w35, w36, w37, w38, w39, w40, w41, w42, w43, w44, w45, w46, w47, w48, w49, w50, w51, w52, w53, w54, w55, w56, w57, w58, w59, w60, w61, w62, w63]))]) hD hS hA [0] rfl
  refine va_calli (va_runV (As := [.int k]) (rest := []) ⟨hx, hb, hml, hown, hts⟩ (c_M_placeOf l D y s.heap.size h0 w1 w2 w3 w4 w5 w6 w7 w8 w9 w10 w11 w12 w13 w14 w15 w16 w17 w18 w19 w20 w21 w22 w23 w24 w25 w26 w27 w28 w29 w30 w31 w32 w33 w34 w35 w36 w37 w38 w39 w40 w41 w42 w43 w44 w45 w46 w47 w48 w49 w50 w51 w52 w53 w54 w55 w56 w57 w58 w59 w60 w61 w62 w63 k) (cwV 1 hts gv_c_M_key_c_M_placeOf_590 rfl rfl rfl (by decide +kernel) ⟨(Nat.le_of_ble_eq_true rfl), (Nat.le_of_ble_eq_true rfl)⟩) (zB.preV hPc hDc hK hN hE hO hT hG hS hFc (fun _ h => nomatch h) (fun _ h => nomatch h) (fun _ h => nomatch h) (fun _ h => nomatch h) (va_recv hK hPc (ci := 16) (q0 := 0) rfl rfl)) rfl rfl hl.1 rfl (lv_room (Nat.le_of_ble_eq_true rfl)) dX12_key_2 ⟨(Nat.le_of_ble_eq_true rfl), (Nat.le_of_ble_eq_true rfl)⟩) hS (fun q _ h => hFc q h) hFc (fun r1 u t H1 locs ht hvm hw hB hz1 hk1 hS => ?_)
  obtain ⟨hP1, hD1⟩ := hB
  rw [ht] at hP1
  obtain ⟨hP, hD⟩ := va_join (wr := []) (w1 := [(h0, .inr (16, [w1, w2, w3, w4, w5, w6, .int 0, w7, w8, w9, w10, w11, w12, w13, w14, w15, w16, w17, w18, w19, w20, w21, w22, w23, w24, w25, w26, w27, w28, w29, w30, w31, w32, w33, w34, w35, w36, w37, w38, w39, w40, w41, w42, w43, w44, w45, w46, w47, w48, w49, w50, w51, w52, w53, w54, w55, w56, w57, w58, w59, w60, w61, w62, w63]))]) hP hD [0] [] rfl rfl (by decide) (by decide) hk1 hFc hP1 hD1
  generalize H1 = H at hP hS ⊢
  have hP : va_P D vwCl [(h0, .inr (16, [w1, w2, w3, w4, w5, w6, .int 0, w7, w8, w9, w10, w11, w12, w13, w14, w15, w16, w17, w18, w19, w20, w21, w22, w23, w24, w25, w26, w27, w28, w29, w30, w31, w32, w33, w34, w35, w36, w37, w38, w39, w40, w41, w42, w43, w44, w45, w46, w47, w48, w49, w50, w51, w52, w53, w54, w55, w56, w57, w58, w59, w60, w61, w62, w63]))] H := hP
  have hD : va_D A [(h0, .inr (16, [w1, w2, w3, w4, w5, w6, .int 0, w7, w8, w9, w10, w11, w12, w13, w14, w15, w16, w17, w18, w19, w20, w21, w22, w23, w24, w25, w26, w27, w28, w29, w30, w31, w32, w33, w34, w35, w36, w37, w38, w39, w40, w41, w42, w43, w44, w45, w46, w47, w48, w49, w50, w51, w52, w53, w54, w55, w56, w57, w58, w59, w60, w61, w62, w63]))] := hD
  have hw : r1 = -1 := hw
  subst hw
  refine lv_istore_n (lv' := [(3, .int (-1)), (0, .ref h0), (1, .int k), (2, .int wh)]) hx hb dX12_key_5 rfl hl (by decide) rfl (fun ls hl => ?_)
  refine lv_aload_n hx hb dX12_key_6 rfl (lv_at hl 1 rfl) ?_
  refine lv_iload_n hx hb dX12_key_7 rfl (lv_at hl 0 rfl) ?_
  refine lv_iconst (v := -1) hx hb dX12_key_8 (by decide) ?_
  refine lv_icmp_eq (tgt := 21) hx hb dX12_key_9 (by decide) (fun _ => ?_) (fun c9 => absurd (by decide) c9)
  refine lv_iconst (v := 1) hx hb dX12_key_21 (by decide) ?_
  refine lv_goto (tgt := 26) hx hb dX12_key_22 (by decide) ?_
  refine va_put (D := D) (ci := 16) (v := .int 1) (ty := .int) (C := RX12) (T := TX12) (N := 64) hx hb hts (by decide +kernel) tyX12 tyX12_ok nmX12 hown hK hP hD hS 0 rfl rfl 0 (by decide) (hts (.fieldLink RX12 78 "SignetRingModel" "thrown" "I") (by decide +kernel)) (fun _ h9 => h9) rfl (by decide +kernel) rfl rfl (Nat.le_of_ble_eq_true rfl) dX12_key_26 (fun H locs hP hD hS => ?_)
  have hP : va_P D vwCl [(h0, .inr (16, [.int 1, w2, w3, w4, w5, w6, .int 0, w7, w8, w9, w10, w11, w12, w13, w14, w15, w16, w17, w18, w19, w20, w21, w22, w23, w24, w25, w26, w27, w28, w29, w30, w31, w32, w33, w34, w35, w36, w37, w38, w39, w40, w41, w42, w43, w44, w45, w46, w47, w48, w49, w50, w51, w52, w53, w54, w55, w56, w57, w58, w59, w60, w61, w62, w63]))] H := hP
  have hD : va_D A [(h0, .inr (16, [.int 1, w2, w3, w4, w5, w6, .int 0, w7, w8, w9, w10, w11, w12, w13, w14, w15, w16, w17, w18, w19, w20, w21, w22, w23, w24, w25, w26, w27, w28, w29, w30, w31, w32, w33, w34, w35, w36, w37, w38, w39, w40, w41, w42, w43, w44, w45, w46, w47, w48, w49, w50, w51, w52, w53, w54, w55, w56, w57, w58, w59, w60, w61, w62, w63]))] := hD
  refine lv_aload_n hx hb dX12_key_29 rfl (lv_at hl 1 rfl) ?_
  refine va_get (D := D) (ci := 16) (v := .int 1) (C := RX12) (T := TX12) (N := 64) hx hb hts (by decide +kernel) hown hK hP 0 rfl rfl 0 (by decide) (hts (.fieldLink RX12 78 "SignetRingModel" "thrown" "I") (by decide +kernel)) (fun _ h9 => h9) rfl dX12_key_30 ?_
  refine lv_if_le (tgt := 38) hx hb dX12_key_33 (by decide) (fun c9 => absurd c9 (by decide)) (fun _ => ?_)
  refine lv_lconst (v := 0) hx hb dX12_key_36 (by decide) ?_
  have hP9 := hP.sub (ws' := [(h0, .inr (16, [.int 1, w2, w3, w4, w5, w6, .int 0, w7, w8, w9, w10, w11, w12, w13, w14, w15, w16, w17, w18, w19, w20, w21, w22, w23, w24, w25, w26, w27, w28, w29, w30, w31, w32, w33, w34, w35, w36, w37, w38, w39, w40, w41, w42, w43, w44, w45, w46, w47, w48, w49, w50, w51, w52, w53, w54, w55, w56, w57, w58, w59, w60, w61, w62, w63]))]) [0] rfl
  have hD9 := hD.sub (ws' := [(h0, .inr (16, [.int 1, w2, w3, w4, w5, w6, .int 0, w7, w8, w9, w10, w11, w12, w13, w14, w15, w16, w17, w18, w19, w20, w21, w22, w23, w24, w25, w26, w27, w28, w29, w30, w31, w32, w33, w34, w35, w36, w37, w38, w39, w40, w41, w42, w43, w44, w45, w46, w47, w48, w49, w50, w51, w52, w53, w54, w55, w56, w57, w58, w59, w60, w61, w62, w63]))]) [0] (by decide) rfl
  refine W.widen (k := 0) (n := 0) (Nat.le_of_ble_eq_true rfl) (Nat.le_of_ble_eq_true rfl) ?_
  exact W.lret (v := 0) hx hb hr (fun t ht hW => ⟨⟨0, (), rfl, rfl, by rw [ht]; exact hP9, hD9⟩, hS.F ht⟩) hS.2.2 dX12_key_37
def wz_c_M_print : List Cond := .code yX12_print cX12_print 5 (some .int) :: ([.methodLink RX12 599 yX12_thingOf, .instanceMethod yX12_thingOf, .selects RX12 yX12_thingOf yX12_thingOf, .initialized RX12, .fieldLink RX12 78 "SignetRingModel" "thrown" "I"] ++ (wsX120 ++ (wz_c_M_thingOf ++ ([]))))
set_option maxRecDepth 100000 in
theorem gz_c_M_print_c_M_thingOf : GoodIn wz_c_M_print wz_c_M_thingOf := goodIn_sub (fun w h => List.mem_cons_of_mem _ (List.mem_append_right _ (List.mem_append_right _ (List.mem_append_left _ h)))) (by decide +kernel)
set_option maxRecDepth 100000 in
theorem gv_c_M_print_c_M_thingOf_599 : GoodIn wz_c_M_print (wsV RX12 599 RX12 yX12_thingOf wz_c_M_thingOf) := goodIn_app (goodIn_of _ (by decide +kernel)) gz_c_M_print_c_M_thingOf
set_option maxHeartbeats 4000000 in
set_option maxRecDepth 100000 in
theorem c_M_print (l : Launch) (D : va_G) (y : Nat → ClassId) (sz : Nat) (h0 : Nat) (w1 : Value) (w2 : Value) (w3 : Value) (w4 : Value) (w5 : Value) (w6 : Value) (w7 : Value) (w8 : Value) (w9 : Value) (w10 : Value) (w11 : Value) (w12 : Value) (w13 : Value) (w14 : Value) (w15 : Value) (w16 : Value) (w17 : Value) (w18 : Value) (w19 : Value) (w20 : Value) (w21 : Value) (w22 : Value) (w23 : Value) (w24 : Value) (w25 : Value) (w26 : Value) (w27 : Value) (w28 : Value) (w29 : Value) (w30 : Value) (w31 : Value) (w32 : Value) (w33 : Value) (w34 : Value) (w35 : Value) (w36 : Value) (w37 : Value) (w38 : Value) (w39 : Value) (w40 : Value) (w41 : Value) (w42 : Value) (w43 : Value) (w44 : Value) (w45 : Value) (w46 : Value) (w47 : Value) (w48 : Value) (w49 : Value) (w50 : Value) (w51 : Value) (w52 : Value) (w53 : Value) (w54 : Value) (w55 : Value) (w56 : Value) (w57 : Value) (w58 : Value) (w59 : Value) (w60 : Value) (w61 : Value) (w62 : Value) (w63 : Value) (k : Int32) (pt : Int32) (i : Int32) : Met l yX12_print wz_c_M_print ({ frames := 2, cells := 0, slots := 0, locals := 46 }) (va_Pc [.ref h0, .int k, .int pt, .int i] (zB D y [(h0, .inr (16, [w1, w2, w3, w4, w5, w6, .int 0, w7, w8, w9, w10, w11, w12, w13, w14, w15, w16, w17, w18, w19, w20, w21, w22, w23, w24, w25, w26, w27, w28, w29, w30, w31, w32, w33, w34, w35, w36, w37, w38, w39, w40, w41, w42, w43, w44, w45, w46, w47, w48, w49, w50, w51, w52, w53, w54, w55, w56, w57, w58, w59, w60, w61, w62, w63]))] sz [] [] [] [])) (va_Qi (fun (r : Int32) (_ : Unit) => r = 0) (fun _ t => va_P D vwCl [(h0, .inr (16, [.int 1, w2, w3, w4, w5, w6, .int 0, w7, w8, w9, w10, w11, w12, w13, w14, w15, w16, w17, w18, w19, w20, w21, w22, w23, w24, w25, w26, w27, w28, w29, w30, w31, w32, w33, w34, w35, w36, w37, w38, w39, w40, w41, w42, w43, w44, w45, w46, w47, w48, w49, w50, w51, w52, w53, w54, w55, w56, w57, w58, w59, w60, w61, w62, w63]))] t.heap ∧ va_D (va_A [(h0, .inr (16, [w1, w2, w3, w4, w5, w6, .int 0, w7, w8, w9, w10, w11, w12, w13, w14, w15, w16, w17, w18, w19, w20, w21, w22, w23, w24, w25, w26, w27, w28, w29, w30, w31, w32, w33, w34, w35, w36, w37, w38, w39, w40, w41, w42, w43, w44, w45, w46, w47, w48, w49, w50, w51, w52, w53, w54, w55, w56, w57, w58, w59, w60, w61, w62, w63]))] sz) [(h0, .inr (16, [.int 1, w2, w3, w4, w5, w6, .int 0, w7, w8, w9, w10, w11, w12, w13, w14, w15, w16, w17, w18, w19, w20, w21, w22, w23, w24, w25, w26, w27, w28, w29, w30, w31, w32, w33, w34, w35, w36, w37, w38, w39, w40, w41, w42, w43, w44, w45, w46, w47, w48, w49, w50, w51, w52, w53, w54, w55, w56, w57, w58, w59, w60, w61, w62, w63]))]) (va_A [(h0, .inr (16, [w1, w2, w3, w4, w5, w6, .int 0, w7, w8, w9, w10, w11, w12, w13, w14, w15, w16, w17, w18, w19, w20, w21, w22, w23, w24, w25, w26, w27, w28, w29, w30, w31, w32, w33, w34, w35, w36, w37, w38, w39, w40, w41, w42, w43, w44, w45, w46, w47, w48, w49, w50, w51, w52, w53, w54, w55, w56, w57, w58, w59, w60, w61, w62, w63]))] sz)) 0 0 (va_A [(h0, .inr (16, [w1, w2, w3, w4, w5, w6, .int 0, w7, w8, w9, w10, w11, w12, w13, w14, w15, w16, w17, w18, w19, w20, w21, w22, w23, w24, w25, w26, w27, w28, w29, w30, w31, w32, w33, w34, w35, w36, w37, w38, w39, w40, w41, w42, w43, w44, w45, w46, w47, w48, w49, w50, w51, w52, w53, w54, w55, w56, w57, w58, w59, w60, w61, w62, w63]))] sz) := by
  refine Met.ofW (cc := cX12_print) (maxL := 5) (ret := (some .int)) (by decide) rfl ?_
  intro p e s m args below meth c s₁ B hml hv
  obtain ⟨rfl, hsz, hP, hK, hD0, hN, hE, hO, hT, hG⟩ := hv
  have hx := B.exec
  have hb := B.bytes
  have hr := B.returns
  have hts := atoms_spec (ws := wz_c_M_print) B.pre
  have hown : s.vm.findClass RX12 = some m.cls := findClass_of_methodNamed B.named
  have hlocks := B.notSynchronized
  subst hsz
  have hD := hD0.self (sz := s.heap.size)
  generalize hAe : va_A [(h0, .inr (16, [w1, w2, w3, w4, w5, w6, .int 0, w7, w8, w9, w10, w11, w12, w13, w14, w15, w16, w17, w18, w19, w20, w21, w22, w23, w24, w25, w26, w27, w28, w29, w30, w31, w32, w33, w34, w35, w36, w37, w38, w39, w40, w41, w42, w43, w44, w45, w46, w47, w48, w49, w50, w51, w52, w53, w54, w55, w56, w57, w58, w59, w60, w61, w62, w63]))] s.heap.size = A at hD hE hT hG ⊢
  have hA : ∀ q : Nat, s.heap.size ≤ q → A q := fun q h => by rw [← hAe]; exact Or.inr h
  have hS : va_S A s.heap s.heap [] := va_S.rf
  have hl := lv_entry ([.ref h0, .int k, .int pt, .int i]) (n := 5) (Nat.le_of_ble_eq_true rfl)
  rw [lg_entry_eq]
  generalize (lg_sl ([.ref h0, .int k, .int pt, .int i]) ++ List.replicate (5 - (lg_sl ([.ref h0, .int k, .int pt, .int i])).length) Slot.unset).toArray = ls at hl ⊢
  have hl : lv_has ls 5 [(0, .ref h0), (1, .int k), (2, .int pt), (3, .int i)] := hl
  refine lv_aload_n hx hb dX12_print_0 rfl (lv_at hl 0 rfl) ?_
  refine lv_iload_n hx hb dX12_print_1 rfl (lv_at hl 1 rfl) ?_
  refine lv_iload_n hx hb dX12_print_2 rfl (lv_at hl 2 rfl) ?_
  have hPc := hP.sub (ws' := [(h0, .inr (16, [w1, w2, w3, w4, w5, w6, .int 0, w7, w8, w9, w10, w11, w12, w13, w14, w15, w16, w17, w18, w19, w20, w21, w22, w23, w24, w25, w26, w27, w28, w29, w30, w31, w32, w33, w34, w35, w36, w37, w38, w39, w40, w41, w42, w43, w44, w45, w46, w47, w48, w49, w50, w51, w52, w53, w54, w55, w56, w57, w58, w59, w60, w61, w62, w63]))]) [0] rfl
  have hDc := hD.sub (ws' := [(h0, .inr (16, [w1, w2, w3, w4, w5, w6, .int 0, w7, w8, w9, w10, w11, w12, w13, w14, w15, w16, w17, w18, w19, w20, w21, w22, w23, w24, w25, w26, w27, w28, w29, w30, w31, w32, w33, w34, w35, w36, w37, w38, w39, w40, w41, w42, w43, w44, w45, w46, w47, w48, w49, w50, w51, w52, w53, w54, w55, w56, w57, w58, w59, w60, w61, w62, w63]))]) [0] (by decide) rfl
  have hFc := va_free (wc := [(h0, .inr (16, [w1, w2, w3, w4, w5, w6, .int 0, w7, w8, w9, w10, w11, w12, w13, w14, w15, w16, w17, w18, w19, w20, w21, w22, w23, w24, w25, w26, w27, w28, w29, w30, w31, w32, w33, w34, w35, w36, w37, w38, w39, w40, w41, w42, w43, w44, w45, w46, w47, w48, w49, w50, w51, w52, w53, w54, w55, w56, w57, w58, w59, w60, w61, w62, w63]))]) hD hS hA [0] rfl
  refine va_calli (va_runV (As := [.int k, .int pt]) (rest := []) ⟨hx, hb, hml, hown, hts⟩ (c_M_thingOf l D y s.heap.size h0 w1 w2 w3 w4 w5 w6 w7 w8 w9 w10 w11 w12 w13 w14 w15 w16 w17 w18 w19 w20 w21 w22 w23 w24 w25 w26 w27 w28 w29 w30 w31 w32 w33 w34 w35 w36 w37 w38 w39 w40 w41 w42 w43 w44 w45 w46 w47 w48 w49 w50 w51 w52 w53 w54 w55 w56 w57 w58 w59 w60 w61 w62 w63 k pt) (cwV 2 hts gv_c_M_print_c_M_thingOf_599 rfl rfl rfl (by decide +kernel) ⟨(Nat.le_of_ble_eq_true rfl), (Nat.le_of_ble_eq_true rfl)⟩) (zB.preV hPc hDc hK hN hE hO hT hG hS hFc (fun _ h => nomatch h) (fun _ h => nomatch h) (fun _ h => nomatch h) (fun _ h => nomatch h) (va_recv hK hPc (ci := 16) (q0 := 0) rfl rfl)) rfl rfl hl.1 rfl (lv_room (Nat.le_of_ble_eq_true rfl)) dX12_print_3 ⟨(Nat.le_of_ble_eq_true rfl), (Nat.le_of_ble_eq_true rfl)⟩) hS (fun q _ h => hFc q h) hFc (fun r1 u t H1 locs ht hvm hw hB hz1 hk1 hS => ?_)
  obtain ⟨hP1, hD1⟩ := hB
  rw [ht] at hP1
  obtain ⟨hP, hD⟩ := va_join (wr := []) (w1 := [(h0, .inr (16, [w1, w2, w3, w4, w5, w6, .int 0, w7, w8, w9, w10, w11, w12, w13, w14, w15, w16, w17, w18, w19, w20, w21, w22, w23, w24, w25, w26, w27, w28, w29, w30, w31, w32, w33, w34, w35, w36, w37, w38, w39, w40, w41, w42, w43, w44, w45, w46, w47, w48, w49, w50, w51, w52, w53, w54, w55, w56, w57, w58, w59, w60, w61, w62, w63]))]) hP hD [0] [] rfl rfl (by decide) (by decide) hk1 hFc hP1 hD1
  generalize H1 = H at hP hS ⊢
  have hP : va_P D vwCl [(h0, .inr (16, [w1, w2, w3, w4, w5, w6, .int 0, w7, w8, w9, w10, w11, w12, w13, w14, w15, w16, w17, w18, w19, w20, w21, w22, w23, w24, w25, w26, w27, w28, w29, w30, w31, w32, w33, w34, w35, w36, w37, w38, w39, w40, w41, w42, w43, w44, w45, w46, w47, w48, w49, w50, w51, w52, w53, w54, w55, w56, w57, w58, w59, w60, w61, w62, w63]))] H := hP
  have hD : va_D A [(h0, .inr (16, [w1, w2, w3, w4, w5, w6, .int 0, w7, w8, w9, w10, w11, w12, w13, w14, w15, w16, w17, w18, w19, w20, w21, w22, w23, w24, w25, w26, w27, w28, w29, w30, w31, w32, w33, w34, w35, w36, w37, w38, w39, w40, w41, w42, w43, w44, w45, w46, w47, w48, w49, w50, w51, w52, w53, w54, w55, w56, w57, w58, w59, w60, w61, w62, w63]))] := hD
  have hw : r1 = -1 := hw
  subst hw
  refine lv_istore (lv' := [(4, .int (-1)), (0, .ref h0), (1, .int k), (2, .int pt), (3, .int i)]) hx hb dX12_print_6 hl (by decide) rfl (fun ls hl => ?_)
  refine lv_aload_n hx hb dX12_print_8 rfl (lv_at hl 1 rfl) ?_
  refine lv_iload hx hb dX12_print_9 (lv_at hl 0 rfl) ?_
  refine lv_iconst (v := -1) hx hb dX12_print_11 (by decide) ?_
  refine lv_icmp_eq (tgt := 25) hx hb dX12_print_12 (by decide) (fun _ => ?_) (fun c9 => absurd (by decide) c9)
  refine lv_iconst (v := 1) hx hb dX12_print_25 (by decide) ?_
  refine lv_goto (tgt := 30) hx hb dX12_print_26 (by decide) ?_
  refine va_put (D := D) (ci := 16) (v := .int 1) (ty := .int) (C := RX12) (T := TX12) (N := 64) hx hb hts (by decide +kernel) tyX12 tyX12_ok nmX12 hown hK hP hD hS 0 rfl rfl 0 (by decide) (hts (.fieldLink RX12 78 "SignetRingModel" "thrown" "I") (by decide +kernel)) (fun _ h9 => h9) rfl (by decide +kernel) rfl rfl (Nat.le_of_ble_eq_true rfl) dX12_print_30 (fun H locs hP hD hS => ?_)
  have hP : va_P D vwCl [(h0, .inr (16, [.int 1, w2, w3, w4, w5, w6, .int 0, w7, w8, w9, w10, w11, w12, w13, w14, w15, w16, w17, w18, w19, w20, w21, w22, w23, w24, w25, w26, w27, w28, w29, w30, w31, w32, w33, w34, w35, w36, w37, w38, w39, w40, w41, w42, w43, w44, w45, w46, w47, w48, w49, w50, w51, w52, w53, w54, w55, w56, w57, w58, w59, w60, w61, w62, w63]))] H := hP
  have hD : va_D A [(h0, .inr (16, [.int 1, w2, w3, w4, w5, w6, .int 0, w7, w8, w9, w10, w11, w12, w13, w14, w15, w16, w17, w18, w19, w20, w21, w22, w23, w24, w25, w26, w27, w28, w29, w30, w31, w32, w33, w34, w35, w36, w37, w38, w39, w40, w41, w42, w43, w44, w45, w46, w47, w48, w49, w50, w51, w52, w53, w54, w55, w56, w57, w58, w59, w60, w61, w62, w63]))] := hD
  refine lv_aload_n hx hb dX12_print_33 rfl (lv_at hl 1 rfl) ?_
  refine va_get (D := D) (ci := 16) (v := .int 1) (C := RX12) (T := TX12) (N := 64) hx hb hts (by decide +kernel) hown hK hP 0 rfl rfl 0 (by decide) (hts (.fieldLink RX12 78 "SignetRingModel" "thrown" "I") (by decide +kernel)) (fun _ h9 => h9) rfl dX12_print_34 ?_
  refine lv_if_le (tgt := 44) hx hb dX12_print_37 (by decide) (fun c9 => absurd c9 (by decide)) (fun _ => ?_)
  refine lv_iconst (v := 0) hx hb dX12_print_40 (by decide) ?_
  refine lv_goto (tgt := 57) hx hb dX12_print_41 (by decide) ?_
  have hP9 := hP.sub (ws' := [(h0, .inr (16, [.int 1, w2, w3, w4, w5, w6, .int 0, w7, w8, w9, w10, w11, w12, w13, w14, w15, w16, w17, w18, w19, w20, w21, w22, w23, w24, w25, w26, w27, w28, w29, w30, w31, w32, w33, w34, w35, w36, w37, w38, w39, w40, w41, w42, w43, w44, w45, w46, w47, w48, w49, w50, w51, w52, w53, w54, w55, w56, w57, w58, w59, w60, w61, w62, w63]))]) [0] rfl
  have hD9 := hD.sub (ws' := [(h0, .inr (16, [.int 1, w2, w3, w4, w5, w6, .int 0, w7, w8, w9, w10, w11, w12, w13, w14, w15, w16, w17, w18, w19, w20, w21, w22, w23, w24, w25, w26, w27, w28, w29, w30, w31, w32, w33, w34, w35, w36, w37, w38, w39, w40, w41, w42, w43, w44, w45, w46, w47, w48, w49, w50, w51, w52, w53, w54, w55, w56, w57, w58, w59, w60, w61, w62, w63]))]) [0] (by decide) rfl
  refine W.widen (k := 0) (n := 0) (Nat.le_of_ble_eq_true rfl) (Nat.le_of_ble_eq_true rfl) ?_
  exact W.iret (v := 0) hx hb hr (fun t ht hW => ⟨⟨0, (), rfl, rfl, by rw [ht]; exact hP9, hD9⟩, hS.F ht⟩) hS.2.2 dX12_print_57
def wz_c_M_usable : List Cond := .code yX12_usable cX12_usable 6 (some .int) :: ([.methodLink RX12 599 yX12_thingOf, .instanceMethod yX12_thingOf, .selects RX12 yX12_thingOf yX12_thingOf, .initialized RX12, .fieldLink RX12 78 "SignetRingModel" "thrown" "I"] ++ (wsX120 ++ (wz_c_M_thingOf ++ ([]))))
set_option maxRecDepth 100000 in
theorem gz_c_M_usable_c_M_thingOf : GoodIn wz_c_M_usable wz_c_M_thingOf := goodIn_sub (fun w h => List.mem_cons_of_mem _ (List.mem_append_right _ (List.mem_append_right _ (List.mem_append_left _ h)))) (by decide +kernel)
set_option maxRecDepth 100000 in
theorem gv_c_M_usable_c_M_thingOf_599 : GoodIn wz_c_M_usable (wsV RX12 599 RX12 yX12_thingOf wz_c_M_thingOf) := goodIn_app (goodIn_of _ (by decide +kernel)) gz_c_M_usable_c_M_thingOf
set_option maxHeartbeats 4000000 in
set_option maxRecDepth 100000 in
theorem c_M_usable (l : Launch) (D : va_G) (y : Nat → ClassId) (sz : Nat) (h0 : Nat) (w1 : Value) (w2 : Value) (w3 : Value) (w4 : Value) (w5 : Value) (w6 : Value) (w7 : Value) (w8 : Value) (w9 : Value) (w10 : Value) (w11 : Value) (w12 : Value) (w13 : Value) (w14 : Value) (w15 : Value) (w16 : Value) (w17 : Value) (w18 : Value) (w19 : Value) (w20 : Value) (w21 : Value) (w22 : Value) (w23 : Value) (w24 : Value) (w25 : Value) (w26 : Value) (w27 : Value) (w28 : Value) (w29 : Value) (w30 : Value) (w31 : Value) (w32 : Value) (w33 : Value) (w34 : Value) (w35 : Value) (w36 : Value) (w37 : Value) (w38 : Value) (w39 : Value) (w40 : Value) (w41 : Value) (w42 : Value) (w43 : Value) (w44 : Value) (w45 : Value) (w46 : Value) (w47 : Value) (w48 : Value) (w49 : Value) (w50 : Value) (w51 : Value) (w52 : Value) (w53 : Value) (w54 : Value) (w55 : Value) (w56 : Value) (w57 : Value) (w58 : Value) (w59 : Value) (w60 : Value) (w61 : Value) (w62 : Value) (w63 : Value) (k : Int32) (pt : Int32) (tm : Int64) : Met l yX12_usable wz_c_M_usable ({ frames := 2, cells := 0, slots := 0, locals := 46 }) (va_Pc [.ref h0, .int k, .int pt, .long tm] (zB D y [(h0, .inr (16, [w1, w2, w3, w4, w5, w6, .int 0, w7, w8, w9, w10, w11, w12, w13, w14, w15, w16, w17, w18, w19, w20, w21, w22, w23, w24, w25, w26, w27, w28, w29, w30, w31, w32, w33, w34, w35, w36, w37, w38, w39, w40, w41, w42, w43, w44, w45, w46, w47, w48, w49, w50, w51, w52, w53, w54, w55, w56, w57, w58, w59, w60, w61, w62, w63]))] sz [] [] [] [])) (va_Qi (fun (r : Int32) (_ : Unit) => r = 0) (fun _ t => va_P D vwCl [(h0, .inr (16, [.int 1, w2, w3, w4, w5, w6, .int 0, w7, w8, w9, w10, w11, w12, w13, w14, w15, w16, w17, w18, w19, w20, w21, w22, w23, w24, w25, w26, w27, w28, w29, w30, w31, w32, w33, w34, w35, w36, w37, w38, w39, w40, w41, w42, w43, w44, w45, w46, w47, w48, w49, w50, w51, w52, w53, w54, w55, w56, w57, w58, w59, w60, w61, w62, w63]))] t.heap ∧ va_D (va_A [(h0, .inr (16, [w1, w2, w3, w4, w5, w6, .int 0, w7, w8, w9, w10, w11, w12, w13, w14, w15, w16, w17, w18, w19, w20, w21, w22, w23, w24, w25, w26, w27, w28, w29, w30, w31, w32, w33, w34, w35, w36, w37, w38, w39, w40, w41, w42, w43, w44, w45, w46, w47, w48, w49, w50, w51, w52, w53, w54, w55, w56, w57, w58, w59, w60, w61, w62, w63]))] sz) [(h0, .inr (16, [.int 1, w2, w3, w4, w5, w6, .int 0, w7, w8, w9, w10, w11, w12, w13, w14, w15, w16, w17, w18, w19, w20, w21, w22, w23, w24, w25, w26, w27, w28, w29, w30, w31, w32, w33, w34, w35, w36, w37, w38, w39, w40, w41, w42, w43, w44, w45, w46, w47, w48, w49, w50, w51, w52, w53, w54, w55, w56, w57, w58, w59, w60, w61, w62, w63]))]) (va_A [(h0, .inr (16, [w1, w2, w3, w4, w5, w6, .int 0, w7, w8, w9, w10, w11, w12, w13, w14, w15, w16, w17, w18, w19, w20, w21, w22, w23, w24, w25, w26, w27, w28, w29, w30, w31, w32, w33, w34, w35, w36, w37, w38, w39, w40, w41, w42, w43, w44, w45, w46, w47, w48, w49, w50, w51, w52, w53, w54, w55, w56, w57, w58, w59, w60, w61, w62, w63]))] sz)) 0 0 (va_A [(h0, .inr (16, [w1, w2, w3, w4, w5, w6, .int 0, w7, w8, w9, w10, w11, w12, w13, w14, w15, w16, w17, w18, w19, w20, w21, w22, w23, w24, w25, w26, w27, w28, w29, w30, w31, w32, w33, w34, w35, w36, w37, w38, w39, w40, w41, w42, w43, w44, w45, w46, w47, w48, w49, w50, w51, w52, w53, w54, w55, w56, w57, w58, w59, w60, w61, w62, w63]))] sz) := by
  refine Met.ofW (cc := cX12_usable) (maxL := 6) (ret := (some .int)) (by decide) rfl ?_
  intro p e s m args below meth c s₁ B hml hv
  obtain ⟨rfl, hsz, hP, hK, hD0, hN, hE, hO, hT, hG⟩ := hv
  have hx := B.exec
  have hb := B.bytes
  have hr := B.returns
  have hts := atoms_spec (ws := wz_c_M_usable) B.pre
  have hown : s.vm.findClass RX12 = some m.cls := findClass_of_methodNamed B.named
  have hlocks := B.notSynchronized
  subst hsz
  have hD := hD0.self (sz := s.heap.size)
  generalize hAe : va_A [(h0, .inr (16, [w1, w2, w3, w4, w5, w6, .int 0, w7, w8, w9, w10, w11, w12, w13, w14, w15, w16, w17, w18, w19, w20, w21, w22, w23, w24, w25, w26, w27, w28, w29, w30, w31, w32, w33, w34, w35, w36, w37, w38, w39, w40, w41, w42, w43, w44, w45, w46, w47, w48, w49, w50, w51, w52, w53, w54, w55, w56, w57, w58, w59, w60, w61, w62, w63]))] s.heap.size = A at hD hE hT hG ⊢
  have hA : ∀ q : Nat, s.heap.size ≤ q → A q := fun q h => by rw [← hAe]; exact Or.inr h
  have hS : va_S A s.heap s.heap [] := va_S.rf
  have hl := lv_entry ([.ref h0, .int k, .int pt, .long tm]) (n := 6) (Nat.le_of_ble_eq_true rfl)
  rw [lg_entry_eq]
  generalize (lg_sl ([.ref h0, .int k, .int pt, .long tm]) ++ List.replicate (6 - (lg_sl ([.ref h0, .int k, .int pt, .long tm])).length) Slot.unset).toArray = ls at hl ⊢
  have hl : lv_has ls 6 [(0, .ref h0), (1, .int k), (2, .int pt), (3, .long tm)] := hl
  refine lv_aload_n hx hb dX12_usable_0 rfl (lv_at hl 0 rfl) ?_
  refine lv_iload_n hx hb dX12_usable_1 rfl (lv_at hl 1 rfl) ?_
  refine lv_iload_n hx hb dX12_usable_2 rfl (lv_at hl 2 rfl) ?_
  have hPc := hP.sub (ws' := [(h0, .inr (16, [w1, w2, w3, w4, w5, w6, .int 0, w7, w8, w9, w10, w11, w12, w13, w14, w15, w16, w17, w18, w19, w20, w21, w22, w23, w24, w25, w26, w27, w28, w29, w30, w31, w32, w33, w34, w35, w36, w37, w38, w39, w40, w41, w42, w43, w44, w45, w46, w47, w48, w49, w50, w51, w52, w53, w54, w55, w56, w57, w58, w59, w60, w61, w62, w63]))]) [0] rfl
  have hDc := hD.sub (ws' := [(h0, .inr (16, [w1, w2, w3, w4, w5, w6, .int 0, w7, w8, w9, w10, w11, w12, w13, w14, w15, w16, w17, w18, w19, w20, w21, w22, w23, w24, w25, w26, w27, w28, w29, w30, w31, w32, w33, w34, w35, w36, w37, w38, w39, w40, w41, w42, w43, w44, w45, w46, w47, w48, w49, w50, w51, w52, w53, w54, w55, w56, w57, w58, w59, w60, w61, w62, w63]))]) [0] (by decide) rfl
  have hFc := va_free (wc := [(h0, .inr (16, [w1, w2, w3, w4, w5, w6, .int 0, w7, w8, w9, w10, w11, w12, w13, w14, w15, w16, w17, w18, w19, w20, w21, w22, w23, w24, w25, w26, w27, w28, w29, w30, w31, w32, w33, w34, w35, w36, w37, w38, w39, w40, w41, w42, w43, w44, w45, w46, w47, w48, w49, w50, w51, w52, w53, w54, w55, w56, w57, w58, w59, w60, w61, w62, w63]))]) hD hS hA [0] rfl
  refine va_calli (va_runV (As := [.int k, .int pt]) (rest := []) ⟨hx, hb, hml, hown, hts⟩ (c_M_thingOf l D y s.heap.size h0 w1 w2 w3 w4 w5 w6 w7 w8 w9 w10 w11 w12 w13 w14 w15 w16 w17 w18 w19 w20 w21 w22 w23 w24 w25 w26 w27 w28 w29 w30 w31 w32 w33 w34 w35 w36 w37 w38 w39 w40 w41 w42 w43 w44 w45 w46 w47 w48 w49 w50 w51 w52 w53 w54 w55 w56 w57 w58 w59 w60 w61 w62 w63 k pt) (cwV 2 hts gv_c_M_usable_c_M_thingOf_599 rfl rfl rfl (by decide +kernel) ⟨(Nat.le_of_ble_eq_true rfl), (Nat.le_of_ble_eq_true rfl)⟩) (zB.preV hPc hDc hK hN hE hO hT hG hS hFc (fun _ h => nomatch h) (fun _ h => nomatch h) (fun _ h => nomatch h) (fun _ h => nomatch h) (va_recv hK hPc (ci := 16) (q0 := 0) rfl rfl)) rfl rfl hl.1 rfl (lv_room (Nat.le_of_ble_eq_true rfl)) dX12_usable_3 ⟨(Nat.le_of_ble_eq_true rfl), (Nat.le_of_ble_eq_true rfl)⟩) hS (fun q _ h => hFc q h) hFc (fun r1 u t H1 locs ht hvm hw hB hz1 hk1 hS => ?_)
  obtain ⟨hP1, hD1⟩ := hB
  rw [ht] at hP1
  obtain ⟨hP, hD⟩ := va_join (wr := []) (w1 := [(h0, .inr (16, [w1, w2, w3, w4, w5, w6, .int 0, w7, w8, w9, w10, w11, w12, w13, w14, w15, w16, w17, w18, w19, w20, w21, w22, w23, w24, w25, w26, w27, w28, w29, w30, w31, w32, w33, w34, w35, w36, w37, w38, w39, w40, w41, w42, w43, w44, w45, w46, w47, w48, w49, w50, w51, w52, w53, w54, w55, w56, w57, w58, w59, w60, w61, w62, w63]))]) hP hD [0] [] rfl rfl (by decide) (by decide) hk1 hFc hP1 hD1
  generalize H1 = H at hP hS ⊢
  have hP : va_P D vwCl [(h0, .inr (16, [w1, w2, w3, w4, w5, w6, .int 0, w7, w8, w9, w10, w11, w12, w13, w14, w15, w16, w17, w18, w19, w20, w21, w22, w23, w24, w25, w26, w27, w28, w29, w30, w31, w32, w33, w34, w35, w36, w37, w38, w39, w40, w41, w42, w43, w44, w45, w46, w47, w48, w49, w50, w51, w52, w53, w54, w55, w56, w57, w58, w59, w60, w61, w62, w63]))] H := hP
  have hD : va_D A [(h0, .inr (16, [w1, w2, w3, w4, w5, w6, .int 0, w7, w8, w9, w10, w11, w12, w13, w14, w15, w16, w17, w18, w19, w20, w21, w22, w23, w24, w25, w26, w27, w28, w29, w30, w31, w32, w33, w34, w35, w36, w37, w38, w39, w40, w41, w42, w43, w44, w45, w46, w47, w48, w49, w50, w51, w52, w53, w54, w55, w56, w57, w58, w59, w60, w61, w62, w63]))] := hD
  have hw : r1 = -1 := hw
  subst hw
  refine lv_istore (lv' := [(5, .int (-1)), (0, .ref h0), (1, .int k), (2, .int pt), (3, .long tm)]) hx hb dX12_usable_6 hl (by decide) rfl (fun ls hl => ?_)
  refine lv_aload_n hx hb dX12_usable_8 rfl (lv_at hl 1 rfl) ?_
  refine lv_iload hx hb dX12_usable_9 (lv_at hl 0 rfl) ?_
  refine lv_iconst (v := -1) hx hb dX12_usable_11 (by decide) ?_
  refine lv_icmp_ne (tgt := 19) hx hb dX12_usable_12 (by decide) (fun c9 => absurd (by decide) c9) (fun _ => ?_)
  refine lv_iconst (v := 1) hx hb dX12_usable_15 (by decide) ?_
  refine lv_goto (tgt := 31) hx hb dX12_usable_16 (by decide) ?_
  refine va_put (D := D) (ci := 16) (v := .int 1) (ty := .int) (C := RX12) (T := TX12) (N := 64) hx hb hts (by decide +kernel) tyX12 tyX12_ok nmX12 hown hK hP hD hS 0 rfl rfl 0 (by decide) (hts (.fieldLink RX12 78 "SignetRingModel" "thrown" "I") (by decide +kernel)) (fun _ h9 => h9) rfl (by decide +kernel) rfl rfl (Nat.le_of_ble_eq_true rfl) dX12_usable_31 (fun H locs hP hD hS => ?_)
  have hP : va_P D vwCl [(h0, .inr (16, [.int 1, w2, w3, w4, w5, w6, .int 0, w7, w8, w9, w10, w11, w12, w13, w14, w15, w16, w17, w18, w19, w20, w21, w22, w23, w24, w25, w26, w27, w28, w29, w30, w31, w32, w33, w34, w35, w36, w37, w38, w39, w40, w41, w42, w43, w44, w45, w46, w47, w48, w49, w50, w51, w52, w53, w54, w55, w56, w57, w58, w59, w60, w61, w62, w63]))] H := hP
  have hD : va_D A [(h0, .inr (16, [.int 1, w2, w3, w4, w5, w6, .int 0, w7, w8, w9, w10, w11, w12, w13, w14, w15, w16, w17, w18, w19, w20, w21, w22, w23, w24, w25, w26, w27, w28, w29, w30, w31, w32, w33, w34, w35, w36, w37, w38, w39, w40, w41, w42, w43, w44, w45, w46, w47, w48, w49, w50, w51, w52, w53, w54, w55, w56, w57, w58, w59, w60, w61, w62, w63]))] := hD
  refine lv_aload_n hx hb dX12_usable_34 rfl (lv_at hl 1 rfl) ?_
  refine va_get (D := D) (ci := 16) (v := .int 1) (C := RX12) (T := TX12) (N := 64) hx hb hts (by decide +kernel) hown hK hP 0 rfl rfl 0 (by decide) (hts (.fieldLink RX12 78 "SignetRingModel" "thrown" "I") (by decide +kernel)) (fun _ h9 => h9) rfl dX12_usable_35 ?_
  refine lv_if_le (tgt := 45) hx hb dX12_usable_38 (by decide) (fun c9 => absurd c9 (by decide)) (fun _ => ?_)
  refine lv_iconst (v := 0) hx hb dX12_usable_41 (by decide) ?_
  refine lv_goto (tgt := 57) hx hb dX12_usable_42 (by decide) ?_
  have hP9 := hP.sub (ws' := [(h0, .inr (16, [.int 1, w2, w3, w4, w5, w6, .int 0, w7, w8, w9, w10, w11, w12, w13, w14, w15, w16, w17, w18, w19, w20, w21, w22, w23, w24, w25, w26, w27, w28, w29, w30, w31, w32, w33, w34, w35, w36, w37, w38, w39, w40, w41, w42, w43, w44, w45, w46, w47, w48, w49, w50, w51, w52, w53, w54, w55, w56, w57, w58, w59, w60, w61, w62, w63]))]) [0] rfl
  have hD9 := hD.sub (ws' := [(h0, .inr (16, [.int 1, w2, w3, w4, w5, w6, .int 0, w7, w8, w9, w10, w11, w12, w13, w14, w15, w16, w17, w18, w19, w20, w21, w22, w23, w24, w25, w26, w27, w28, w29, w30, w31, w32, w33, w34, w35, w36, w37, w38, w39, w40, w41, w42, w43, w44, w45, w46, w47, w48, w49, w50, w51, w52, w53, w54, w55, w56, w57, w58, w59, w60, w61, w62, w63]))]) [0] (by decide) rfl
  refine W.widen (k := 0) (n := 0) (Nat.le_of_ble_eq_true rfl) (Nat.le_of_ble_eq_true rfl) ?_
  exact W.iret (v := 0) hx hb hr (fun t ht hW => ⟨⟨0, (), rfl, rfl, by rw [ht]; exact hP9, hD9⟩, hS.F ht⟩) hS.2.2 dX12_usable_57
def wz_c_M_seal : List Cond := .code yX12_seal cX12_seal 11 (some .int) :: ([.methodLink RX12 599 yX12_thingOf, .instanceMethod yX12_thingOf, .selects RX12 yX12_thingOf yX12_thingOf, .initialized RX12, .fieldLink RX12 78 "SignetRingModel" "thrown" "I"] ++ (wsX120 ++ (wz_c_M_thingOf ++ ([]))))
set_option maxRecDepth 100000 in
theorem gz_c_M_seal_c_M_thingOf : GoodIn wz_c_M_seal wz_c_M_thingOf := goodIn_sub (fun w h => List.mem_cons_of_mem _ (List.mem_append_right _ (List.mem_append_right _ (List.mem_append_left _ h)))) (by decide +kernel)
set_option maxRecDepth 100000 in
theorem gv_c_M_seal_c_M_thingOf_599 : GoodIn wz_c_M_seal (wsV RX12 599 RX12 yX12_thingOf wz_c_M_thingOf) := goodIn_app (goodIn_of _ (by decide +kernel)) gz_c_M_seal_c_M_thingOf
set_option maxHeartbeats 4000000 in
set_option maxRecDepth 100000 in
theorem c_M_seal (l : Launch) (D : va_G) (y : Nat → ClassId) (sz : Nat) (h0 : Nat) (w1 : Value) (w2 : Value) (w3 : Value) (w4 : Value) (w5 : Value) (w6 : Value) (w7 : Value) (w8 : Value) (w9 : Value) (w10 : Value) (w11 : Value) (w12 : Value) (w13 : Value) (w14 : Value) (w15 : Value) (w16 : Value) (w17 : Value) (w18 : Value) (w19 : Value) (w20 : Value) (w21 : Value) (w22 : Value) (w23 : Value) (w24 : Value) (w25 : Value) (w26 : Value) (w27 : Value) (w28 : Value) (w29 : Value) (w30 : Value) (w31 : Value) (w32 : Value) (w33 : Value) (w34 : Value) (w35 : Value) (w36 : Value) (w37 : Value) (w38 : Value) (w39 : Value) (w40 : Value) (w41 : Value) (w42 : Value) (w43 : Value) (w44 : Value) (w45 : Value) (w46 : Value) (w47 : Value) (w48 : Value) (w49 : Value) (w50 : Value) (w51 : Value) (w52 : Value) (w53 : Value) (w54 : Value) (w55 : Value) (w56 : Value) (w57 : Value) (w58 : Value) (w59 : Value) (w60 : Value) (w61 : Value) (w62 : Value) (w63 : Value) (k : Int32) (pt : Int32) (fo : Int32) (tm : Int64) : Met l yX12_seal wz_c_M_seal ({ frames := 2, cells := 0, slots := 0, locals := 46 }) (va_Pc [.ref h0, .int k, .int pt, .int fo, .long tm] (zB D y [(h0, .inr (16, [w1, w2, w3, w4, w5, w6, .int 0, w7, w8, w9, w10, w11, w12, w13, w14, w15, w16, w17, w18, w19, w20, w21, w22, w23, w24, w25, w26, w27, w28, w29, w30, w31, w32, w33, w34, w35, w36, w37, w38, w39, w40, w41, w42, w43, w44, w45, w46, w47, w48, w49, w50, w51, w52, w53, w54, w55, w56, w57, w58, w59, w60, w61, w62, w63]))] sz [] [] [] [])) (va_Qi (fun (r : Int32) (_ : Unit) => r = 0) (fun _ t => va_P D vwCl [(h0, .inr (16, [.int 1, w2, w3, w4, w5, w6, .int 0, w7, w8, w9, w10, w11, w12, w13, w14, w15, w16, w17, w18, w19, w20, w21, w22, w23, w24, w25, w26, w27, w28, w29, w30, w31, w32, w33, w34, w35, w36, w37, w38, w39, w40, w41, w42, w43, w44, w45, w46, w47, w48, w49, w50, w51, w52, w53, w54, w55, w56, w57, w58, w59, w60, w61, w62, w63]))] t.heap ∧ va_D (va_A [(h0, .inr (16, [w1, w2, w3, w4, w5, w6, .int 0, w7, w8, w9, w10, w11, w12, w13, w14, w15, w16, w17, w18, w19, w20, w21, w22, w23, w24, w25, w26, w27, w28, w29, w30, w31, w32, w33, w34, w35, w36, w37, w38, w39, w40, w41, w42, w43, w44, w45, w46, w47, w48, w49, w50, w51, w52, w53, w54, w55, w56, w57, w58, w59, w60, w61, w62, w63]))] sz) [(h0, .inr (16, [.int 1, w2, w3, w4, w5, w6, .int 0, w7, w8, w9, w10, w11, w12, w13, w14, w15, w16, w17, w18, w19, w20, w21, w22, w23, w24, w25, w26, w27, w28, w29, w30, w31, w32, w33, w34, w35, w36, w37, w38, w39, w40, w41, w42, w43, w44, w45, w46, w47, w48, w49, w50, w51, w52, w53, w54, w55, w56, w57, w58, w59, w60, w61, w62, w63]))]) (va_A [(h0, .inr (16, [w1, w2, w3, w4, w5, w6, .int 0, w7, w8, w9, w10, w11, w12, w13, w14, w15, w16, w17, w18, w19, w20, w21, w22, w23, w24, w25, w26, w27, w28, w29, w30, w31, w32, w33, w34, w35, w36, w37, w38, w39, w40, w41, w42, w43, w44, w45, w46, w47, w48, w49, w50, w51, w52, w53, w54, w55, w56, w57, w58, w59, w60, w61, w62, w63]))] sz)) 0 0 (va_A [(h0, .inr (16, [w1, w2, w3, w4, w5, w6, .int 0, w7, w8, w9, w10, w11, w12, w13, w14, w15, w16, w17, w18, w19, w20, w21, w22, w23, w24, w25, w26, w27, w28, w29, w30, w31, w32, w33, w34, w35, w36, w37, w38, w39, w40, w41, w42, w43, w44, w45, w46, w47, w48, w49, w50, w51, w52, w53, w54, w55, w56, w57, w58, w59, w60, w61, w62, w63]))] sz) := by
  refine Met.ofW (cc := cX12_seal) (maxL := 11) (ret := (some .int)) (by decide) rfl ?_
  intro p e s m args below meth c s₁ B hml hv
  obtain ⟨rfl, hsz, hP, hK, hD0, hN, hE, hO, hT, hG⟩ := hv
  have hx := B.exec
  have hb := B.bytes
  have hr := B.returns
  have hts := atoms_spec (ws := wz_c_M_seal) B.pre
  have hown : s.vm.findClass RX12 = some m.cls := findClass_of_methodNamed B.named
  have hlocks := B.notSynchronized
  subst hsz
  have hD := hD0.self (sz := s.heap.size)
  generalize hAe : va_A [(h0, .inr (16, [w1, w2, w3, w4, w5, w6, .int 0, w7, w8, w9, w10, w11, w12, w13, w14, w15, w16, w17, w18, w19, w20, w21, w22, w23, w24, w25, w26, w27, w28, w29, w30, w31, w32, w33, w34, w35, w36, w37, w38, w39, w40, w41, w42, w43, w44, w45, w46, w47, w48, w49, w50, w51, w52, w53, w54, w55, w56, w57, w58, w59, w60, w61, w62, w63]))] s.heap.size = A at hD hE hT hG ⊢
  have hA : ∀ q : Nat, s.heap.size ≤ q → A q := fun q h => by rw [← hAe]; exact Or.inr h
  have hS : va_S A s.heap s.heap [] := va_S.rf
  have hl := lv_entry ([.ref h0, .int k, .int pt, .int fo, .long tm]) (n := 11) (Nat.le_of_ble_eq_true rfl)
  rw [lg_entry_eq]
  generalize (lg_sl ([.ref h0, .int k, .int pt, .int fo, .long tm]) ++ List.replicate (11 - (lg_sl ([.ref h0, .int k, .int pt, .int fo, .long tm])).length) Slot.unset).toArray = ls at hl ⊢
  have hl : lv_has ls 11 [(0, .ref h0), (1, .int k), (2, .int pt), (3, .int fo), (4, .long tm)] := hl
  refine lv_aload_n hx hb dX12_seal_0 rfl (lv_at hl 0 rfl) ?_
  refine lv_iload_n hx hb dX12_seal_1 rfl (lv_at hl 1 rfl) ?_
  refine lv_iload_n hx hb dX12_seal_2 rfl (lv_at hl 2 rfl) ?_
  have hPc := hP.sub (ws' := [(h0, .inr (16, [w1, w2, w3, w4, w5, w6, .int 0, w7, w8, w9, w10, w11, w12, w13, w14, w15, w16, w17, w18, w19, w20, w21, w22, w23, w24, w25, w26, w27, w28, w29, w30, w31, w32, w33, w34, w35, w36, w37, w38, w39, w40, w41, w42, w43, w44, w45, w46, w47, w48, w49, w50, w51, w52, w53, w54, w55, w56, w57, w58, w59, w60, w61, w62, w63]))]) [0] rfl
  have hDc := hD.sub (ws' := [(h0, .inr (16, [w1, w2, w3, w4, w5, w6, .int 0, w7, w8, w9, w10, w11, w12, w13, w14, w15, w16, w17, w18, w19, w20, w21, w22, w23, w24, w25, w26, w27, w28, w29, w30, w31, w32, w33, w34, w35, w36, w37, w38, w39, w40, w41, w42, w43, w44, w45, w46, w47, w48, w49, w50, w51, w52, w53, w54, w55, w56, w57, w58, w59, w60, w61, w62, w63]))]) [0] (by decide) rfl
  have hFc := va_free (wc := [(h0, .inr (16, [w1, w2, w3, w4, w5, w6, .int 0, w7, w8, w9, w10, w11, w12, w13, w14, w15, w16, w17, w18, w19, w20, w21, w22, w23, w24, w25, w26, w27, w28, w29, w30, w31, w32, w33, w34, w35, w36, w37, w38, w39, w40, w41, w42, w43, w44, w45, w46, w47, w48, w49, w50, w51, w52, w53, w54, w55, w56, w57, w58, w59, w60, w61, w62, w63]))]) hD hS hA [0] rfl
  refine va_calli (va_runV (As := [.int k, .int pt]) (rest := []) ⟨hx, hb, hml, hown, hts⟩ (c_M_thingOf l D y s.heap.size h0 w1 w2 w3 w4 w5 w6 w7 w8 w9 w10 w11 w12 w13 w14 w15 w16 w17 w18 w19 w20 w21 w22 w23 w24 w25 w26 w27 w28 w29 w30 w31 w32 w33 w34 w35 w36 w37 w38 w39 w40 w41 w42 w43 w44 w45 w46 w47 w48 w49 w50 w51 w52 w53 w54 w55 w56 w57 w58 w59 w60 w61 w62 w63 k pt) (cwV 2 hts gv_c_M_seal_c_M_thingOf_599 rfl rfl rfl (by decide +kernel) ⟨(Nat.le_of_ble_eq_true rfl), (Nat.le_of_ble_eq_true rfl)⟩) (zB.preV hPc hDc hK hN hE hO hT hG hS hFc (fun _ h => nomatch h) (fun _ h => nomatch h) (fun _ h => nomatch h) (fun _ h => nomatch h) (va_recv hK hPc (ci := 16) (q0 := 0) rfl rfl)) rfl rfl hl.1 rfl (lv_room (Nat.le_of_ble_eq_true rfl)) dX12_seal_3 ⟨(Nat.le_of_ble_eq_true rfl), (Nat.le_of_ble_eq_true rfl)⟩) hS (fun q _ h => hFc q h) hFc (fun r1 u t H1 locs ht hvm hw hB hz1 hk1 hS => ?_)
  obtain ⟨hP1, hD1⟩ := hB
  rw [ht] at hP1
  obtain ⟨hP, hD⟩ := va_join (wr := []) (w1 := [(h0, .inr (16, [w1, w2, w3, w4, w5, w6, .int 0, w7, w8, w9, w10, w11, w12, w13, w14, w15, w16, w17, w18, w19, w20, w21, w22, w23, w24, w25, w26, w27, w28, w29, w30, w31, w32, w33, w34, w35, w36, w37, w38, w39, w40, w41, w42, w43, w44, w45, w46, w47, w48, w49, w50, w51, w52, w53, w54, w55, w56, w57, w58, w59, w60, w61, w62, w63]))]) hP hD [0] [] rfl rfl (by decide) (by decide) hk1 hFc hP1 hD1
  generalize H1 = H at hP hS ⊢
  have hP : va_P D vwCl [(h0, .inr (16, [w1, w2, w3, w4, w5, w6, .int 0, w7, w8, w9, w10, w11, w12, w13, w14, w15, w16, w17, w18, w19, w20, w21, w22, w23, w24, w25, w26, w27, w28, w29, w30, w31, w32, w33, w34, w35, w36, w37, w38, w39, w40, w41, w42, w43, w44, w45, w46, w47, w48, w49, w50, w51, w52, w53, w54, w55, w56, w57, w58, w59, w60, w61, w62, w63]))] H := hP
  have hD : va_D A [(h0, .inr (16, [w1, w2, w3, w4, w5, w6, .int 0, w7, w8, w9, w10, w11, w12, w13, w14, w15, w16, w17, w18, w19, w20, w21, w22, w23, w24, w25, w26, w27, w28, w29, w30, w31, w32, w33, w34, w35, w36, w37, w38, w39, w40, w41, w42, w43, w44, w45, w46, w47, w48, w49, w50, w51, w52, w53, w54, w55, w56, w57, w58, w59, w60, w61, w62, w63]))] := hD
  have hw : r1 = -1 := hw
  subst hw
  refine lv_istore (lv' := [(6, .int (-1)), (0, .ref h0), (1, .int k), (2, .int pt), (3, .int fo), (4, .long tm)]) hx hb dX12_seal_6 hl (by decide) rfl (fun ls hl => ?_)
  refine lv_aload_n hx hb dX12_seal_8 rfl (lv_at hl 1 rfl) ?_
  refine lv_iload hx hb dX12_seal_9 (lv_at hl 0 rfl) ?_
  refine lv_iconst (v := -1) hx hb dX12_seal_11 (by decide) ?_
  refine lv_icmp_ne (tgt := 19) hx hb dX12_seal_12 (by decide) (fun c9 => absurd (by decide) c9) (fun _ => ?_)
  refine lv_iconst (v := 1) hx hb dX12_seal_15 (by decide) ?_
  refine lv_goto (tgt := 55) hx hb dX12_seal_16 (by decide) ?_
  refine va_put (D := D) (ci := 16) (v := .int 1) (ty := .int) (C := RX12) (T := TX12) (N := 64) hx hb hts (by decide +kernel) tyX12 tyX12_ok nmX12 hown hK hP hD hS 0 rfl rfl 0 (by decide) (hts (.fieldLink RX12 78 "SignetRingModel" "thrown" "I") (by decide +kernel)) (fun _ h9 => h9) rfl (by decide +kernel) rfl rfl (Nat.le_of_ble_eq_true rfl) dX12_seal_55 (fun H locs hP hD hS => ?_)
  have hP : va_P D vwCl [(h0, .inr (16, [.int 1, w2, w3, w4, w5, w6, .int 0, w7, w8, w9, w10, w11, w12, w13, w14, w15, w16, w17, w18, w19, w20, w21, w22, w23, w24, w25, w26, w27, w28, w29, w30, w31, w32, w33, w34, w35, w36, w37, w38, w39, w40, w41, w42, w43, w44, w45, w46, w47, w48, w49, w50, w51, w52, w53, w54, w55, w56, w57, w58, w59, w60, w61, w62, w63]))] H := hP
  have hD : va_D A [(h0, .inr (16, [.int 1, w2, w3, w4, w5, w6, .int 0, w7, w8, w9, w10, w11, w12, w13, w14, w15, w16, w17, w18, w19, w20, w21, w22, w23, w24, w25, w26, w27, w28, w29, w30, w31, w32, w33, w34, w35, w36, w37, w38, w39, w40, w41, w42, w43, w44, w45, w46, w47, w48, w49, w50, w51, w52, w53, w54, w55, w56, w57, w58, w59, w60, w61, w62, w63]))] := hD
  refine lv_aload_n hx hb dX12_seal_58 rfl (lv_at hl 1 rfl) ?_
  refine va_get (D := D) (ci := 16) (v := .int 1) (C := RX12) (T := TX12) (N := 64) hx hb hts (by decide +kernel) hown hK hP 0 rfl rfl 0 (by decide) (hts (.fieldLink RX12 78 "SignetRingModel" "thrown" "I") (by decide +kernel)) (fun _ h9 => h9) rfl dX12_seal_59 ?_
  refine lv_if_le (tgt := 67) hx hb dX12_seal_62 (by decide) (fun c9 => absurd c9 (by decide)) (fun _ => ?_)
  refine lv_iconst (v := 0) hx hb dX12_seal_65 (by decide) ?_
  have hP9 := hP.sub (ws' := [(h0, .inr (16, [.int 1, w2, w3, w4, w5, w6, .int 0, w7, w8, w9, w10, w11, w12, w13, w14, w15, w16, w17, w18, w19, w20, w21, w22, w23, w24, w25, w26, w27, w28, w29, w30, w31, w32, w33, w34, w35, w36, w37, w38, w39, w40, w41, w42, w43, w44, w45, w46, w47, w48, w49, w50, w51, w52, w53, w54, w55, w56, w57, w58, w59, w60, w61, w62, w63]))]) [0] rfl
  have hD9 := hD.sub (ws' := [(h0, .inr (16, [.int 1, w2, w3, w4, w5, w6, .int 0, w7, w8, w9, w10, w11, w12, w13, w14, w15, w16, w17, w18, w19, w20, w21, w22, w23, w24, w25, w26, w27, w28, w29, w30, w31, w32, w33, w34, w35, w36, w37, w38, w39, w40, w41, w42, w43, w44, w45, w46, w47, w48, w49, w50, w51, w52, w53, w54, w55, w56, w57, w58, w59, w60, w61, w62, w63]))]) [0] (by decide) rfl
  refine W.widen (k := 0) (n := 0) (Nat.le_of_ble_eq_true rfl) (Nat.le_of_ble_eq_true rfl) ?_
  exact W.iret (v := 0) hx hb hr (fun t ht hW => ⟨⟨0, (), rfl, rfl, by rw [ht]; exact hP9, hD9⟩, hS.F ht⟩) hS.2.2 dX12_seal_66
def wz_c_M_export : List Cond := .code yX12_export cX12_export 5 (some .int) :: ([.methodLink RX12 590 yX12_placeOf, .instanceMethod yX12_placeOf, .selects RX12 yX12_placeOf yX12_placeOf, .initialized RX12, .fieldLink RX12 78 "SignetRingModel" "thrown" "I"] ++ (wsX120 ++ (wz_c_M_placeOf ++ ([]))))
set_option maxRecDepth 100000 in
theorem gz_c_M_export_c_M_placeOf : GoodIn wz_c_M_export wz_c_M_placeOf := goodIn_sub (fun w h => List.mem_cons_of_mem _ (List.mem_append_right _ (List.mem_append_right _ (List.mem_append_left _ h)))) (by decide +kernel)
set_option maxRecDepth 100000 in
theorem gv_c_M_export_c_M_placeOf_590 : GoodIn wz_c_M_export (wsV RX12 590 RX12 yX12_placeOf wz_c_M_placeOf) := goodIn_app (goodIn_of _ (by decide +kernel)) gz_c_M_export_c_M_placeOf
set_option maxHeartbeats 4000000 in
set_option maxRecDepth 100000 in
theorem c_M_export (l : Launch) (D : va_G) (y : Nat → ClassId) (sz : Nat) (h0 : Nat) (w1 : Value) (w2 : Value) (w3 : Value) (w4 : Value) (w5 : Value) (w6 : Value) (w7 : Value) (w8 : Value) (w9 : Value) (w10 : Value) (w11 : Value) (w12 : Value) (w13 : Value) (w14 : Value) (w15 : Value) (w16 : Value) (w17 : Value) (w18 : Value) (w19 : Value) (w20 : Value) (w21 : Value) (w22 : Value) (w23 : Value) (w24 : Value) (w25 : Value) (w26 : Value) (w27 : Value) (w28 : Value) (w29 : Value) (w30 : Value) (w31 : Value) (w32 : Value) (w33 : Value) (w34 : Value) (w35 : Value) (w36 : Value) (w37 : Value) (w38 : Value) (w39 : Value) (w40 : Value) (w41 : Value) (w42 : Value) (w43 : Value) (w44 : Value) (w45 : Value) (w46 : Value) (w47 : Value) (w48 : Value) (w49 : Value) (w50 : Value) (w51 : Value) (w52 : Value) (w53 : Value) (w54 : Value) (w55 : Value) (w56 : Value) (w57 : Value) (w58 : Value) (w59 : Value) (w60 : Value) (w61 : Value) (w62 : Value) (w63 : Value) (k : Int32) : Met l yX12_export wz_c_M_export ({ frames := 1, cells := 0, slots := 0, locals := 23 }) (va_Pc [.ref h0, .int k] (zB D y [(h0, .inr (16, [w1, w2, w3, w4, w5, w6, .int 0, w7, w8, w9, w10, w11, w12, w13, w14, w15, w16, w17, w18, w19, w20, w21, w22, w23, w24, w25, w26, w27, w28, w29, w30, w31, w32, w33, w34, w35, w36, w37, w38, w39, w40, w41, w42, w43, w44, w45, w46, w47, w48, w49, w50, w51, w52, w53, w54, w55, w56, w57, w58, w59, w60, w61, w62, w63]))] sz [] [] [] [])) (va_Qi (fun (r : Int32) (_ : Unit) => r = 0) (fun _ t => va_P D vwCl [(h0, .inr (16, [.int 1, w2, w3, w4, w5, w6, .int 0, w7, w8, w9, w10, w11, w12, w13, w14, w15, w16, w17, w18, w19, w20, w21, w22, w23, w24, w25, w26, w27, w28, w29, w30, w31, w32, w33, w34, w35, w36, w37, w38, w39, w40, w41, w42, w43, w44, w45, w46, w47, w48, w49, w50, w51, w52, w53, w54, w55, w56, w57, w58, w59, w60, w61, w62, w63]))] t.heap ∧ va_D (va_A [(h0, .inr (16, [w1, w2, w3, w4, w5, w6, .int 0, w7, w8, w9, w10, w11, w12, w13, w14, w15, w16, w17, w18, w19, w20, w21, w22, w23, w24, w25, w26, w27, w28, w29, w30, w31, w32, w33, w34, w35, w36, w37, w38, w39, w40, w41, w42, w43, w44, w45, w46, w47, w48, w49, w50, w51, w52, w53, w54, w55, w56, w57, w58, w59, w60, w61, w62, w63]))] sz) [(h0, .inr (16, [.int 1, w2, w3, w4, w5, w6, .int 0, w7, w8, w9, w10, w11, w12, w13, w14, w15, w16, w17, w18, w19, w20, w21, w22, w23, w24, w25, w26, w27, w28, w29, w30, w31, w32, w33, w34, w35, w36, w37, w38, w39, w40, w41, w42, w43, w44, w45, w46, w47, w48, w49, w50, w51, w52, w53, w54, w55, w56, w57, w58, w59, w60, w61, w62, w63]))]) (va_A [(h0, .inr (16, [w1, w2, w3, w4, w5, w6, .int 0, w7, w8, w9, w10, w11, w12, w13, w14, w15, w16, w17, w18, w19, w20, w21, w22, w23, w24, w25, w26, w27, w28, w29, w30, w31, w32, w33, w34, w35, w36, w37, w38, w39, w40, w41, w42, w43, w44, w45, w46, w47, w48, w49, w50, w51, w52, w53, w54, w55, w56, w57, w58, w59, w60, w61, w62, w63]))] sz)) 0 0 (va_A [(h0, .inr (16, [w1, w2, w3, w4, w5, w6, .int 0, w7, w8, w9, w10, w11, w12, w13, w14, w15, w16, w17, w18, w19, w20, w21, w22, w23, w24, w25, w26, w27, w28, w29, w30, w31, w32, w33, w34, w35, w36, w37, w38, w39, w40, w41, w42, w43, w44, w45, w46, w47, w48, w49, w50, w51, w52, w53, w54, w55, w56, w57, w58, w59, w60, w61, w62, w63]))] sz) := by
  refine Met.ofW (cc := cX12_export) (maxL := 5) (ret := (some .int)) (by decide) rfl ?_
  intro p e s m args below meth c s₁ B hml hv
  obtain ⟨rfl, hsz, hP, hK, hD0, hN, hE, hO, hT, hG⟩ := hv
  have hx := B.exec
  have hb := B.bytes
  have hr := B.returns
  have hts := atoms_spec (ws := wz_c_M_export) B.pre
  have hown : s.vm.findClass RX12 = some m.cls := findClass_of_methodNamed B.named
  have hlocks := B.notSynchronized
  subst hsz
  have hD := hD0.self (sz := s.heap.size)
  generalize hAe : va_A [(h0, .inr (16, [w1, w2, w3, w4, w5, w6, .int 0, w7, w8, w9, w10, w11, w12, w13, w14, w15, w16, w17, w18, w19, w20, w21, w22, w23, w24, w25, w26, w27, w28, w29, w30, w31, w32, w33, w34, w35, w36, w37, w38, w39, w40, w41, w42, w43, w44, w45, w46, w47, w48, w49, w50, w51, w52, w53, w54, w55, w56, w57, w58, w59, w60, w61, w62, w63]))] s.heap.size = A at hD hE hT hG ⊢
  have hA : ∀ q : Nat, s.heap.size ≤ q → A q := fun q h => by rw [← hAe]; exact Or.inr h
  have hS : va_S A s.heap s.heap [] := va_S.rf
  have hl := lv_entry ([.ref h0, .int k]) (n := 5) (Nat.le_of_ble_eq_true rfl)
  rw [lg_entry_eq]
  generalize (lg_sl ([.ref h0, .int k]) ++ List.replicate (5 - (lg_sl ([.ref h0, .int k])).length) Slot.unset).toArray = ls at hl ⊢
  have hl : lv_has ls 5 [(0, .ref h0), (1, .int k)] := hl
  refine lv_aload_n hx hb dX12_export_0 rfl (lv_at hl 0 rfl) ?_
  refine lv_iload_n hx hb dX12_export_1 rfl (lv_at hl 1 rfl) ?_
  have hPc := hP.sub (ws' := [(h0, .inr (16, [w1, w2, w3, w4, w5, w6, .int 0, w7, w8, w9, w10, w11, w12, w13, w14, w15, w16, w17, w18, w19, w20, w21, w22, w23, w24, w25, w26, w27, w28, w29, w30, w31, w32, w33, w34, w35, w36, w37, w38, w39, w40, w41, w42, w43, w44, w45, w46, w47, w48, w49, w50, w51, w52, w53, w54, w55, w56, w57, w58, w59, w60, w61, w62, w63]))]) [0] rfl
  have hDc := hD.sub (ws' := [(h0, .inr (16, [w1, w2, w3, w4, w5, w6, .int 0, w7, w8, w9, w10, w11, w12, w13, w14, w15, w16, w17, w18, w19, w20, w21, w22, w23, w24, w25, w26, w27, w28, w29, w30, w31, w32, w33, w34, w35, w36, w37, w38, w39, w40, w41, w42, w43, w44, w45, w46, w47, w48, w49, w50, w51, w52, w53, w54, w55, w56, w57, w58, w59, w60, w61, w62, w63]))]) [0] (by decide) rfl
  have hFc := va_free (wc := [(h0, .inr (16, [w1, w2, w3, w4, w5, w6, .int 0, w7, w8, w9, w10, w11, w12, w13, w14, w15, w16, w17, w18, w19, w20, w21, w22, w23, w24, w25, w26, w27, w28, w29, w30, w31, w32, w33, w34, w35, w36, w37, w38, w39, w40, w41, w42, w43, w44, w45, w46, w47, w48, w49, w50, w51, w52, w53, w54, w55, w56, w57, w58, w59, w60, w61, w62, w63]))]) hD hS hA [0] rfl
  refine va_calli (va_runV (As := [.int k]) (rest := []) ⟨hx, hb, hml, hown, hts⟩ (c_M_placeOf l D y s.heap.size h0 w1 w2 w3 w4 w5 w6 w7 w8 w9 w10 w11 w12 w13 w14 w15 w16 w17 w18 w19 w20 w21 w22 w23 w24 w25 w26 w27 w28 w29 w30 w31 w32 w33 w34 w35 w36 w37 w38 w39 w40 w41 w42 w43 w44 w45 w46 w47 w48 w49 w50 w51 w52 w53 w54 w55 w56 w57 w58 w59 w60 w61 w62 w63 k) (cwV 1 hts gv_c_M_export_c_M_placeOf_590 rfl rfl rfl (by decide +kernel) ⟨(Nat.le_of_ble_eq_true rfl), (Nat.le_of_ble_eq_true rfl)⟩) (zB.preV hPc hDc hK hN hE hO hT hG hS hFc (fun _ h => nomatch h) (fun _ h => nomatch h) (fun _ h => nomatch h) (fun _ h => nomatch h) (va_recv hK hPc (ci := 16) (q0 := 0) rfl rfl)) rfl rfl hl.1 rfl (lv_room (Nat.le_of_ble_eq_true rfl)) dX12_export_2 ⟨(Nat.le_of_ble_eq_true rfl), (Nat.le_of_ble_eq_true rfl)⟩) hS (fun q _ h => hFc q h) hFc (fun r1 u t H1 locs ht hvm hw hB hz1 hk1 hS => ?_)
  obtain ⟨hP1, hD1⟩ := hB
  rw [ht] at hP1
  obtain ⟨hP, hD⟩ := va_join (wr := []) (w1 := [(h0, .inr (16, [w1, w2, w3, w4, w5, w6, .int 0, w7, w8, w9, w10, w11, w12, w13, w14, w15, w16, w17, w18, w19, w20, w21, w22, w23, w24, w25, w26, w27, w28, w29, w30, w31, w32, w33, w34, w35, w36, w37, w38, w39, w40, w41, w42, w43, w44, w45, w46, w47, w48, w49, w50, w51, w52, w53, w54, w55, w56, w57, w58, w59, w60, w61, w62, w63]))]) hP hD [0] [] rfl rfl (by decide) (by decide) hk1 hFc hP1 hD1
  generalize H1 = H at hP hS ⊢
  have hP : va_P D vwCl [(h0, .inr (16, [w1, w2, w3, w4, w5, w6, .int 0, w7, w8, w9, w10, w11, w12, w13, w14, w15, w16, w17, w18, w19, w20, w21, w22, w23, w24, w25, w26, w27, w28, w29, w30, w31, w32, w33, w34, w35, w36, w37, w38, w39, w40, w41, w42, w43, w44, w45, w46, w47, w48, w49, w50, w51, w52, w53, w54, w55, w56, w57, w58, w59, w60, w61, w62, w63]))] H := hP
  have hD : va_D A [(h0, .inr (16, [w1, w2, w3, w4, w5, w6, .int 0, w7, w8, w9, w10, w11, w12, w13, w14, w15, w16, w17, w18, w19, w20, w21, w22, w23, w24, w25, w26, w27, w28, w29, w30, w31, w32, w33, w34, w35, w36, w37, w38, w39, w40, w41, w42, w43, w44, w45, w46, w47, w48, w49, w50, w51, w52, w53, w54, w55, w56, w57, w58, w59, w60, w61, w62, w63]))] := hD
  have hw : r1 = -1 := hw
  subst hw
  refine lv_istore_n (lv' := [(2, .int (-1)), (0, .ref h0), (1, .int k)]) hx hb dX12_export_5 rfl hl (by decide) rfl (fun ls hl => ?_)
  refine lv_aload_n hx hb dX12_export_6 rfl (lv_at hl 1 rfl) ?_
  refine lv_iload_n hx hb dX12_export_7 rfl (lv_at hl 0 rfl) ?_
  refine lv_iconst (v := -1) hx hb dX12_export_8 (by decide) ?_
  refine lv_icmp_ne (tgt := 16) hx hb dX12_export_9 (by decide) (fun c9 => absurd (by decide) c9) (fun _ => ?_)
  refine lv_iconst (v := 1) hx hb dX12_export_12 (by decide) ?_
  refine lv_goto (tgt := 17) hx hb dX12_export_13 (by decide) ?_
  refine va_put (D := D) (ci := 16) (v := .int 1) (ty := .int) (C := RX12) (T := TX12) (N := 64) hx hb hts (by decide +kernel) tyX12 tyX12_ok nmX12 hown hK hP hD hS 0 rfl rfl 0 (by decide) (hts (.fieldLink RX12 78 "SignetRingModel" "thrown" "I") (by decide +kernel)) (fun _ h9 => h9) rfl (by decide +kernel) rfl rfl (Nat.le_of_ble_eq_true rfl) dX12_export_17 (fun H locs hP hD hS => ?_)
  have hP : va_P D vwCl [(h0, .inr (16, [.int 1, w2, w3, w4, w5, w6, .int 0, w7, w8, w9, w10, w11, w12, w13, w14, w15, w16, w17, w18, w19, w20, w21, w22, w23, w24, w25, w26, w27, w28, w29, w30, w31, w32, w33, w34, w35, w36, w37, w38, w39, w40, w41, w42, w43, w44, w45, w46, w47, w48, w49, w50, w51, w52, w53, w54, w55, w56, w57, w58, w59, w60, w61, w62, w63]))] H := hP
  have hD : va_D A [(h0, .inr (16, [.int 1, w2, w3, w4, w5, w6, .int 0, w7, w8, w9, w10, w11, w12, w13, w14, w15, w16, w17, w18, w19, w20, w21, w22, w23, w24, w25, w26, w27, w28, w29, w30, w31, w32, w33, w34, w35, w36, w37, w38, w39, w40, w41, w42, w43, w44, w45, w46, w47, w48, w49, w50, w51, w52, w53, w54, w55, w56, w57, w58, w59, w60, w61, w62, w63]))] := hD
  refine lv_aload_n hx hb dX12_export_20 rfl (lv_at hl 1 rfl) ?_
  refine va_get (D := D) (ci := 16) (v := .int 1) (C := RX12) (T := TX12) (N := 64) hx hb hts (by decide +kernel) hown hK hP 0 rfl rfl 0 (by decide) (hts (.fieldLink RX12 78 "SignetRingModel" "thrown" "I") (by decide +kernel)) (fun _ h9 => h9) rfl dX12_export_21 ?_
  refine lv_if_le (tgt := 29) hx hb dX12_export_24 (by decide) (fun c9 => absurd c9 (by decide)) (fun _ => ?_)
  refine lv_iconst (v := 0) hx hb dX12_export_27 (by decide) ?_
  have hP9 := hP.sub (ws' := [(h0, .inr (16, [.int 1, w2, w3, w4, w5, w6, .int 0, w7, w8, w9, w10, w11, w12, w13, w14, w15, w16, w17, w18, w19, w20, w21, w22, w23, w24, w25, w26, w27, w28, w29, w30, w31, w32, w33, w34, w35, w36, w37, w38, w39, w40, w41, w42, w43, w44, w45, w46, w47, w48, w49, w50, w51, w52, w53, w54, w55, w56, w57, w58, w59, w60, w61, w62, w63]))]) [0] rfl
  have hD9 := hD.sub (ws' := [(h0, .inr (16, [.int 1, w2, w3, w4, w5, w6, .int 0, w7, w8, w9, w10, w11, w12, w13, w14, w15, w16, w17, w18, w19, w20, w21, w22, w23, w24, w25, w26, w27, w28, w29, w30, w31, w32, w33, w34, w35, w36, w37, w38, w39, w40, w41, w42, w43, w44, w45, w46, w47, w48, w49, w50, w51, w52, w53, w54, w55, w56, w57, w58, w59, w60, w61, w62, w63]))]) [0] (by decide) rfl
  refine W.widen (k := 0) (n := 0) (Nat.le_of_ble_eq_true rfl) (Nat.le_of_ble_eq_true rfl) ?_
  exact W.iret (v := 0) hx hb hr (fun t ht hW => ⟨⟨0, (), rfl, rfl, by rw [ht]; exact hP9, hD9⟩, hS.F ht⟩) hS.2.2 dX12_export_28
def wz_c_M_drop : List Cond := .code yX12_drop cX12_drop 5 (some .int) :: ([.methodLink RX12 590 yX12_placeOf, .instanceMethod yX12_placeOf, .selects RX12 yX12_placeOf yX12_placeOf, .initialized RX12, .fieldLink RX12 78 "SignetRingModel" "thrown" "I"] ++ (wsX120 ++ (wz_c_M_placeOf ++ ([]))))
set_option maxRecDepth 100000 in
theorem gz_c_M_drop_c_M_placeOf : GoodIn wz_c_M_drop wz_c_M_placeOf := goodIn_sub (fun w h => List.mem_cons_of_mem _ (List.mem_append_right _ (List.mem_append_right _ (List.mem_append_left _ h)))) (by decide +kernel)
set_option maxRecDepth 100000 in
theorem gv_c_M_drop_c_M_placeOf_590 : GoodIn wz_c_M_drop (wsV RX12 590 RX12 yX12_placeOf wz_c_M_placeOf) := goodIn_app (goodIn_of _ (by decide +kernel)) gz_c_M_drop_c_M_placeOf
set_option maxHeartbeats 4000000 in
set_option maxRecDepth 100000 in
theorem c_M_drop (l : Launch) (D : va_G) (y : Nat → ClassId) (sz : Nat) (h0 : Nat) (w1 : Value) (w2 : Value) (w3 : Value) (w4 : Value) (w5 : Value) (w6 : Value) (w7 : Value) (w8 : Value) (w9 : Value) (w10 : Value) (w11 : Value) (w12 : Value) (w13 : Value) (w14 : Value) (w15 : Value) (w16 : Value) (w17 : Value) (w18 : Value) (w19 : Value) (w20 : Value) (w21 : Value) (w22 : Value) (w23 : Value) (w24 : Value) (w25 : Value) (w26 : Value) (w27 : Value) (w28 : Value) (w29 : Value) (w30 : Value) (w31 : Value) (w32 : Value) (w33 : Value) (w34 : Value) (w35 : Value) (w36 : Value) (w37 : Value) (w38 : Value) (w39 : Value) (w40 : Value) (w41 : Value) (w42 : Value) (w43 : Value) (w44 : Value) (w45 : Value) (w46 : Value) (w47 : Value) (w48 : Value) (w49 : Value) (w50 : Value) (w51 : Value) (w52 : Value) (w53 : Value) (w54 : Value) (w55 : Value) (w56 : Value) (w57 : Value) (w58 : Value) (w59 : Value) (w60 : Value) (w61 : Value) (w62 : Value) (w63 : Value) (k : Int32) : Met l yX12_drop wz_c_M_drop ({ frames := 1, cells := 0, slots := 0, locals := 23 }) (va_Pc [.ref h0, .int k] (zB D y [(h0, .inr (16, [w1, w2, w3, w4, w5, w6, .int 0, w7, w8, w9, w10, w11, w12, w13, w14, w15, w16, w17, w18, w19, w20, w21, w22, w23, w24, w25, w26, w27, w28, w29, w30, w31, w32, w33, w34, w35, w36, w37, w38, w39, w40, w41, w42, w43, w44, w45, w46, w47, w48, w49, w50, w51, w52, w53, w54, w55, w56, w57, w58, w59, w60, w61, w62, w63]))] sz [] [] [] [])) (va_Qi (fun (r : Int32) (_ : Unit) => r = 0) (fun _ t => va_P D vwCl [(h0, .inr (16, [.int 1, w2, w3, w4, w5, w6, .int 0, w7, w8, w9, w10, w11, w12, w13, w14, w15, w16, w17, w18, w19, w20, w21, w22, w23, w24, w25, w26, w27, w28, w29, w30, w31, w32, w33, w34, w35, w36, w37, w38, w39, w40, w41, w42, w43, w44, w45, w46, w47, w48, w49, w50, w51, w52, w53, w54, w55, w56, w57, w58, w59, w60, w61, w62, w63]))] t.heap ∧ va_D (va_A [(h0, .inr (16, [w1, w2, w3, w4, w5, w6, .int 0, w7, w8, w9, w10, w11, w12, w13, w14, w15, w16, w17, w18, w19, w20, w21, w22, w23, w24, w25, w26, w27, w28, w29, w30, w31, w32, w33, w34, w35, w36, w37, w38, w39, w40, w41, w42, w43, w44, w45, w46, w47, w48, w49, w50, w51, w52, w53, w54, w55, w56, w57, w58, w59, w60, w61, w62, w63]))] sz) [(h0, .inr (16, [.int 1, w2, w3, w4, w5, w6, .int 0, w7, w8, w9, w10, w11, w12, w13, w14, w15, w16, w17, w18, w19, w20, w21, w22, w23, w24, w25, w26, w27, w28, w29, w30, w31, w32, w33, w34, w35, w36, w37, w38, w39, w40, w41, w42, w43, w44, w45, w46, w47, w48, w49, w50, w51, w52, w53, w54, w55, w56, w57, w58, w59, w60, w61, w62, w63]))]) (va_A [(h0, .inr (16, [w1, w2, w3, w4, w5, w6, .int 0, w7, w8, w9, w10, w11, w12, w13, w14, w15, w16, w17, w18, w19, w20, w21, w22, w23, w24, w25, w26, w27, w28, w29, w30, w31, w32, w33, w34, w35, w36, w37, w38, w39, w40, w41, w42, w43, w44, w45, w46, w47, w48, w49, w50, w51, w52, w53, w54, w55, w56, w57, w58, w59, w60, w61, w62, w63]))] sz)) 0 0 (va_A [(h0, .inr (16, [w1, w2, w3, w4, w5, w6, .int 0, w7, w8, w9, w10, w11, w12, w13, w14, w15, w16, w17, w18, w19, w20, w21, w22, w23, w24, w25, w26, w27, w28, w29, w30, w31, w32, w33, w34, w35, w36, w37, w38, w39, w40, w41, w42, w43, w44, w45, w46, w47, w48, w49, w50, w51, w52, w53, w54, w55, w56, w57, w58, w59, w60, w61, w62, w63]))] sz) := by
  refine Met.ofW (cc := cX12_drop) (maxL := 5) (ret := (some .int)) (by decide) rfl ?_
  intro p e s m args below meth c s₁ B hml hv
  obtain ⟨rfl, hsz, hP, hK, hD0, hN, hE, hO, hT, hG⟩ := hv
  have hx := B.exec
  have hb := B.bytes
  have hr := B.returns
  have hts := atoms_spec (ws := wz_c_M_drop) B.pre
  have hown : s.vm.findClass RX12 = some m.cls := findClass_of_methodNamed B.named
  have hlocks := B.notSynchronized
  subst hsz
  have hD := hD0.self (sz := s.heap.size)
  generalize hAe : va_A [(h0, .inr (16, [w1, w2, w3, w4, w5, w6, .int 0, w7, w8, w9, w10, w11, w12, w13, w14, w15, w16, w17, w18, w19, w20, w21, w22, w23, w24, w25, w26, w27, w28, w29, w30, w31, w32, w33, w34, w35, w36, w37, w38, w39, w40, w41, w42, w43, w44, w45, w46, w47, w48, w49, w50, w51, w52, w53, w54, w55, w56, w57, w58, w59, w60, w61, w62, w63]))] s.heap.size = A at hD hE hT hG ⊢
  have hA : ∀ q : Nat, s.heap.size ≤ q → A q := fun q h => by rw [← hAe]; exact Or.inr h
  have hS : va_S A s.heap s.heap [] := va_S.rf
  have hl := lv_entry ([.ref h0, .int k]) (n := 5) (Nat.le_of_ble_eq_true rfl)
  rw [lg_entry_eq]
  generalize (lg_sl ([.ref h0, .int k]) ++ List.replicate (5 - (lg_sl ([.ref h0, .int k])).length) Slot.unset).toArray = ls at hl ⊢
  have hl : lv_has ls 5 [(0, .ref h0), (1, .int k)] := hl
  refine lv_aload_n hx hb dX12_drop_0 rfl (lv_at hl 0 rfl) ?_
  refine lv_iload_n hx hb dX12_drop_1 rfl (lv_at hl 1 rfl) ?_
  have hPc := hP.sub (ws' := [(h0, .inr (16, [w1, w2, w3, w4, w5, w6, .int 0, w7, w8, w9, w10, w11, w12, w13, w14, w15, w16, w17, w18, w19, w20, w21, w22, w23, w24, w25, w26, w27, w28, w29, w30, w31, w32, w33, w34, w35, w36, w37, w38, w39, w40, w41, w42, w43, w44, w45, w46, w47, w48, w49, w50, w51, w52, w53, w54, w55, w56, w57, w58, w59, w60, w61, w62, w63]))]) [0] rfl
  have hDc := hD.sub (ws' := [(h0, .inr (16, [w1, w2, w3, w4, w5, w6, .int 0, w7, w8, w9, w10, w11, w12, w13, w14, w15, w16, w17, w18, w19, w20, w21, w22, w23, w24, w25, w26, w27, w28, w29, w30, w31, w32, w33, w34, w35, w36, w37, w38, w39, w40, w41, w42, w43, w44, w45, w46, w47, w48, w49, w50, w51, w52, w53, w54, w55, w56, w57, w58, w59, w60, w61, w62, w63]))]) [0] (by decide) rfl
  have hFc := va_free (wc := [(h0, .inr (16, [w1, w2, w3, w4, w5, w6, .int 0, w7, w8, w9, w10, w11, w12, w13, w14, w15, w16, w17, w18, w19, w20, w21, w22, w23, w24, w25, w26, w27, w28, w29, w30, w31, w32, w33, w34, w35, w36, w37, w38, w39, w40, w41, w42, w43, w44, w45, w46, w47, w48, w49, w50, w51, w52, w53, w54, w55, w56, w57, w58, w59, w60, w61, w62, w63]))]) hD hS hA [0] rfl
  refine va_calli (va_runV (As := [.int k]) (rest := []) ⟨hx, hb, hml, hown, hts⟩ (c_M_placeOf l D y s.heap.size h0 w1 w2 w3 w4 w5 w6 w7 w8 w9 w10 w11 w12 w13 w14 w15 w16 w17 w18 w19 w20 w21 w22 w23 w24 w25 w26 w27 w28 w29 w30 w31 w32 w33 w34 w35 w36 w37 w38 w39 w40 w41 w42 w43 w44 w45 w46 w47 w48 w49 w50 w51 w52 w53 w54 w55 w56 w57 w58 w59 w60 w61 w62 w63 k) (cwV 1 hts gv_c_M_drop_c_M_placeOf_590 rfl rfl rfl (by decide +kernel) ⟨(Nat.le_of_ble_eq_true rfl), (Nat.le_of_ble_eq_true rfl)⟩) (zB.preV hPc hDc hK hN hE hO hT hG hS hFc (fun _ h => nomatch h) (fun _ h => nomatch h) (fun _ h => nomatch h) (fun _ h => nomatch h) (va_recv hK hPc (ci := 16) (q0 := 0) rfl rfl)) rfl rfl hl.1 rfl (lv_room (Nat.le_of_ble_eq_true rfl)) dX12_drop_2 ⟨(Nat.le_of_ble_eq_true rfl), (Nat.le_of_ble_eq_true rfl)⟩) hS (fun q _ h => hFc q h) hFc (fun r1 u t H1 locs ht hvm hw hB hz1 hk1 hS => ?_)
  obtain ⟨hP1, hD1⟩ := hB
  rw [ht] at hP1
  obtain ⟨hP, hD⟩ := va_join (wr := []) (w1 := [(h0, .inr (16, [w1, w2, w3, w4, w5, w6, .int 0, w7, w8, w9, w10, w11, w12, w13, w14, w15, w16, w17, w18, w19, w20, w21, w22, w23, w24, w25, w26, w27, w28, w29, w30, w31, w32, w33, w34, w35, w36, w37, w38, w39, w40, w41, w42, w43, w44, w45, w46, w47, w48, w49, w50, w51, w52, w53, w54, w55, w56, w57, w58, w59, w60, w61, w62, w63]))]) hP hD [0] [] rfl rfl (by decide) (by decide) hk1 hFc hP1 hD1
  generalize H1 = H at hP hS ⊢
  have hP : va_P D vwCl [(h0, .inr (16, [w1, w2, w3, w4, w5, w6, .int 0, w7, w8, w9, w10, w11, w12, w13, w14, w15, w16, w17, w18, w19, w20, w21, w22, w23, w24, w25, w26, w27, w28, w29, w30, w31, w32, w33, w34, w35, w36, w37, w38, w39, w40, w41, w42, w43, w44, w45, w46, w47, w48, w49, w50, w51, w52, w53, w54, w55, w56, w57, w58, w59, w60, w61, w62, w63]))] H := hP
  have hD : va_D A [(h0, .inr (16, [w1, w2, w3, w4, w5, w6, .int 0, w7, w8, w9, w10, w11, w12, w13, w14, w15, w16, w17, w18, w19, w20, w21, w22, w23, w24, w25, w26, w27, w28, w29, w30, w31, w32, w33, w34, w35, w36, w37, w38, w39, w40, w41, w42, w43, w44, w45, w46, w47, w48, w49, w50, w51, w52, w53, w54, w55, w56, w57, w58, w59, w60, w61, w62, w63]))] := hD
  have hw : r1 = -1 := hw
  subst hw
  refine lv_istore_n (lv' := [(2, .int (-1)), (0, .ref h0), (1, .int k)]) hx hb dX12_drop_5 rfl hl (by decide) rfl (fun ls hl => ?_)
  refine lv_aload_n hx hb dX12_drop_6 rfl (lv_at hl 1 rfl) ?_
  refine lv_iload_n hx hb dX12_drop_7 rfl (lv_at hl 0 rfl) ?_
  refine lv_iconst (v := -1) hx hb dX12_drop_8 (by decide) ?_
  refine lv_icmp_ne (tgt := 16) hx hb dX12_drop_9 (by decide) (fun c9 => absurd (by decide) c9) (fun _ => ?_)
  refine lv_iconst (v := 1) hx hb dX12_drop_12 (by decide) ?_
  refine lv_goto (tgt := 17) hx hb dX12_drop_13 (by decide) ?_
  refine va_put (D := D) (ci := 16) (v := .int 1) (ty := .int) (C := RX12) (T := TX12) (N := 64) hx hb hts (by decide +kernel) tyX12 tyX12_ok nmX12 hown hK hP hD hS 0 rfl rfl 0 (by decide) (hts (.fieldLink RX12 78 "SignetRingModel" "thrown" "I") (by decide +kernel)) (fun _ h9 => h9) rfl (by decide +kernel) rfl rfl (Nat.le_of_ble_eq_true rfl) dX12_drop_17 (fun H locs hP hD hS => ?_)
  have hP : va_P D vwCl [(h0, .inr (16, [.int 1, w2, w3, w4, w5, w6, .int 0, w7, w8, w9, w10, w11, w12, w13, w14, w15, w16, w17, w18, w19, w20, w21, w22, w23, w24, w25, w26, w27, w28, w29, w30, w31, w32, w33, w34, w35, w36, w37, w38, w39, w40, w41, w42, w43, w44, w45, w46, w47, w48, w49, w50, w51, w52, w53, w54, w55, w56, w57, w58, w59, w60, w61, w62, w63]))] H := hP
  have hD : va_D A [(h0, .inr (16, [.int 1, w2, w3, w4, w5, w6, .int 0, w7, w8, w9, w10, w11, w12, w13, w14, w15, w16, w17, w18, w19, w20, w21, w22, w23, w24, w25, w26, w27, w28, w29, w30, w31, w32, w33, w34, w35, w36, w37, w38, w39, w40, w41, w42, w43, w44, w45, w46, w47, w48, w49, w50, w51, w52, w53, w54, w55, w56, w57, w58, w59, w60, w61, w62, w63]))] := hD
  refine lv_aload_n hx hb dX12_drop_20 rfl (lv_at hl 1 rfl) ?_
  refine va_get (D := D) (ci := 16) (v := .int 1) (C := RX12) (T := TX12) (N := 64) hx hb hts (by decide +kernel) hown hK hP 0 rfl rfl 0 (by decide) (hts (.fieldLink RX12 78 "SignetRingModel" "thrown" "I") (by decide +kernel)) (fun _ h9 => h9) rfl dX12_drop_21 ?_
  refine lv_if_le (tgt := 29) hx hb dX12_drop_24 (by decide) (fun c9 => absurd c9 (by decide)) (fun _ => ?_)
  refine lv_iconst (v := 0) hx hb dX12_drop_27 (by decide) ?_
  have hP9 := hP.sub (ws' := [(h0, .inr (16, [.int 1, w2, w3, w4, w5, w6, .int 0, w7, w8, w9, w10, w11, w12, w13, w14, w15, w16, w17, w18, w19, w20, w21, w22, w23, w24, w25, w26, w27, w28, w29, w30, w31, w32, w33, w34, w35, w36, w37, w38, w39, w40, w41, w42, w43, w44, w45, w46, w47, w48, w49, w50, w51, w52, w53, w54, w55, w56, w57, w58, w59, w60, w61, w62, w63]))]) [0] rfl
  have hD9 := hD.sub (ws' := [(h0, .inr (16, [.int 1, w2, w3, w4, w5, w6, .int 0, w7, w8, w9, w10, w11, w12, w13, w14, w15, w16, w17, w18, w19, w20, w21, w22, w23, w24, w25, w26, w27, w28, w29, w30, w31, w32, w33, w34, w35, w36, w37, w38, w39, w40, w41, w42, w43, w44, w45, w46, w47, w48, w49, w50, w51, w52, w53, w54, w55, w56, w57, w58, w59, w60, w61, w62, w63]))]) [0] (by decide) rfl
  refine W.widen (k := 0) (n := 0) (Nat.le_of_ble_eq_true rfl) (Nat.le_of_ble_eq_true rfl) ?_
  exact W.iret (v := 0) hx hb hr (fun t ht hW => ⟨⟨0, (), rfl, rfl, by rw [ht]; exact hP9, hD9⟩, hS.F ht⟩) hS.2.2 dX12_drop_28
def wz_c_M_out : List Cond := .code yX12_out cX12_out 2 (some .int) :: ([.fieldLink RX12 78 "SignetRingModel" "thrown" "I", .fieldLink RX12 602 "SignetRingModel" "outSize" "I"] ++ (wsX120 ++ ([])))
set_option maxHeartbeats 4000000 in
set_option maxRecDepth 100000 in
theorem c_M_out (l : Launch) (D : va_G) (y : Nat → ClassId) (sz : Nat) (h0 : Nat) (w1 : Value) (w2 : Value) (w3 : Value) (w4 : Value) (w5 : Value) (w6 : Value) (w7 : Value) (w8 : Value) (w9 : Value) (w10 : Value) (w11 : Value) (w12 : Value) (w13 : Value) (w14 : Value) (w15 : Value) (w16 : Value) (w17 : Value) (w18 : Value) (w19 : Value) (w20 : Value) (w21 : Value) (w22 : Value) (w23 : Value) (w24 : Value) (w25 : Value) (w26 : Value) (w27 : Value) (w28 : Value) (w29 : Value) (w30 : Value) (w31 : Value) (w32 : Value) (w33 : Value) (w34 : Value) (w35 : Value) (w36 : Value) (w37 : Value) (w38 : Value) (w39 : Value) (w40 : Value) (w41 : Value) (w42 : Value) (w43 : Value) (w44 : Value) (w45 : Value) (w46 : Value) (w47 : Value) (w48 : Value) (w49 : Value) (w50 : Value) (w51 : Value) (w52 : Value) (w53 : Value) (w54 : Value) (w55 : Value) (w56 : Value) (w57 : Value) (w58 : Value) (w59 : Value) (w60 : Value) (w61 : Value) (w62 : Value) (w63 : Value) (i : Int32) : Met l yX12_out wz_c_M_out ({ frames := 0, cells := 0, slots := 0, locals := 0 }) (va_Pc [.ref h0, .int i] (zB D y [(h0, .inr (16, [w1, w2, w3, w4, .int 0, w5, w6, w7, w8, w9, w10, w11, w12, w13, w14, w15, w16, w17, w18, w19, w20, w21, w22, w23, w24, w25, w26, w27, w28, w29, w30, w31, w32, w33, w34, w35, w36, w37, w38, w39, w40, w41, w42, w43, w44, w45, w46, w47, w48, w49, w50, w51, w52, w53, w54, w55, w56, w57, w58, w59, w60, w61, w62, w63]))] sz [] [] [] [])) (va_Qi (fun (r : Int32) (_ : Unit) => r = 0) (fun _ t => va_P D vwCl [(h0, .inr (16, [.int 1, w2, w3, w4, .int 0, w5, w6, w7, w8, w9, w10, w11, w12, w13, w14, w15, w16, w17, w18, w19, w20, w21, w22, w23, w24, w25, w26, w27, w28, w29, w30, w31, w32, w33, w34, w35, w36, w37, w38, w39, w40, w41, w42, w43, w44, w45, w46, w47, w48, w49, w50, w51, w52, w53, w54, w55, w56, w57, w58, w59, w60, w61, w62, w63]))] t.heap ∧ va_D (va_A [(h0, .inr (16, [w1, w2, w3, w4, .int 0, w5, w6, w7, w8, w9, w10, w11, w12, w13, w14, w15, w16, w17, w18, w19, w20, w21, w22, w23, w24, w25, w26, w27, w28, w29, w30, w31, w32, w33, w34, w35, w36, w37, w38, w39, w40, w41, w42, w43, w44, w45, w46, w47, w48, w49, w50, w51, w52, w53, w54, w55, w56, w57, w58, w59, w60, w61, w62, w63]))] sz) [(h0, .inr (16, [.int 1, w2, w3, w4, .int 0, w5, w6, w7, w8, w9, w10, w11, w12, w13, w14, w15, w16, w17, w18, w19, w20, w21, w22, w23, w24, w25, w26, w27, w28, w29, w30, w31, w32, w33, w34, w35, w36, w37, w38, w39, w40, w41, w42, w43, w44, w45, w46, w47, w48, w49, w50, w51, w52, w53, w54, w55, w56, w57, w58, w59, w60, w61, w62, w63]))]) (va_A [(h0, .inr (16, [w1, w2, w3, w4, .int 0, w5, w6, w7, w8, w9, w10, w11, w12, w13, w14, w15, w16, w17, w18, w19, w20, w21, w22, w23, w24, w25, w26, w27, w28, w29, w30, w31, w32, w33, w34, w35, w36, w37, w38, w39, w40, w41, w42, w43, w44, w45, w46, w47, w48, w49, w50, w51, w52, w53, w54, w55, w56, w57, w58, w59, w60, w61, w62, w63]))] sz)) 0 0 (va_A [(h0, .inr (16, [w1, w2, w3, w4, .int 0, w5, w6, w7, w8, w9, w10, w11, w12, w13, w14, w15, w16, w17, w18, w19, w20, w21, w22, w23, w24, w25, w26, w27, w28, w29, w30, w31, w32, w33, w34, w35, w36, w37, w38, w39, w40, w41, w42, w43, w44, w45, w46, w47, w48, w49, w50, w51, w52, w53, w54, w55, w56, w57, w58, w59, w60, w61, w62, w63]))] sz) := by
  refine Met.ofW (cc := cX12_out) (maxL := 2) (ret := (some .int)) (by decide) rfl ?_
  intro p e s m args below meth c s₁ B hml hv
  obtain ⟨rfl, hsz, hP, hK, hD0, hN, hE, hO, hT, hG⟩ := hv
  have hx := B.exec
  have hb := B.bytes
  have hr := B.returns
  have hts := atoms_spec (ws := wz_c_M_out) B.pre
  have hown : s.vm.findClass RX12 = some m.cls := findClass_of_methodNamed B.named
  have hlocks := B.notSynchronized
  subst hsz
  have hD := hD0.self (sz := s.heap.size)
  generalize hAe : va_A [(h0, .inr (16, [w1, w2, w3, w4, .int 0, w5, w6, w7, w8, w9, w10, w11, w12, w13, w14, w15, w16, w17, w18, w19, w20, w21, w22, w23, w24, w25, w26, w27, w28, w29, w30, w31, w32, w33, w34, w35, w36, w37, w38, w39, w40, w41, w42, w43, w44, w45, w46, w47, w48, w49, w50, w51, w52, w53, w54, w55, w56, w57, w58, w59, w60, w61, w62, w63]))] s.heap.size = A at hD hE hT hG ⊢
  have hA : ∀ q : Nat, s.heap.size ≤ q → A q := fun q h => by rw [← hAe]; exact Or.inr h
  have hS : va_S A s.heap s.heap [] := va_S.rf
  have hl := lv_entry ([.ref h0, .int i]) (n := 2) (Nat.le_of_ble_eq_true rfl)
  rw [lg_entry_eq]
  generalize (lg_sl ([.ref h0, .int i]) ++ List.replicate (2 - (lg_sl ([.ref h0, .int i])).length) Slot.unset).toArray = ls at hl ⊢
  have hl : lv_has ls 2 [(0, .ref h0), (1, .int i)] := hl
  refine lv_aload_n hx hb dX12_out_0 rfl (lv_at hl 0 rfl) ?_
  refine lv_iload_n hx hb dX12_out_1 rfl (lv_at hl 1 rfl) ?_
  refine lv_if_lt (tgt := 13) hx hb dX12_out_2 (by decide) (fun c1 => ?_) (fun c1 => ?_)
  · refine lv_iconst (v := 1) hx hb dX12_out_13 (by decide) ?_
    refine lv_goto (tgt := 18) hx hb dX12_out_14 (by decide) ?_
    refine va_put (D := D) (ci := 16) (v := .int 1) (ty := .int) (C := RX12) (T := TX12) (N := 64) hx hb hts (by decide +kernel) tyX12 tyX12_ok nmX12 hown hK hP hD hS 0 rfl rfl 0 (by decide) (hts (.fieldLink RX12 78 "SignetRingModel" "thrown" "I") (by decide +kernel)) (fun _ h9 => h9) rfl (by decide +kernel) rfl rfl (Nat.le_of_ble_eq_true rfl) dX12_out_18 (fun H locs hP hD hS => ?_)
    have hP : va_P D vwCl [(h0, .inr (16, [.int 1, w2, w3, w4, .int 0, w5, w6, w7, w8, w9, w10, w11, w12, w13, w14, w15, w16, w17, w18, w19, w20, w21, w22, w23, w24, w25, w26, w27, w28, w29, w30, w31, w32, w33, w34, w35, w36, w37, w38, w39, w40, w41, w42, w43, w44, w45, w46, w47, w48, w49, w50, w51, w52, w53, w54, w55, w56, w57, w58, w59, w60, w61, w62, w63]))] H := hP
    have hD : va_D A [(h0, .inr (16, [.int 1, w2, w3, w4, .int 0, w5, w6, w7, w8, w9, w10, w11, w12, w13, w14, w15, w16, w17, w18, w19, w20, w21, w22, w23, w24, w25, w26, w27, w28, w29, w30, w31, w32, w33, w34, w35, w36, w37, w38, w39, w40, w41, w42, w43, w44, w45, w46, w47, w48, w49, w50, w51, w52, w53, w54, w55, w56, w57, w58, w59, w60, w61, w62, w63]))] := hD
    refine lv_aload_n hx hb dX12_out_21 rfl (lv_at hl 0 rfl) ?_
    refine va_get (D := D) (ci := 16) (v := .int 1) (C := RX12) (T := TX12) (N := 64) hx hb hts (by decide +kernel) hown hK hP 0 rfl rfl 0 (by decide) (hts (.fieldLink RX12 78 "SignetRingModel" "thrown" "I") (by decide +kernel)) (fun _ h9 => h9) rfl dX12_out_22 ?_
    refine lv_if_le (tgt := 32) hx hb dX12_out_25 (by decide) (fun c9 => absurd c9 (by decide)) (fun _ => ?_)
    refine lv_iconst (v := 0) hx hb dX12_out_28 (by decide) ?_
    refine lv_goto (tgt := 38) hx hb dX12_out_29 (by decide) ?_
    have hP9 := hP.sub (ws' := [(h0, .inr (16, [.int 1, w2, w3, w4, .int 0, w5, w6, w7, w8, w9, w10, w11, w12, w13, w14, w15, w16, w17, w18, w19, w20, w21, w22, w23, w24, w25, w26, w27, w28, w29, w30, w31, w32, w33, w34, w35, w36, w37, w38, w39, w40, w41, w42, w43, w44, w45, w46, w47, w48, w49, w50, w51, w52, w53, w54, w55, w56, w57, w58, w59, w60, w61, w62, w63]))]) [0] rfl
    have hD9 := hD.sub (ws' := [(h0, .inr (16, [.int 1, w2, w3, w4, .int 0, w5, w6, w7, w8, w9, w10, w11, w12, w13, w14, w15, w16, w17, w18, w19, w20, w21, w22, w23, w24, w25, w26, w27, w28, w29, w30, w31, w32, w33, w34, w35, w36, w37, w38, w39, w40, w41, w42, w43, w44, w45, w46, w47, w48, w49, w50, w51, w52, w53, w54, w55, w56, w57, w58, w59, w60, w61, w62, w63]))]) [0] (by decide) rfl
    refine W.widen (k := 0) (n := 0) (Nat.le_of_ble_eq_true rfl) (Nat.le_of_ble_eq_true rfl) ?_
    exact W.iret (v := 0) hx hb hr (fun t ht hW => ⟨⟨0, (), rfl, rfl, by rw [ht]; exact hP9, hD9⟩, hS.F ht⟩) hS.2.2 dX12_out_38
  · refine lv_iload_n hx hb dX12_out_5 rfl (lv_at hl 1 rfl) ?_
    refine lv_aload_n hx hb dX12_out_6 rfl (lv_at hl 0 rfl) ?_
    refine va_get (D := D) (ci := 16) (v := .int 0) (C := RX12) (T := TX12) (N := 64) hx hb hts (by decide +kernel) hown hK hP 0 rfl rfl 4 (by decide) (hts (.fieldLink RX12 602 "SignetRingModel" "outSize" "I") (by decide +kernel)) (fun _ h9 => h9) rfl dX12_out_7 ?_
    refine lv_icmp_lt (tgt := 17) hx hb dX12_out_10 (by decide) (fun c9 => absurd c9 c1) (fun _ => ?_)
    refine lv_iconst (v := 1) hx hb dX12_out_13 (by decide) ?_
    refine lv_goto (tgt := 18) hx hb dX12_out_14 (by decide) ?_
    refine va_put (D := D) (ci := 16) (v := .int 1) (ty := .int) (C := RX12) (T := TX12) (N := 64) hx hb hts (by decide +kernel) tyX12 tyX12_ok nmX12 hown hK hP hD hS 0 rfl rfl 0 (by decide) (hts (.fieldLink RX12 78 "SignetRingModel" "thrown" "I") (by decide +kernel)) (fun _ h9 => h9) rfl (by decide +kernel) rfl rfl (Nat.le_of_ble_eq_true rfl) dX12_out_18 (fun H locs hP hD hS => ?_)
    have hP : va_P D vwCl [(h0, .inr (16, [.int 1, w2, w3, w4, .int 0, w5, w6, w7, w8, w9, w10, w11, w12, w13, w14, w15, w16, w17, w18, w19, w20, w21, w22, w23, w24, w25, w26, w27, w28, w29, w30, w31, w32, w33, w34, w35, w36, w37, w38, w39, w40, w41, w42, w43, w44, w45, w46, w47, w48, w49, w50, w51, w52, w53, w54, w55, w56, w57, w58, w59, w60, w61, w62, w63]))] H := hP
    have hD : va_D A [(h0, .inr (16, [.int 1, w2, w3, w4, .int 0, w5, w6, w7, w8, w9, w10, w11, w12, w13, w14, w15, w16, w17, w18, w19, w20, w21, w22, w23, w24, w25, w26, w27, w28, w29, w30, w31, w32, w33, w34, w35, w36, w37, w38, w39, w40, w41, w42, w43, w44, w45, w46, w47, w48, w49, w50, w51, w52, w53, w54, w55, w56, w57, w58, w59, w60, w61, w62, w63]))] := hD
    refine lv_aload_n hx hb dX12_out_21 rfl (lv_at hl 0 rfl) ?_
    refine va_get (D := D) (ci := 16) (v := .int 1) (C := RX12) (T := TX12) (N := 64) hx hb hts (by decide +kernel) hown hK hP 0 rfl rfl 0 (by decide) (hts (.fieldLink RX12 78 "SignetRingModel" "thrown" "I") (by decide +kernel)) (fun _ h9 => h9) rfl dX12_out_22 ?_
    refine lv_if_le (tgt := 32) hx hb dX12_out_25 (by decide) (fun c9 => absurd c9 (by decide)) (fun _ => ?_)
    refine lv_iconst (v := 0) hx hb dX12_out_28 (by decide) ?_
    refine lv_goto (tgt := 38) hx hb dX12_out_29 (by decide) ?_
    have hP9 := hP.sub (ws' := [(h0, .inr (16, [.int 1, w2, w3, w4, .int 0, w5, w6, w7, w8, w9, w10, w11, w12, w13, w14, w15, w16, w17, w18, w19, w20, w21, w22, w23, w24, w25, w26, w27, w28, w29, w30, w31, w32, w33, w34, w35, w36, w37, w38, w39, w40, w41, w42, w43, w44, w45, w46, w47, w48, w49, w50, w51, w52, w53, w54, w55, w56, w57, w58, w59, w60, w61, w62, w63]))]) [0] rfl
    have hD9 := hD.sub (ws' := [(h0, .inr (16, [.int 1, w2, w3, w4, .int 0, w5, w6, w7, w8, w9, w10, w11, w12, w13, w14, w15, w16, w17, w18, w19, w20, w21, w22, w23, w24, w25, w26, w27, w28, w29, w30, w31, w32, w33, w34, w35, w36, w37, w38, w39, w40, w41, w42, w43, w44, w45, w46, w47, w48, w49, w50, w51, w52, w53, w54, w55, w56, w57, w58, w59, w60, w61, w62, w63]))]) [0] (by decide) rfl
    refine W.widen (k := 0) (n := 0) (Nat.le_of_ble_eq_true rfl) (Nat.le_of_ble_eq_true rfl) ?_
    exact W.iret (v := 0) hx hb hr (fun t ht hW => ⟨⟨0, (), rfl, rfl, by rw [ht]; exact hP9, hD9⟩, hS.F ht⟩) hS.2.2 dX12_out_38

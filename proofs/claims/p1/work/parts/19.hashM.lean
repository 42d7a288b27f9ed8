def wz_c_M_left : List Cond := .code yX12_left cX12_left 2 (some .int) :: ([] ++ ([]))
set_option maxHeartbeats 4000000 in
set_option maxRecDepth 100000 in
theorem c_M_left (l : Launch) (D : va_G) (y : Nat → ClassId) (sz : Nat) (v : Int32) (n : Int32) : Met l yX12_left wz_c_M_left ({ frames := 0, cells := 0, slots := 0, locals := 0 }) (va_Pc [.int v, .int n] (zB D y [] sz [] [] [] [])) (va_Qi (fun (r : Int32) (_ : Unit) => r = (v <<< (n &&& 31)) ||| (zu v ((32 : Int32) - n))) (fun _ t => va_P D vwCl [] t.heap ∧ va_D (va_A [] sz) []) (va_A [] sz)) 0 0 (va_A [] sz) := by
  refine Met.ofW (cc := cX12_left) (maxL := 2) (ret := (some .int)) (by decide) rfl ?_
  intro p e s m args below meth c s₁ B hml hv
  obtain ⟨rfl, hsz, hP, hK, hD0, hN, hE, hO, hT, hG⟩ := hv
  have hx := B.exec
  have hb := B.bytes
  have hr := B.returns
  have hts := atoms_spec (ws := wz_c_M_left) B.pre
  have hown : s.vm.findClass RX12 = some m.cls := findClass_of_methodNamed B.named
  have hlocks := B.notSynchronized
  subst hsz
  have hD := hD0.self (sz := s.heap.size)
  generalize hAe : va_A [] s.heap.size = A at hD hE hT hG ⊢
  have hA : ∀ q : Nat, s.heap.size ≤ q → A q := fun q h => by rw [← hAe]; exact Or.inr h
  have hS : va_S A s.heap s.heap [] := va_S.rf
  have hl := lv_entry ([.int v, .int n]) (n := 2) (Nat.le_of_ble_eq_true rfl)
  rw [lg_entry_eq]
  generalize (lg_sl ([.int v, .int n]) ++ List.replicate (2 - (lg_sl ([.int v, .int n])).length) Slot.unset).toArray = ls at hl ⊢
  have hl : lv_has ls 2 [(0, .int v), (1, .int n)] := hl
  refine lv_iload_n hx hb dX12_left_0 rfl (lv_at hl 0 rfl) ?_
  refine lv_iload_n hx hb dX12_left_1 rfl (lv_at hl 1 rfl) ?_
  refine lv_ishl hx hb dX12_left_2 ?_
  refine lv_iload_n hx hb dX12_left_3 rfl (lv_at hl 0 rfl) ?_
  refine lv_bipush (v := 32) hx hb dX12_left_4 (by decide) ?_
  refine lv_iload_n hx hb dX12_left_6 rfl (lv_at hl 1 rfl) ?_
  refine lv_isub hx hb dX12_left_7 ?_
  refine lv_iushr (v := zu v ((32 : Int32) - n)) hx hb dX12_left_8 rfl ?_
  refine lv_ior hx hb dX12_left_9 ?_
  have hP9 := hP.sub (ws' := []) [] rfl
  have hD9 := hD.sub (ws' := []) [] (by decide) rfl
  refine W.widen (k := 0) (n := 0) (Nat.le_of_ble_eq_true rfl) (Nat.le_of_ble_eq_true rfl) ?_
  exact W.iret (v := ((v <<< (n &&& 31)) ||| (zu v ((32 : Int32) - n)))) hx hb hr (fun t ht hW => ⟨⟨((v <<< (n &&& 31)) ||| (zu v ((32 : Int32) - n))), (), rfl, rfl, by rw [ht]; exact hP9, hD9⟩, hS.F ht⟩) hS.2.2 dX12_left_10
def wz_c_M_say : List Cond := .code yX12_say cX12_say 2 none :: ([.fieldLink RX12 40 "SignetRingModel" "message" "[I", .fieldLink RX12 93 "SignetRingModel" "messageSize" "I"] ++ (wsX120 ++ ([])))
set_option maxHeartbeats 4000000 in
set_option maxRecDepth 100000 in
theorem c_M_say (l : Launch) (D : va_G) (y : Nat → ClassId) (sz : Nat) (h0 : Nat) (ms : Nat) (j : Nat) (w1 : Value) (w2 : Value) (w3 : Value) (w4 : Value) (w5 : Value) (w6 : Value) (w7 : Value) (w8 : Value) (w9 : Value) (w10 : Value) (w11 : Value) (w12 : Value) (w13 : Value) (w14 : Value) (w15 : Value) (w16 : Value) (w17 : Value) (w18 : Value) (w19 : Value) (w20 : Value) (w21 : Value) (w22 : Value) (w23 : Value) (w24 : Value) (w25 : Value) (w26 : Value) (w27 : Value) (w28 : Value) (w29 : Value) (w30 : Value) (w31 : Value) (w32 : Value) (w33 : Value) (w34 : Value) (w35 : Value) (w36 : Value) (w37 : Value) (w38 : Value) (w39 : Value) (w40 : Value) (w41 : Value) (w42 : Value) (w43 : Value) (w44 : Value) (w45 : Value) (w46 : Value) (w47 : Value) (w48 : Value) (w49 : Value) (w50 : Value) (w51 : Value) (w52 : Value) (w53 : Value) (w54 : Value) (w55 : Value) (w56 : Value) (w57 : Value) (w58 : Value) (w59 : Value) (w60 : Value) (w61 : Value) (w62 : Value) (f : Nat → Int32) (b : Int32) (hj : j < 64) (hbb : b &&& 255 = tM j) : Met l yX12_say wz_c_M_say ({ frames := 0, cells := 0, slots := 0, locals := 0 }) (va_Pc [.ref h0, .int b] (zB D y [(h0, .inr (16, [w1, w2, w3, w4, w5, w6, w7, w8, w9, w10, w11, w12, w13, w14, .int (nI j), .ref ms, w15, w16, w17, w18, w19, w20, w21, w22, w23, w24, w25, w26, w27, w28, w29, w30, w31, w32, w33, w34, w35, w36, w37, w38, w39, w40, w41, w42, w43, w44, w45, w46, w47, w48, w49, w50, w51, w52, w53, w54, w55, w56, w57, w58, w59, w60, w61, w62])), (ms, .inl (y 1, 30000, .inl (zf tM j f)))] sz [] [] [] [])) (va_Qv (fun _ : Unit => True) (fun _ t => va_P D vwCl [(h0, .inr (16, [w1, w2, w3, w4, w5, w6, w7, w8, w9, w10, w11, w12, w13, w14, .int (nI (j + 1)), .ref ms, w15, w16, w17, w18, w19, w20, w21, w22, w23, w24, w25, w26, w27, w28, w29, w30, w31, w32, w33, w34, w35, w36, w37, w38, w39, w40, w41, w42, w43, w44, w45, w46, w47, w48, w49, w50, w51, w52, w53, w54, w55, w56, w57, w58, w59, w60, w61, w62])), (ms, .inl (y 1, 30000, .inl (zf tM (j + 1) f)))] t.heap ∧ va_D (va_A [(h0, .inr (16, [w1, w2, w3, w4, w5, w6, w7, w8, w9, w10, w11, w12, w13, w14, .int (nI j), .ref ms, w15, w16, w17, w18, w19, w20, w21, w22, w23, w24, w25, w26, w27, w28, w29, w30, w31, w32, w33, w34, w35, w36, w37, w38, w39, w40, w41, w42, w43, w44, w45, w46, w47, w48, w49, w50, w51, w52, w53, w54, w55, w56, w57, w58, w59, w60, w61, w62])), (ms, .inl (y 1, 30000, .inl (zf tM j f)))] sz) [(h0, .inr (16, [w1, w2, w3, w4, w5, w6, w7, w8, w9, w10, w11, w12, w13, w14, .int (nI (j + 1)), .ref ms, w15, w16, w17, w18, w19, w20, w21, w22, w23, w24, w25, w26, w27, w28, w29, w30, w31, w32, w33, w34, w35, w36, w37, w38, w39, w40, w41, w42, w43, w44, w45, w46, w47, w48, w49, w50, w51, w52, w53, w54, w55, w56, w57, w58, w59, w60, w61, w62])), (ms, .inl (y 1, 30000, .inl (zf tM (j + 1) f)))]) (va_A [(h0, .inr (16, [w1, w2, w3, w4, w5, w6, w7, w8, w9, w10, w11, w12, w13, w14, .int (nI j), .ref ms, w15, w16, w17, w18, w19, w20, w21, w22, w23, w24, w25, w26, w27, w28, w29, w30, w31, w32, w33, w34, w35, w36, w37, w38, w39, w40, w41, w42, w43, w44, w45, w46, w47, w48, w49, w50, w51, w52, w53, w54, w55, w56, w57, w58, w59, w60, w61, w62])), (ms, .inl (y 1, 30000, .inl (zf tM j f)))] sz)) 0 0 (va_A [(h0, .inr (16, [w1, w2, w3, w4, w5, w6, w7, w8, w9, w10, w11, w12, w13, w14, .int (nI j), .ref ms, w15, w16, w17, w18, w19, w20, w21, w22, w23, w24, w25, w26, w27, w28, w29, w30, w31, w32, w33, w34, w35, w36, w37, w38, w39, w40, w41, w42, w43, w44, w45, w46, w47, w48, w49, w50, w51, w52, w53, w54, w55, w56, w57, w58, w59, w60, w61, w62])), (ms, .inl (y 1, 30000, .inl (zf tM j f)))] sz) := by
  refine Met.ofW (cc := cX12_say) (maxL := 2) (ret := none) (by decide) rfl ?_
  intro p e s m args below meth c s₁ B hml hv
  obtain ⟨rfl, hsz, hP, hK, hD0, hN, hE, hO, hT, hG⟩ := hv
  have hx := B.exec
  have hb := B.bytes
  have hr := B.returns
  have hts := atoms_spec (ws := wz_c_M_say) B.pre
  have hown : s.vm.findClass RX12 = some m.cls := findClass_of_methodNamed B.named
  have hlocks := B.notSynchronized
  subst hsz
  have hD := hD0.self (sz := s.heap.size)
  generalize hAe : va_A [(h0, .inr (16, [w1, w2, w3, w4, w5, w6, w7, w8, w9, w10, w11, w12, w13, w14, .int (nI j), .ref ms, w15, w16, w17, w18, w19, w20, w21, w22, w23, w24, w25, w26, w27, w28, w29, w30, w31, w32, w33, w34, w35, w36, w37, w38, w39, w40, w41, w42, w43, w44, w45, w46, w47, w48, w49, w50, w51, w52, w53, w54, w55, w56, w57, w58, w59, w60, w61, w62])), (ms, .inl (y 1, 30000, .inl (zf tM j f)))] s.heap.size = A at hD hE hT hG ⊢
  have hA : ∀ q : Nat, s.heap.size ≤ q → A q := fun q h => by rw [← hAe]; exact Or.inr h
  have hS : va_S A s.heap s.heap [] := va_S.rf
  have hl := lv_entry ([.ref h0, .int b]) (n := 2) (Nat.le_of_ble_eq_true rfl)
  rw [lg_entry_eq]
  generalize (lg_sl ([.ref h0, .int b]) ++ List.replicate (2 - (lg_sl ([.ref h0, .int b])).length) Slot.unset).toArray = ls at hl ⊢
  have hl : lv_has ls 2 [(0, .ref h0), (1, .int b)] := hl
  refine lv_aload_n hx hb dX12_say_0 rfl (lv_at hl 0 rfl) ?_
  refine va_get (D := D) (ci := 16) (v := .ref ms) (C := RX12) (T := TX12) (N := 64) hx hb hts (by decide +kernel) hown hK hP 0 rfl rfl 15 (by decide) (hts (.fieldLink RX12 40 "SignetRingModel" "message" "[I") (by decide +kernel)) (fun _ h9 => h9) rfl dX12_say_1 ?_
  refine lv_aload_n hx hb dX12_say_4 rfl (lv_at hl 0 rfl) ?_
  refine va_get (D := D) (ci := 16) (v := .int (nI j)) (C := RX12) (T := TX12) (N := 64) hx hb hts (by decide +kernel) hown hK hP 0 rfl rfl 14 (by decide) (hts (.fieldLink RX12 93 "SignetRingModel" "messageSize" "I") (by decide +kernel)) (fun _ h9 => h9) rfl dX12_say_5 ?_
  refine lv_iload_n hx hb dX12_say_8 rfl (lv_at hl 1 rfl) ?_
  refine lv_sipush (v := 255) hx hb dX12_say_9 (by decide) ?_
  refine lv_iand hx hb dX12_say_12 ?_
  refine lv_topi (fun v1 ev1 => ?_)
  have ev1 : v1 = tM j := ev1.trans hbb
  subst ev1
  refine va_iast hx hb hK hP hD hS 1 1 rfl rfl (vp_in_nI (by omega) (by decide)) dX12_say_13 (fun H locs hP hD hS => ?_)
  have hP : va_P D vwCl [(h0, .inr (16, [w1, w2, w3, w4, w5, w6, w7, w8, w9, w10, w11, w12, w13, w14, .int (nI j), .ref ms, w15, w16, w17, w18, w19, w20, w21, w22, w23, w24, w25, w26, w27, w28, w29, w30, w31, w32, w33, w34, w35, w36, w37, w38, w39, w40, w41, w42, w43, w44, w45, w46, w47, w48, w49, w50, w51, w52, w53, w54, w55, w56, w57, w58, w59, w60, w61, w62])), (ms, .inl (y 1, 30000, .inl (upd (zf tM j f) (nI j).toNatClampNeg (tM j))))] H := hP
  have hD : va_D A [(h0, .inr (16, [w1, w2, w3, w4, w5, w6, w7, w8, w9, w10, w11, w12, w13, w14, .int (nI j), .ref ms, w15, w16, w17, w18, w19, w20, w21, w22, w23, w24, w25, w26, w27, w28, w29, w30, w31, w32, w33, w34, w35, w36, w37, w38, w39, w40, w41, w42, w43, w44, w45, w46, w47, w48, w49, w50, w51, w52, w53, w54, w55, w56, w57, w58, w59, w60, w61, w62])), (ms, .inl (y 1, 30000, .inl (upd (zf tM j f) (nI j).toNatClampNeg (tM j))))] := hD
  have u2 : upd (zf tM j f) (nI j).toNatClampNeg (tM j) = zf tM (j + 1) f := (zf_st (n := j) (by omega) rfl)
  rw [u2] at hP hD
  have hP : va_P D vwCl [(h0, .inr (16, [w1, w2, w3, w4, w5, w6, w7, w8, w9, w10, w11, w12, w13, w14, .int (nI j), .ref ms, w15, w16, w17, w18, w19, w20, w21, w22, w23, w24, w25, w26, w27, w28, w29, w30, w31, w32, w33, w34, w35, w36, w37, w38, w39, w40, w41, w42, w43, w44, w45, w46, w47, w48, w49, w50, w51, w52, w53, w54, w55, w56, w57, w58, w59, w60, w61, w62])), (ms, .inl (y 1, 30000, .inl (zf tM (j + 1) f)))] H := hP
  have hD : va_D A [(h0, .inr (16, [w1, w2, w3, w4, w5, w6, w7, w8, w9, w10, w11, w12, w13, w14, .int (nI j), .ref ms, w15, w16, w17, w18, w19, w20, w21, w22, w23, w24, w25, w26, w27, w28, w29, w30, w31, w32, w33, w34, w35, w36, w37, w38, w39, w40, w41, w42, w43, w44, w45, w46, w47, w48, w49, w50, w51, w52, w53, w54, w55, w56, w57, w58, w59, w60, w61, w62])), (ms, .inl (y 1, 30000, .inl (zf tM (j + 1) f)))] := hD
  refine lv_aload_n hx hb dX12_say_14 rfl (lv_at hl 0 rfl) ?_
  refine lv_dup hx hb dX12_say_15 rfl ?_
  refine va_get (D := D) (ci := 16) (v := .int (nI j)) (C := RX12) (T := TX12) (N := 64) hx hb hts (by decide +kernel) hown hK hP 0 rfl rfl 14 (by decide) (hts (.fieldLink RX12 93 "SignetRingModel" "messageSize" "I") (by decide +kernel)) (fun _ h9 => h9) rfl dX12_say_16 ?_
  refine lv_iconst (v := 1) hx hb dX12_say_19 (by decide) ?_
  refine lv_iadd hx hb dX12_say_20 ?_
  refine lv_topi (fun v3 ev3 => ?_)
  have ev3 : v3 = nI (j + 1) := ev3.trans (nI_1 j)
  subst ev3
  refine va_put (D := D) (ci := 16) (v := .int (nI (j + 1))) (ty := .int) (C := RX12) (T := TX12) (N := 64) hx hb hts (by decide +kernel) tyX12 tyX12_ok nmX12 hown hK hP hD hS 0 rfl rfl 14 (by decide) (hts (.fieldLink RX12 93 "SignetRingModel" "messageSize" "I") (by decide +kernel)) (fun _ h9 => h9) rfl (by decide +kernel) rfl rfl (Nat.le_of_ble_eq_true rfl) dX12_say_21 (fun H locs hP hD hS => ?_)
  have hP : va_P D vwCl [(h0, .inr (16, [w1, w2, w3, w4, w5, w6, w7, w8, w9, w10, w11, w12, w13, w14, .int (nI (j + 1)), .ref ms, w15, w16, w17, w18, w19, w20, w21, w22, w23, w24, w25, w26, w27, w28, w29, w30, w31, w32, w33, w34, w35, w36, w37, w38, w39, w40, w41, w42, w43, w44, w45, w46, w47, w48, w49, w50, w51, w52, w53, w54, w55, w56, w57, w58, w59, w60, w61, w62])), (ms, .inl (y 1, 30000, .inl (zf tM (j + 1) f)))] H := hP
  have hD : va_D A [(h0, .inr (16, [w1, w2, w3, w4, w5, w6, w7, w8, w9, w10, w11, w12, w13, w14, .int (nI (j + 1)), .ref ms, w15, w16, w17, w18, w19, w20, w21, w22, w23, w24, w25, w26, w27, w28, w29, w30, w31, w32, w33, w34, w35, w36, w37, w38, w39, w40, w41, w42, w43, w44, w45, w46, w47, w48, w49, w50, w51, w52, w53, w54, w55, w56, w57, w58, w59, w60, w61, w62])), (ms, .inl (y 1, 30000, .inl (zf tM (j + 1) f)))] := hD
  have hP9 := hP.sub (ws' := [(h0, .inr (16, [w1, w2, w3, w4, w5, w6, w7, w8, w9, w10, w11, w12, w13, w14, .int (nI (j + 1)), .ref ms, w15, w16, w17, w18, w19, w20, w21, w22, w23, w24, w25, w26, w27, w28, w29, w30, w31, w32, w33, w34, w35, w36, w37, w38, w39, w40, w41, w42, w43, w44, w45, w46, w47, w48, w49, w50, w51, w52, w53, w54, w55, w56, w57, w58, w59, w60, w61, w62])), (ms, .inl (y 1, 30000, .inl (zf tM (j + 1) f)))]) [0, 1] rfl
  have hD9 := hD.sub (ws' := [(h0, .inr (16, [w1, w2, w3, w4, w5, w6, w7, w8, w9, w10, w11, w12, w13, w14, .int (nI (j + 1)), .ref ms, w15, w16, w17, w18, w19, w20, w21, w22, w23, w24, w25, w26, w27, w28, w29, w30, w31, w32, w33, w34, w35, w36, w37, w38, w39, w40, w41, w42, w43, w44, w45, w46, w47, w48, w49, w50, w51, w52, w53, w54, w55, w56, w57, w58, w59, w60, w61, w62])), (ms, .inl (y 1, 30000, .inl (zf tM (j + 1) f)))]) [0, 1] (by decide) rfl
  refine W.widen (k := 0) (n := 0) (Nat.le_of_ble_eq_true rfl) (Nat.le_of_ble_eq_true rfl) ?_
  exact W.vret hx hb hr (fun t ht hW => ⟨⟨(), rfl, trivial, by rw [ht]; exact hP9, hD9⟩, hS.F ht⟩) hS.2.2 dX12_say_24
def wz_c_M_sayNumber : List Cond := .code yX12_sayNumber cX12_sayNumber 5 none :: ([.constantLong RX12 87 255, .methodLink RX12 96 yX12_say, .instanceMethod yX12_say, .selects RX12 yX12_say yX12_say, .initialized RX12] ++ (wz_c_M_say ++ ([])))
set_option maxRecDepth 100000 in
theorem gz_c_M_sayNumber_c_M_say : GoodIn wz_c_M_sayNumber wz_c_M_say := goodIn_sub (fun w h => List.mem_cons_of_mem _ (List.mem_append_right _ (List.mem_append_left _ h))) (by decide +kernel)
set_option maxRecDepth 100000 in
theorem gv_c_M_sayNumber_c_M_say_96 : GoodIn wz_c_M_sayNumber (wsV RX12 96 RX12 yX12_say wz_c_M_say) := goodIn_app (goodIn_of _ (by decide +kernel)) gz_c_M_sayNumber_c_M_say
set_option maxHeartbeats 4000000 in
set_option maxRecDepth 100000 in
theorem c_M_sayNumber (l : Launch) (D : va_G) (y : Nat → ClassId) (sz : Nat) (h0 : Nat) (ms : Nat) (w1 : Value) (w2 : Value) (w3 : Value) (w4 : Value) (w5 : Value) (w6 : Value) (w7 : Value) (w8 : Value) (w9 : Value) (w10 : Value) (w11 : Value) (w12 : Value) (w13 : Value) (w14 : Value) (w15 : Value) (w16 : Value) (w17 : Value) (w18 : Value) (w19 : Value) (w20 : Value) (w21 : Value) (w22 : Value) (w23 : Value) (w24 : Value) (w25 : Value) (w26 : Value) (w27 : Value) (w28 : Value) (w29 : Value) (w30 : Value) (w31 : Value) (w32 : Value) (w33 : Value) (w34 : Value) (w35 : Value) (w36 : Value) (w37 : Value) (w38 : Value) (w39 : Value) (w40 : Value) (w41 : Value) (w42 : Value) (w43 : Value) (w44 : Value) (w45 : Value) (w46 : Value) (w47 : Value) (w48 : Value) (w49 : Value) (w50 : Value) (w51 : Value) (w52 : Value) (w53 : Value) (w54 : Value) (w55 : Value) (w56 : Value) (w57 : Value) (w58 : Value) (w59 : Value) (w60 : Value) (w61 : Value) (w62 : Value) (f : Nat → Int32) : Met l yX12_sayNumber wz_c_M_sayNumber ({ frames := 1, cells := 0, slots := 0, locals := 21 }) (va_Pc [.ref h0, .long 0, .int 8] (zB D y [(h0, .inr (16, [w1, w2, w3, w4, w5, w6, w7, w8, w9, w10, w11, w12, w13, w14, .int (nI 56), .ref ms, w15, w16, w17, w18, w19, w20, w21, w22, w23, w24, w25, w26, w27, w28, w29, w30, w31, w32, w33, w34, w35, w36, w37, w38, w39, w40, w41, w42, w43, w44, w45, w46, w47, w48, w49, w50, w51, w52, w53, w54, w55, w56, w57, w58, w59, w60, w61, w62])), (ms, .inl (y 1, 30000, .inl (zf tM 56 f)))] sz [] [] [] [])) (va_Qv (fun _ : Unit => True) (fun _ t => va_P D vwCl [(h0, .inr (16, [w1, w2, w3, w4, w5, w6, w7, w8, w9, w10, w11, w12, w13, w14, .int (nI 64), .ref ms, w15, w16, w17, w18, w19, w20, w21, w22, w23, w24, w25, w26, w27, w28, w29, w30, w31, w32, w33, w34, w35, w36, w37, w38, w39, w40, w41, w42, w43, w44, w45, w46, w47, w48, w49, w50, w51, w52, w53, w54, w55, w56, w57, w58, w59, w60, w61, w62])), (ms, .inl (y 1, 30000, .inl (zf tM 64 f)))] t.heap ∧ va_D (va_A [(h0, .inr (16, [w1, w2, w3, w4, w5, w6, w7, w8, w9, w10, w11, w12, w13, w14, .int (nI 56), .ref ms, w15, w16, w17, w18, w19, w20, w21, w22, w23, w24, w25, w26, w27, w28, w29, w30, w31, w32, w33, w34, w35, w36, w37, w38, w39, w40, w41, w42, w43, w44, w45, w46, w47, w48, w49, w50, w51, w52, w53, w54, w55, w56, w57, w58, w59, w60, w61, w62])), (ms, .inl (y 1, 30000, .inl (zf tM 56 f)))] sz) [(h0, .inr (16, [w1, w2, w3, w4, w5, w6, w7, w8, w9, w10, w11, w12, w13, w14, .int (nI 64), .ref ms, w15, w16, w17, w18, w19, w20, w21, w22, w23, w24, w25, w26, w27, w28, w29, w30, w31, w32, w33, w34, w35, w36, w37, w38, w39, w40, w41, w42, w43, w44, w45, w46, w47, w48, w49, w50, w51, w52, w53, w54, w55, w56, w57, w58, w59, w60, w61, w62])), (ms, .inl (y 1, 30000, .inl (zf tM 64 f)))]) (va_A [(h0, .inr (16, [w1, w2, w3, w4, w5, w6, w7, w8, w9, w10, w11, w12, w13, w14, .int (nI 56), .ref ms, w15, w16, w17, w18, w19, w20, w21, w22, w23, w24, w25, w26, w27, w28, w29, w30, w31, w32, w33, w34, w35, w36, w37, w38, w39, w40, w41, w42, w43, w44, w45, w46, w47, w48, w49, w50, w51, w52, w53, w54, w55, w56, w57, w58, w59, w60, w61, w62])), (ms, .inl (y 1, 30000, .inl (zf tM 56 f)))] sz)) 0 0 (va_A [(h0, .inr (16, [w1, w2, w3, w4, w5, w6, w7, w8, w9, w10, w11, w12, w13, w14, .int (nI 56), .ref ms, w15, w16, w17, w18, w19, w20, w21, w22, w23, w24, w25, w26, w27, w28, w29, w30, w31, w32, w33, w34, w35, w36, w37, w38, w39, w40, w41, w42, w43, w44, w45, w46, w47, w48, w49, w50, w51, w52, w53, w54, w55, w56, w57, w58, w59, w60, w61, w62])), (ms, .inl (y 1, 30000, .inl (zf tM 56 f)))] sz) := by
  refine Met.ofW (cc := cX12_sayNumber) (maxL := 5) (ret := none) (by decide) rfl ?_
  intro p e s m args below meth c s₁ B hml hv
  obtain ⟨rfl, hsz, hP, hK, hD0, hN, hE, hO, hT, hG⟩ := hv
  have hx := B.exec
  have hb := B.bytes
  have hr := B.returns
  have hts := atoms_spec (ws := wz_c_M_sayNumber) B.pre
  have hown : s.vm.findClass RX12 = some m.cls := findClass_of_methodNamed B.named
  have hlocks := B.notSynchronized
  subst hsz
  have hD := hD0.self (sz := s.heap.size)
  generalize hAe : va_A [(h0, .inr (16, [w1, w2, w3, w4, w5, w6, w7, w8, w9, w10, w11, w12, w13, w14, .int (nI 56), .ref ms, w15, w16, w17, w18, w19, w20, w21, w22, w23, w24, w25, w26, w27, w28, w29, w30, w31, w32, w33, w34, w35, w36, w37, w38, w39, w40, w41, w42, w43, w44, w45, w46, w47, w48, w49, w50, w51, w52, w53, w54, w55, w56, w57, w58, w59, w60, w61, w62])), (ms, .inl (y 1, 30000, .inl (zf tM 56 f)))] s.heap.size = A at hD hE hT hG ⊢
  have hA : ∀ q : Nat, s.heap.size ≤ q → A q := fun q h => by rw [← hAe]; exact Or.inr h
  have hS : va_S A s.heap s.heap [] := va_S.rf
  have hl := lv_entry ([.ref h0, .long 0, .int 8]) (n := 5) (Nat.le_of_ble_eq_true rfl)
  rw [lg_entry_eq]
  generalize (lg_sl ([.ref h0, .long 0, .int 8]) ++ List.replicate (5 - (lg_sl ([.ref h0, .long 0, .int 8])).length) Slot.unset).toArray = ls at hl ⊢
  have hl : lv_has ls 5 [(0, .ref h0), (1, .long 0), (3, .int 8)] := hl
  refine lv_iload_n hx hb dX12_sayNumber_0 rfl (lv_at hl 2 rfl) ?_
  refine lv_iconst (v := 1) hx hb dX12_sayNumber_1 (by decide) ?_
  refine lv_isub hx hb dX12_sayNumber_2 ?_
  refine lv_topi (fun v1 ev1 => ?_)
  have ev1 : v1 = 7 := ev1.trans (by decide +kernel)
  subst ev1
  refine lv_istore (lv' := [(4, .int 7), (0, .ref h0), (1, .long 0), (3, .int 8)]) hx hb dX12_sayNumber_3 hl (by decide) rfl (fun ls hl => ?_)
  refine lv_iload hx hb dX12_sayNumber_5 (lv_at hl 0 rfl) ?_
  refine lv_if_lt (tgt := 32) hx hb dX12_sayNumber_7 (by decide) (fun c9 => absurd c9 (by decide)) (fun _ => ?_)
  refine lv_aload_n hx hb dX12_sayNumber_10 rfl (lv_at hl 1 rfl) ?_
  refine lv_lload_n hx hb dX12_sayNumber_11 rfl (lv_at hl 2 rfl) ?_
  refine lv_bipush (v := 8) hx hb dX12_sayNumber_12 (by decide) ?_
  refine lv_iload hx hb dX12_sayNumber_14 (lv_at hl 0 rfl) ?_
  refine lv_imul hx hb dX12_sayNumber_16 ?_
  refine lv_topi (fun v2 ev2 => ?_)
  have ev2 : v2 = 56 := ev2.trans (by decide +kernel)
  subst ev2
  refine lv_lshr hx hb dX12_sayNumber_17 rfl ?_
  refine lv_topl (fun v3 ev3 => ?_)
  have ev3 : v3 = 0 := ev3.trans (by decide +kernel)
  subst ev3
  refine lv_ldc2 (v := 255) hx hb hown (hts (.constantLong RX12 87 255) (by decide +kernel)) dX12_sayNumber_18 ?_
  refine lv_land hx hb dX12_sayNumber_21 ?_
  refine lv_topl (fun v4 ev4 => ?_)
  have ev4 : v4 = 0 := ev4.trans (by decide +kernel)
  subst ev4
  refine lv_l2i (v := 0) hx hb dX12_sayNumber_22 (by decide +kernel) ?_
  have hPc := hP.sub (ws' := [(h0, .inr (16, [w1, w2, w3, w4, w5, w6, w7, w8, w9, w10, w11, w12, w13, w14, .int (nI 56), .ref ms, w15, w16, w17, w18, w19, w20, w21, w22, w23, w24, w25, w26, w27, w28, w29, w30, w31, w32, w33, w34, w35, w36, w37, w38, w39, w40, w41, w42, w43, w44, w45, w46, w47, w48, w49, w50, w51, w52, w53, w54, w55, w56, w57, w58, w59, w60, w61, w62])), (ms, .inl (y 1, 30000, .inl (zf tM 56 f)))]) [0, 1] rfl
  have hDc := hD.sub (ws' := [(h0, .inr (16, [w1, w2, w3, w4, w5, w6, w7, w8, w9, w10, w11, w12, w13, w14, .int (nI 56), .ref ms, w15, w16, w17, w18, w19, w20, w21, w22, w23, w24, w25, w26, w27, w28, w29, w30, w31, w32, w33, w34, w35, w36, w37, w38, w39, w40, w41, w42, w43, w44, w45, w46, w47, w48, w49, w50, w51, w52, w53, w54, w55, w56, w57, w58, w59, w60, w61, w62])), (ms, .inl (y 1, 30000, .inl (zf tM 56 f)))]) [0, 1] (by decide) rfl
  have hFc := va_free (wc := [(h0, .inr (16, [w1, w2, w3, w4, w5, w6, w7, w8, w9, w10, w11, w12, w13, w14, .int (nI 56), .ref ms, w15, w16, w17, w18, w19, w20, w21, w22, w23, w24, w25, w26, w27, w28, w29, w30, w31, w32, w33, w34, w35, w36, w37, w38, w39, w40, w41, w42, w43, w44, w45, w46, w47, w48, w49, w50, w51, w52, w53, w54, w55, w56, w57, w58, w59, w60, w61, w62])), (ms, .inl (y 1, 30000, .inl (zf tM 56 f)))]) hD hS hA [0, 1] rfl
  refine va_callv (va_runV (As := [.int 0]) (rest := []) ⟨hx, hb, hml, hown, hts⟩ (c_M_say l D y s.heap.size h0 ms 56 w1 w2 w3 w4 w5 w6 w7 w8 w9 w10 w11 w12 w13 w14 w15 w16 w17 w18 w19 w20 w21 w22 w23 w24 w25 w26 w27 w28 w29 w30 w31 w32 w33 w34 w35 w36 w37 w38 w39 w40 w41 w42 w43 w44 w45 w46 w47 w48 w49 w50 w51 w52 w53 w54 w55 w56 w57 w58 w59 w60 w61 w62 f 0 (by decide) (by decide +kernel)) (cwV 1 hts gv_c_M_sayNumber_c_M_say_96 rfl rfl rfl (by decide +kernel) ⟨(Nat.le_of_ble_eq_true rfl), (Nat.le_of_ble_eq_true rfl)⟩) (zB.preV hPc hDc hK hN hE hO hT hG hS hFc (fun _ h => nomatch h) (fun _ h => nomatch h) (fun _ h => nomatch h) (fun _ h => nomatch h) (va_recv hK hPc (ci := 16) (q0 := 0) rfl rfl)) rfl rfl hl.1 rfl (lv_room (Nat.le_of_ble_eq_true rfl)) dX12_sayNumber_23 ⟨(Nat.le_of_ble_eq_true rfl), (Nat.le_of_ble_eq_true rfl)⟩) hS (fun q _ h => hFc q h) hFc (fun u t H1 locs ht hvm hw hB hz1 hk1 hS => ?_)
  obtain ⟨hP1, hD1⟩ := hB
  rw [ht] at hP1
  obtain ⟨hP, hD⟩ := va_join (wr := []) (w1 := [(h0, .inr (16, [w1, w2, w3, w4, w5, w6, w7, w8, w9, w10, w11, w12, w13, w14, .int (nI 57), .ref ms, w15, w16, w17, w18, w19, w20, w21, w22, w23, w24, w25, w26, w27, w28, w29, w30, w31, w32, w33, w34, w35, w36, w37, w38, w39, w40, w41, w42, w43, w44, w45, w46, w47, w48, w49, w50, w51, w52, w53, w54, w55, w56, w57, w58, w59, w60, w61, w62])), (ms, .inl (y 1, 30000, .inl (zf tM 57 f)))]) hP hD [0, 1] [] rfl rfl (by decide) (by decide) hk1 hFc hP1 hD1
  generalize H1 = H at hP hS ⊢
  have hP : va_P D vwCl [(h0, .inr (16, [w1, w2, w3, w4, w5, w6, w7, w8, w9, w10, w11, w12, w13, w14, .int (nI 57), .ref ms, w15, w16, w17, w18, w19, w20, w21, w22, w23, w24, w25, w26, w27, w28, w29, w30, w31, w32, w33, w34, w35, w36, w37, w38, w39, w40, w41, w42, w43, w44, w45, w46, w47, w48, w49, w50, w51, w52, w53, w54, w55, w56, w57, w58, w59, w60, w61, w62])), (ms, .inl (y 1, 30000, .inl (zf tM 57 f)))] H := hP
  have hD : va_D A [(h0, .inr (16, [w1, w2, w3, w4, w5, w6, w7, w8, w9, w10, w11, w12, w13, w14, .int (nI 57), .ref ms, w15, w16, w17, w18, w19, w20, w21, w22, w23, w24, w25, w26, w27, w28, w29, w30, w31, w32, w33, w34, w35, w36, w37, w38, w39, w40, w41, w42, w43, w44, w45, w46, w47, w48, w49, w50, w51, w52, w53, w54, w55, w56, w57, w58, w59, w60, w61, w62])), (ms, .inl (y 1, 30000, .inl (zf tM 57 f)))] := hD
  refine lv_iinc (v := 6) (lv' := [(4, .int 6), (0, .ref h0), (1, .long 0), (3, .int 8)]) hx hb dX12_sayNumber_26 hl (k := 0) rfl (by decide) (by decide) rfl (fun ls hl => ?_)
  refine lv_goto (tgt := 5) hx hb dX12_sayNumber_29 (by decide) ?_
  refine lv_iload hx hb dX12_sayNumber_5 (lv_at hl 0 rfl) ?_
  refine lv_if_lt (tgt := 32) hx hb dX12_sayNumber_7 (by decide) (fun c9 => absurd c9 (by decide)) (fun _ => ?_)
  refine lv_aload_n hx hb dX12_sayNumber_10 rfl (lv_at hl 1 rfl) ?_
  refine lv_lload_n hx hb dX12_sayNumber_11 rfl (lv_at hl 2 rfl) ?_
  refine lv_bipush (v := 8) hx hb dX12_sayNumber_12 (by decide) ?_
  refine lv_iload hx hb dX12_sayNumber_14 (lv_at hl 0 rfl) ?_
  refine lv_imul hx hb dX12_sayNumber_16 ?_
  refine lv_topi (fun v5 ev5 => ?_)
  have ev5 : v5 = 48 := ev5.trans (by decide +kernel)
  subst ev5
  refine lv_lshr hx hb dX12_sayNumber_17 rfl ?_
  refine lv_topl (fun v6 ev6 => ?_)
  have ev6 : v6 = 0 := ev6.trans (by decide +kernel)
  subst ev6
  refine lv_ldc2 (v := 255) hx hb hown (hts (.constantLong RX12 87 255) (by decide +kernel)) dX12_sayNumber_18 ?_
  refine lv_land hx hb dX12_sayNumber_21 ?_
  refine lv_topl (fun v7 ev7 => ?_)
  have ev7 : v7 = 0 := ev7.trans (by decide +kernel)
  subst ev7
  refine lv_l2i (v := 0) hx hb dX12_sayNumber_22 (by decide +kernel) ?_
  have hPc := hP.sub (ws' := [(h0, .inr (16, [w1, w2, w3, w4, w5, w6, w7, w8, w9, w10, w11, w12, w13, w14, .int (nI 57), .ref ms, w15, w16, w17, w18, w19, w20, w21, w22, w23, w24, w25, w26, w27, w28, w29, w30, w31, w32, w33, w34, w35, w36, w37, w38, w39, w40, w41, w42, w43, w44, w45, w46, w47, w48, w49, w50, w51, w52, w53, w54, w55, w56, w57, w58, w59, w60, w61, w62])), (ms, .inl (y 1, 30000, .inl (zf tM 57 f)))]) [0, 1] rfl
  have hDc := hD.sub (ws' := [(h0, .inr (16, [w1, w2, w3, w4, w5, w6, w7, w8, w9, w10, w11, w12, w13, w14, .int (nI 57), .ref ms, w15, w16, w17, w18, w19, w20, w21, w22, w23, w24, w25, w26, w27, w28, w29, w30, w31, w32, w33, w34, w35, w36, w37, w38, w39, w40, w41, w42, w43, w44, w45, w46, w47, w48, w49, w50, w51, w52, w53, w54, w55, w56, w57, w58, w59, w60, w61, w62])), (ms, .inl (y 1, 30000, .inl (zf tM 57 f)))]) [0, 1] (by decide) rfl
  have hFc := va_free (wc := [(h0, .inr (16, [w1, w2, w3, w4, w5, w6, w7, w8, w9, w10, w11, w12, w13, w14, .int (nI 57), .ref ms, w15, w16, w17, w18, w19, w20, w21, w22, w23, w24, w25, w26, w27, w28, w29, w30, w31, w32, w33, w34, w35, w36, w37, w38, w39, w40, w41, w42, w43, w44, w45, w46, w47, w48, w49, w50, w51, w52, w53, w54, w55, w56, w57, w58, w59, w60, w61, w62])), (ms, .inl (y 1, 30000, .inl (zf tM 57 f)))]) hD hS hA [0, 1] rfl
  refine va_callv (va_runV (As := [.int 0]) (rest := []) ⟨hx, hb, hml, hown, hts⟩ (c_M_say l D y H.size h0 ms 57 w1 w2 w3 w4 w5 w6 w7 w8 w9 w10 w11 w12 w13 w14 w15 w16 w17 w18 w19 w20 w21 w22 w23 w24 w25 w26 w27 w28 w29 w30 w31 w32 w33 w34 w35 w36 w37 w38 w39 w40 w41 w42 w43 w44 w45 w46 w47 w48 w49 w50 w51 w52 w53 w54 w55 w56 w57 w58 w59 w60 w61 w62 f 0 (by decide) (by decide +kernel)) (cwV 1 hts gv_c_M_sayNumber_c_M_say_96 rfl rfl rfl (by decide +kernel) ⟨(Nat.le_of_ble_eq_true rfl), (Nat.le_of_ble_eq_true rfl)⟩) (zB.preV hPc hDc hK hN hE hO hT hG hS hFc (fun _ h => nomatch h) (fun _ h => nomatch h) (fun _ h => nomatch h) (fun _ h => nomatch h) (va_recv hK hPc (ci := 16) (q0 := 0) rfl rfl)) rfl rfl hl.1 rfl (lv_room (Nat.le_of_ble_eq_true rfl)) dX12_sayNumber_23 ⟨(Nat.le_of_ble_eq_true rfl), (Nat.le_of_ble_eq_true rfl)⟩) hS (fun q _ h => hFc q h) hFc (fun u t H1 locs ht hvm hw hB hz1 hk1 hS => ?_)
  obtain ⟨hP1, hD1⟩ := hB
  rw [ht] at hP1
  obtain ⟨hP, hD⟩ := va_join (wr := []) (w1 := [(h0, .inr (16, [w1, w2, w3, w4, w5, w6, w7, w8, w9, w10, w11, w12, w13, w14, .int (nI 58), .ref ms, w15, w16, w17, w18, w19, w20, w21, w22, w23, w24, w25, w26, w27, w28, w29, w30, w31, w32, w33, w34, w35, w36, w37, w38, w39, w40, w41, w42, w43, w44, w45, w46, w47, w48, w49, w50, w51, w52, w53, w54, w55, w56, w57, w58, w59, w60, w61, w62])), (ms, .inl (y 1, 30000, .inl (zf tM 58 f)))]) hP hD [0, 1] [] rfl rfl (by decide) (by decide) hk1 hFc hP1 hD1
  generalize H1 = H at hP hS ⊢
  have hP : va_P D vwCl [(h0, .inr (16, [w1, w2, w3, w4, w5, w6, w7, w8, w9, w10, w11, w12, w13, w14, .int (nI 58), .ref ms, w15, w16, w17, w18, w19, w20, w21, w22, w23, w24, w25, w26, w27, w28, w29, w30, w31, w32, w33, w34, w35, w36, w37, w38, w39, w40, w41, w42, w43, w44, w45, w46, w47, w48, w49, w50, w51, w52, w53, w54, w55, w56, w57, w58, w59, w60, w61, w62])), (ms, .inl (y 1, 30000, .inl (zf tM 58 f)))] H := hP
  have hD : va_D A [(h0, .inr (16, [w1, w2, w3, w4, w5, w6, w7, w8, w9, w10, w11, w12, w13, w14, .int (nI 58), .ref ms, w15, w16, w17, w18, w19, w20, w21, w22, w23, w24, w25, w26, w27, w28, w29, w30, w31, w32, w33, w34, w35, w36, w37, w38, w39, w40, w41, w42, w43, w44, w45, w46, w47, w48, w49, w50, w51, w52, w53, w54, w55, w56, w57, w58, w59, w60, w61, w62])), (ms, .inl (y 1, 30000, .inl (zf tM 58 f)))] := hD
  refine lv_iinc (v := 5) (lv' := [(4, .int 5), (0, .ref h0), (1, .long 0), (3, .int 8)]) hx hb dX12_sayNumber_26 hl (k := 0) rfl (by decide) (by decide) rfl (fun ls hl => ?_)
  refine lv_goto (tgt := 5) hx hb dX12_sayNumber_29 (by decide) ?_
  refine lv_iload hx hb dX12_sayNumber_5 (lv_at hl 0 rfl) ?_
  refine lv_if_lt (tgt := 32) hx hb dX12_sayNumber_7 (by decide) (fun c9 => absurd c9 (by decide)) (fun _ => ?_)
  refine lv_aload_n hx hb dX12_sayNumber_10 rfl (lv_at hl 1 rfl) ?_
  refine lv_lload_n hx hb dX12_sayNumber_11 rfl (lv_at hl 2 rfl) ?_
  refine lv_bipush (v := 8) hx hb dX12_sayNumber_12 (by decide) ?_
  refine lv_iload hx hb dX12_sayNumber_14 (lv_at hl 0 rfl) ?_
  refine lv_imul hx hb dX12_sayNumber_16 ?_
  refine lv_topi (fun v8 ev8 => ?_)
  have ev8 : v8 = 40 := ev8.trans (by decide +kernel)
  subst ev8
  refine lv_lshr hx hb dX12_sayNumber_17 rfl ?_
  refine lv_topl (fun v9 ev9 => ?_)
  have ev9 : v9 = 0 := ev9.trans (by decide +kernel)
  subst ev9
  refine lv_ldc2 (v := 255) hx hb hown (hts (.constantLong RX12 87 255) (by decide +kernel)) dX12_sayNumber_18 ?_
  refine lv_land hx hb dX12_sayNumber_21 ?_
  refine lv_topl (fun v10 ev10 => ?_)
  have ev10 : v10 = 0 := ev10.trans (by decide +kernel)
  subst ev10
  refine lv_l2i (v := 0) hx hb dX12_sayNumber_22 (by decide +kernel) ?_
  have hPc := hP.sub (ws' := [(h0, .inr (16, [w1, w2, w3, w4, w5, w6, w7, w8, w9, w10, w11, w12, w13, w14, .int (nI 58), .ref ms, w15, w16, w17, w18, w19, w20, w21, w22, w23, w24, w25, w26, w27, w28, w29, w30, w31, w32, w33, w34, w35, w36, w37, w38, w39, w40, w41, w42, w43, w44, w45, w46, w47, w48, w49, w50, w51, w52, w53, w54, w55, w56, w57, w58, w59, w60, w61, w62])), (ms, .inl (y 1, 30000, .inl (zf tM 58 f)))]) [0, 1] rfl
  have hDc := hD.sub (ws' := [(h0, .inr (16, [w1, w2, w3, w4, w5, w6, w7, w8, w9, w10, w11, w12, w13, w14, .int (nI 58), .ref ms, w15, w16, w17, w18, w19, w20, w21, w22, w23, w24, w25, w26, w27, w28, w29, w30, w31, w32, w33, w34, w35, w36, w37, w38, w39, w40, w41, w42, w43, w44, w45, w46, w47, w48, w49, w50, w51, w52, w53, w54, w55, w56, w57, w58, w59, w60, w61, w62])), (ms, .inl (y 1, 30000, .inl (zf tM 58 f)))]) [0, 1] (by decide) rfl
  have hFc := va_free (wc := [(h0, .inr (16, [w1, w2, w3, w4, w5, w6, w7, w8, w9, w10, w11, w12, w13, w14, .int (nI 58), .ref ms, w15, w16, w17, w18, w19, w20, w21, w22, w23, w24, w25, w26, w27, w28, w29, w30, w31, w32, w33, w34, w35, w36, w37, w38, w39, w40, w41, w42, w43, w44, w45, w46, w47, w48, w49, w50, w51, w52, w53, w54, w55, w56, w57, w58, w59, w60, w61, w62])), (ms, .inl (y 1, 30000, .inl (zf tM 58 f)))]) hD hS hA [0, 1] rfl
  refine va_callv (va_runV (As := [.int 0]) (rest := []) ⟨hx, hb, hml, hown, hts⟩ (c_M_say l D y H.size h0 ms 58 w1 w2 w3 w4 w5 w6 w7 w8 w9 w10 w11 w12 w13 w14 w15 w16 w17 w18 w19 w20 w21 w22 w23 w24 w25 w26 w27 w28 w29 w30 w31 w32 w33 w34 w35 w36 w37 w38 w39 w40 w41 w42 w43 w44 w45 w46 w47 w48 w49 w50 w51 w52 w53 w54 w55 w56 w57 w58 w59 w60 w61 w62 f 0 (by decide) (by decide +kernel)) (cwV 1 hts gv_c_M_sayNumber_c_M_say_96 rfl rfl rfl (by decide +kernel) ⟨(Nat.le_of_ble_eq_true rfl), (Nat.le_of_ble_eq_true rfl)⟩) (zB.preV hPc hDc hK hN hE hO hT hG hS hFc (fun _ h => nomatch h) (fun _ h => nomatch h) (fun _ h => nomatch h) (fun _ h => nomatch h) (va_recv hK hPc (ci := 16) (q0 := 0) rfl rfl)) rfl rfl hl.1 rfl (lv_room (Nat.le_of_ble_eq_true rfl)) dX12_sayNumber_23 ⟨(Nat.le_of_ble_eq_true rfl), (Nat.le_of_ble_eq_true rfl)⟩) hS (fun q _ h => hFc q h) hFc (fun u t H1 locs ht hvm hw hB hz1 hk1 hS => ?_)
  obtain ⟨hP1, hD1⟩ := hB
  rw [ht] at hP1
  obtain ⟨hP, hD⟩ := va_join (wr := []) (w1 := [(h0, .inr (16, [w1, w2, w3, w4, w5, w6, w7, w8, w9, w10, w11, w12, w13, w14, .int (nI 59), .ref ms, w15, w16, w17, w18, w19, w20, w21, w22, w23, w24, w25, w26, w27, w28, w29, w30, w31, w32, w33, w34, w35, w36, w37, w38, w39, w40, w41, w42, w43, w44, w45, w46, w47, w48, w49, w50, w51, w52, w53, w54, w55, w56, w57, w58, w59, w60, w61, w62])), (ms, .inl (y 1, 30000, .inl (zf tM 59 f)))]) hP hD [0, 1] [] rfl rfl (by decide) (by decide) hk1 hFc hP1 hD1
  generalize H1 = H at hP hS ⊢
  have hP : va_P D vwCl [(h0, .inr (16, [w1, w2, w3, w4, w5, w6, w7, w8, w9, w10, w11, w12, w13, w14, .int (nI 59), .ref ms, w15, w16, w17, w18, w19, w20, w21, w22, w23, w24, w25, w26, w27, w28, w29, w30, w31, w32, w33, w34, w35, w36, w37, w38, w39, w40, w41, w42, w43, w44, w45, w46, w47, w48, w49, w50, w51, w52, w53, w54, w55, w56, w57, w58, w59, w60, w61, w62])), (ms, .inl (y 1, 30000, .inl (zf tM 59 f)))] H := hP
  have hD : va_D A [(h0, .inr (16, [w1, w2, w3, w4, w5, w6, w7, w8, w9, w10, w11, w12, w13, w14, .int (nI 59), .ref ms, w15, w16, w17, w18, w19, w20, w21, w22, w23, w24, w25, w26, w27, w28, w29, w30, w31, w32, w33, w34, w35, w36, w37, w38, w39, w40, w41, w42, w43, w44, w45, w46, w47, w48, w49, w50, w51, w52, w53, w54, w55, w56, w57, w58, w59, w60, w61, w62])), (ms, .inl (y 1, 30000, .inl (zf tM 59 f)))] := hD
  refine lv_iinc (v := 4) (lv' := [(4, .int 4), (0, .ref h0), (1, .long 0), (3, .int 8)]) hx hb dX12_sayNumber_26 hl (k := 0) rfl (by decide) (by decide) rfl (fun ls hl => ?_)
  refine lv_goto (tgt := 5) hx hb dX12_sayNumber_29 (by decide) ?_
  refine lv_iload hx hb dX12_sayNumber_5 (lv_at hl 0 rfl) ?_
  refine lv_if_lt (tgt := 32) hx hb dX12_sayNumber_7 (by decide) (fun c9 => absurd c9 (by decide)) (fun _ => ?_)
  refine lv_aload_n hx hb dX12_sayNumber_10 rfl (lv_at hl 1 rfl) ?_
  refine lv_lload_n hx hb dX12_sayNumber_11 rfl (lv_at hl 2 rfl) ?_
  refine lv_bipush (v := 8) hx hb dX12_sayNumber_12 (by decide) ?_
  refine lv_iload hx hb dX12_sayNumber_14 (lv_at hl 0 rfl) ?_
  refine lv_imul hx hb dX12_sayNumber_16 ?_
  refine lv_topi (fun v11 ev11 => ?_)
  have ev11 : v11 = 32 := ev11.trans (by decide +kernel)
  subst ev11
  refine lv_lshr hx hb dX12_sayNumber_17 rfl ?_
  refine lv_topl (fun v12 ev12 => ?_)
  have ev12 : v12 = 0 := ev12.trans (by decide +kernel)
  subst ev12
  refine lv_ldc2 (v := 255) hx hb hown (hts (.constantLong RX12 87 255) (by decide +kernel)) dX12_sayNumber_18 ?_
  refine lv_land hx hb dX12_sayNumber_21 ?_
  refine lv_topl (fun v13 ev13 => ?_)
  have ev13 : v13 = 0 := ev13.trans (by decide +kernel)
  subst ev13
  refine lv_l2i (v := 0) hx hb dX12_sayNumber_22 (by decide +kernel) ?_
  have hPc := hP.sub (ws' := [(h0, .inr (16, [w1, w2, w3, w4, w5, w6, w7, w8, w9, w10, w11, w12, w13, w14, .int (nI 59), .ref ms, w15, w16, w17, w18, w19, w20, w21, w22, w23, w24, w25, w26, w27, w28, w29, w30, w31, w32, w33, w34, w35, w36, w37, w38, w39, w40, w41, w42, w43, w44, w45, w46, w47, w48, w49, w50, w51, w52, w53, w54, w55, w56, w57, w58, w59, w60, w61, w62])), (ms, .inl (y 1, 30000, .inl (zf tM 59 f)))]) [0, 1] rfl
  have hDc := hD.sub (ws' := [(h0, .inr (16, [w1, w2, w3, w4, w5, w6, w7, w8, w9, w10, w11, w12, w13, w14, .int (nI 59), .ref ms, w15, w16, w17, w18, w19, w20, w21, w22, w23, w24, w25, w26, w27, w28, w29, w30, w31, w32, w33, w34, w35, w36, w37, w38, w39, w40, w41, w42, w43, w44, w45, w46, w47, w48, w49, w50, w51, w52, w53, w54, w55, w56, w57, w58, w59, w60, w61, w62])), (ms, .inl (y 1, 30000, .inl (zf tM 59 f)))]) [0, 1] (by decide) rfl
  have hFc := va_free (wc := [(h0, .inr (16, [w1, w2, w3, w4, w5, w6, w7, w8, w9, w10, w11, w12, w13, w14, .int (nI 59), .ref ms, w15, w16, w17, w18, w19, w20, w21, w22, w23, w24, w25, w26, w27, w28, w29, w30, w31, w32, w33, w34, w35, w36, w37, w38, w39, w40, w41, w42, w43, w44, w45, w46, w47, w48, w49, w50, w51, w52, w53, w54, w55, w56, w57, w58, w59, w60, w61, w62])), (ms, .inl (y 1, 30000, .inl (zf tM 59 f)))]) hD hS hA [0, 1] rfl
  refine va_callv (va_runV (As := [.int 0]) (rest := []) ⟨hx, hb, hml, hown, hts⟩ (c_M_say l D y H.size h0 ms 59 w1 w2 w3 w4 w5 w6 w7 w8 w9 w10 w11 w12 w13 w14 w15 w16 w17 w18 w19 w20 w21 w22 w23 w24 w25 w26 w27 w28 w29 w30 w31 w32 w33 w34 w35 w36 w37 w38 w39 w40 w41 w42 w43 w44 w45 w46 w47 w48 w49 w50 w51 w52 w53 w54 w55 w56 w57 w58 w59 w60 w61 w62 f 0 (by decide) (by decide +kernel)) (cwV 1 hts gv_c_M_sayNumber_c_M_say_96 rfl rfl rfl (by decide +kernel) ⟨(Nat.le_of_ble_eq_true rfl), (Nat.le_of_ble_eq_true rfl)⟩) (zB.preV hPc hDc hK hN hE hO hT hG hS hFc (fun _ h => nomatch h) (fun _ h => nomatch h) (fun _ h => nomatch h) (fun _ h => nomatch h) (va_recv hK hPc (ci := 16) (q0 := 0) rfl rfl)) rfl rfl hl.1 rfl (lv_room (Nat.le_of_ble_eq_true rfl)) dX12_sayNumber_23 ⟨(Nat.le_of_ble_eq_true rfl), (Nat.le_of_ble_eq_true rfl)⟩) hS (fun q _ h => hFc q h) hFc (fun u t H1 locs ht hvm hw hB hz1 hk1 hS => ?_)
  obtain ⟨hP1, hD1⟩ := hB
  rw [ht] at hP1
  obtain ⟨hP, hD⟩ := va_join (wr := []) (w1 := [(h0, .inr (16, [w1, w2, w3, w4, w5, w6, w7, w8, w9, w10, w11, w12, w13, w14, .int (nI 60), .ref ms, w15, w16, w17, w18, w19, w20, w21, w22, w23, w24, w25, w26, w27, w28, w29, w30, w31, w32, w33, w34, w35, w36, w37, w38, w39, w40, w41, w42, w43, w44, w45, w46, w47, w48, w49, w50, w51, w52, w53, w54, w55, w56, w57, w58, w59, w60, w61, w62])), (ms, .inl (y 1, 30000, .inl (zf tM 60 f)))]) hP hD [0, 1] [] rfl rfl (by decide) (by decide) hk1 hFc hP1 hD1
  generalize H1 = H at hP hS ⊢
  have hP : va_P D vwCl [(h0, .inr (16, [w1, w2, w3, w4, w5, w6, w7, w8, w9, w10, w11, w12, w13, w14, .int (nI 60), .ref ms, w15, w16, w17, w18, w19, w20, w21, w22, w23, w24, w25, w26, w27, w28, w29, w30, w31, w32, w33, w34, w35, w36, w37, w38, w39, w40, w41, w42, w43, w44, w45, w46, w47, w48, w49, w50, w51, w52, w53, w54, w55, w56, w57, w58, w59, w60, w61, w62])), (ms, .inl (y 1, 30000, .inl (zf tM 60 f)))] H := hP
  have hD : va_D A [(h0, .inr (16, [w1, w2, w3, w4, w5, w6, w7, w8, w9, w10, w11, w12, w13, w14, .int (nI 60), .ref ms, w15, w16, w17, w18, w19, w20, w21, w22, w23, w24, w25, w26, w27, w28, w29, w30, w31, w32, w33, w34, w35, w36, w37, w38, w39, w40, w41, w42, w43, w44, w45, w46, w47, w48, w49, w50, w51, w52, w53, w54, w55, w56, w57, w58, w59, w60, w61, w62])), (ms, .inl (y 1, 30000, .inl (zf tM 60 f)))] := hD
  refine lv_iinc (v := 3) (lv' := [(4, .int 3), (0, .ref h0), (1, .long 0), (3, .int 8)]) hx hb dX12_sayNumber_26 hl (k := 0) rfl (by decide) (by decide) rfl (fun ls hl => ?_)
  refine lv_goto (tgt := 5) hx hb dX12_sayNumber_29 (by decide) ?_
  refine lv_iload hx hb dX12_sayNumber_5 (lv_at hl 0 rfl) ?_
  refine lv_if_lt (tgt := 32) hx hb dX12_sayNumber_7 (by decide) (fun c9 => absurd c9 (by decide)) (fun _ => ?_)
  refine lv_aload_n hx hb dX12_sayNumber_10 rfl (lv_at hl 1 rfl) ?_
  refine lv_lload_n hx hb dX12_sayNumber_11 rfl (lv_at hl 2 rfl) ?_
  refine lv_bipush (v := 8) hx hb dX12_sayNumber_12 (by decide) ?_
  refine lv_iload hx hb dX12_sayNumber_14 (lv_at hl 0 rfl) ?_
  refine lv_imul hx hb dX12_sayNumber_16 ?_
  refine lv_topi (fun v14 ev14 => ?_)
  have ev14 : v14 = 24 := ev14.trans (by decide +kernel)
  subst ev14
  refine lv_lshr hx hb dX12_sayNumber_17 rfl ?_
  refine lv_topl (fun v15 ev15 => ?_)
  have ev15 : v15 = 0 := ev15.trans (by decide +kernel)
  subst ev15
  refine lv_ldc2 (v := 255) hx hb hown (hts (.constantLong RX12 87 255) (by decide +kernel)) dX12_sayNumber_18 ?_
  refine lv_land hx hb dX12_sayNumber_21 ?_
  refine lv_topl (fun v16 ev16 => ?_)
  have ev16 : v16 = 0 := ev16.trans (by decide +kernel)
  subst ev16
  refine lv_l2i (v := 0) hx hb dX12_sayNumber_22 (by decide +kernel) ?_
  have hPc := hP.sub (ws' := [(h0, .inr (16, [w1, w2, w3, w4, w5, w6, w7, w8, w9, w10, w11, w12, w13, w14, .int (nI 60), .ref ms, w15, w16, w17, w18, w19, w20, w21, w22, w23, w24, w25, w26, w27, w28, w29, w30, w31, w32, w33, w34, w35, w36, w37, w38, w39, w40, w41, w42, w43, w44, w45, w46, w47, w48, w49, w50, w51, w52, w53, w54, w55, w56, w57, w58, w59, w60, w61, w62])), (ms, .inl (y 1, 30000, .inl (zf tM 60 f)))]) [0, 1] rfl
  have hDc := hD.sub (ws' := [(h0, .inr (16, [w1, w2, w3, w4, w5, w6, w7, w8, w9, w10, w11, w12, w13, w14, .int (nI 60), .ref ms, w15, w16, w17, w18, w19, w20, w21, w22, w23, w24, w25, w26, w27, w28, w29, w30, w31, w32, w33, w34, w35, w36, w37, w38, w39, w40, w41, w42, w43, w44, w45, w46, w47, w48, w49, w50, w51, w52, w53, w54, w55, w56, w57, w58, w59, w60, w61, w62])), (ms, .inl (y 1, 30000, .inl (zf tM 60 f)))]) [0, 1] (by decide) rfl
  have hFc := va_free (wc := [(h0, .inr (16, [w1, w2, w3, w4, w5, w6, w7, w8, w9, w10, w11, w12, w13, w14, .int (nI 60), .ref ms, w15, w16, w17, w18, w19, w20, w21, w22, w23, w24, w25, w26, w27, w28, w29, w30, w31, w32, w33, w34, w35, w36, w37, w38, w39, w40, w41, w42, w43, w44, w45, w46, w47, w48, w49, w50, w51, w52, w53, w54, w55, w56, w57, w58, w59, w60, w61, w62])), (ms, .inl (y 1, 30000, .inl (zf tM 60 f)))]) hD hS hA [0, 1] rfl
  refine va_callv (va_runV (As := [.int 0]) (rest := []) ⟨hx, hb, hml, hown, hts⟩ (c_M_say l D y H.size h0 ms 60 w1 w2 w3 w4 w5 w6 w7 w8 w9 w10 w11 w12 w13 w14 w15 w16 w17 w18 w19 w20 w21 w22 w23 w24 w25 w26 w27 w28 w29 w30 w31 w32 w33 w34 w35 w36 w37 w38 w39 w40 w41 w42 w43 w44 w45 w46 w47 w48 w49 w50 w51 w52 w53 w54 w55 w56 w57 w58 w59 w60 w61 w62 f 0 (by decide) (by decide +kernel)) (cwV 1 hts gv_c_M_sayNumber_c_M_say_96 rfl rfl rfl (by decide +kernel) ⟨(Nat.le_of_ble_eq_true rfl), (Nat.le_of_ble_eq_true rfl)⟩) (zB.preV hPc hDc hK hN hE hO hT hG hS hFc (fun _ h => nomatch h) (fun _ h => nomatch h) (fun _ h => nomatch h) (fun _ h => nomatch h) (va_recv hK hPc (ci := 16) (q0 := 0) rfl rfl)) rfl rfl hl.1 rfl (lv_room (Nat.le_of_ble_eq_true rfl)) dX12_sayNumber_23 ⟨(Nat.le_of_ble_eq_true rfl), (Nat.le_of_ble_eq_true rfl)⟩) hS (fun q _ h => hFc q h) hFc (fun u t H1 locs ht hvm hw hB hz1 hk1 hS => ?_)
  obtain ⟨hP1, hD1⟩ := hB
  rw [ht] at hP1
  obtain ⟨hP, hD⟩ := va_join (wr := []) (w1 := [(h0, .inr (16, [w1, w2, w3, w4, w5, w6, w7, w8, w9, w10, w11, w12, w13, w14, .int (nI 61), .ref ms, w15, w16, w17, w18, w19, w20, w21, w22, w23, w24, w25, w26, w27, w28, w29, w30, w31, w32, w33, w34, w35, w36, w37, w38, w39, w40, w41, w42, w43, w44, w45, w46, w47, w48, w49, w50, w51, w52, w53, w54, w55, w56, w57, w58, w59, w60, w61, w62])), (ms, .inl (y 1, 30000, .inl (zf tM 61 f)))]) hP hD [0, 1] [] rfl rfl (by decide) (by decide) hk1 hFc hP1 hD1
  generalize H1 = H at hP hS ⊢
  have hP : va_P D vwCl [(h0, .inr (16, [w1, w2, w3, w4, w5, w6, w7, w8, w9, w10, w11, w12, w13, w14, .int (nI 61), .ref ms, w15, w16, w17, w18, w19, w20, w21, w22, w23, w24, w25, w26, w27, w28, w29, w30, w31, w32, w33, w34, w35, w36, w37, w38, w39, w40, w41, w42, w43, w44, w45, w46, w47, w48, w49, w50, w51, w52, w53, w54, w55, w56, w57, w58, w59, w60, w61, w62])), (ms, .inl (y 1, 30000, .inl (zf tM 61 f)))] H := hP
  have hD : va_D A [(h0, .inr (16, [w1, w2, w3, w4, w5, w6, w7, w8, w9, w10, w11, w12, w13, w14, .int (nI 61), .ref ms, w15, w16, w17, w18, w19, w20, w21, w22, w23, w24, w25, w26, w27, w28, w29, w30, w31, w32, w33, w34, w35, w36, w37, w38, w39, w40, w41, w42, w43, w44, w45, w46, w47, w48, w49, w50, w51, w52, w53, w54, w55, w56, w57, w58, w59, w60, w61, w62])), (ms, .inl (y 1, 30000, .inl (zf tM 61 f)))] := hD
  refine lv_iinc (v := 2) (lv' := [(4, .int 2), (0, .ref h0), (1, .long 0), (3, .int 8)]) hx hb dX12_sayNumber_26 hl (k := 0) rfl (by decide) (by decide) rfl (fun ls hl => ?_)
  refine lv_goto (tgt := 5) hx hb dX12_sayNumber_29 (by decide) ?_
  refine lv_iload hx hb dX12_sayNumber_5 (lv_at hl 0 rfl) ?_
  refine lv_if_lt (tgt := 32) hx hb dX12_sayNumber_7 (by decide) (fun c9 => absurd c9 (by decide)) (fun _ => ?_)
  refine lv_aload_n hx hb dX12_sayNumber_10 rfl (lv_at hl 1 rfl) ?_
  refine lv_lload_n hx hb dX12_sayNumber_11 rfl (lv_at hl 2 rfl) ?_
  refine lv_bipush (v := 8) hx hb dX12_sayNumber_12 (by decide) ?_
  refine lv_iload hx hb dX12_sayNumber_14 (lv_at hl 0 rfl) ?_
  refine lv_imul hx hb dX12_sayNumber_16 ?_
  refine lv_topi (fun v17 ev17 => ?_)
  have ev17 : v17 = 16 := ev17.trans (by decide +kernel)
  subst ev17
  refine lv_lshr hx hb dX12_sayNumber_17 rfl ?_
  refine lv_topl (fun v18 ev18 => ?_)
  have ev18 : v18 = 0 := ev18.trans (by decide +kernel)
  subst ev18
  refine lv_ldc2 (v := 255) hx hb hown (hts (.constantLong RX12 87 255) (by decide +kernel)) dX12_sayNumber_18 ?_
  refine lv_land hx hb dX12_sayNumber_21 ?_
  refine lv_topl (fun v19 ev19 => ?_)
  have ev19 : v19 = 0 := ev19.trans (by decide +kernel)
  subst ev19
  refine lv_l2i (v := 0) hx hb dX12_sayNumber_22 (by decide +kernel) ?_
  have hPc := hP.sub (ws' := [(h0, .inr (16, [w1, w2, w3, w4, w5, w6, w7, w8, w9, w10, w11, w12, w13, w14, .int (nI 61), .ref ms, w15, w16, w17, w18, w19, w20, w21, w22, w23, w24, w25, w26, w27, w28, w29, w30, w31, w32, w33, w34, w35, w36, w37, w38, w39, w40, w41, w42, w43, w44, w45, w46, w47, w48, w49, w50, w51, w52, w53, w54, w55, w56, w57, w58, w59, w60, w61, w62])), (ms, .inl (y 1, 30000, .inl (zf tM 61 f)))]) [0, 1] rfl
  have hDc := hD.sub (ws' := [(h0, .inr (16, [w1, w2, w3, w4, w5, w6, w7, w8, w9, w10, w11, w12, w13, w14, .int (nI 61), .ref ms, w15, w16, w17, w18, w19, w20, w21, w22, w23, w24, w25, w26, w27, w28, w29, w30, w31, w32, w33, w34, w35, w36, w37, w38, w39, w40, w41, w42, w43, w44, w45, w46, w47, w48, w49, w50, w51, w52, w53, w54, w55, w56, w57, w58, w59, w60, w61, w62])), (ms, .inl (y 1, 30000, .inl (zf tM 61 f)))]) [0, 1] (by decide) rfl
  have hFc := va_free (wc := [(h0, .inr (16, [w1, w2, w3, w4, w5, w6, w7, w8, w9, w10, w11, w12, w13, w14, .int (nI 61), .ref ms, w15, w16, w17, w18, w19, w20, w21, w22, w23, w24, w25, w26, w27, w28, w29, w30, w31, w32, w33, w34, w35, w36, w37, w38, w39, w40, w41, w42, w43, w44, w45, w46, w47, w48, w49, w50, w51, w52, w53, w54, w55, w56, w57, w58, w59, w60, w61, w62])), (ms, .inl (y 1, 30000, .inl (zf tM 61 f)))]) hD hS hA [0, 1] rfl
  refine va_callv (va_runV (As := [.int 0]) (rest := []) ⟨hx, hb, hml, hown, hts⟩ (c_M_say l D y H.size h0 ms 61 w1 w2 w3 w4 w5 w6 w7 w8 w9 w10 w11 w12 w13 w14 w15 w16 w17 w18 w19 w20 w21 w22 w23 w24 w25 w26 w27 w28 w29 w30 w31 w32 w33 w34 w35 w36 w37 w38 w39 w40 w41 w42 w43 w44 w45 w46 w47 w48 w49 w50 w51 w52 w53 w54 w55 w56 w57 w58 w59 w60 w61 w62 f 0 (by decide) (by decide +kernel)) (cwV 1 hts gv_c_M_sayNumber_c_M_say_96 rfl rfl rfl (by decide +kernel) ⟨(Nat.le_of_ble_eq_true rfl), (Nat.le_of_ble_eq_true rfl)⟩) (zB.preV hPc hDc hK hN hE hO hT hG hS hFc (fun _ h => nomatch h) (fun _ h => nomatch h) (fun _ h => nomatch h) (fun _ h => nomatch h) (va_recv hK hPc (ci := 16) (q0 := 0) rfl rfl)) rfl rfl hl.1 rfl (lv_room (Nat.le_of_ble_eq_true rfl)) dX12_sayNumber_23 ⟨(Nat.le_of_ble_eq_true rfl), (Nat.le_of_ble_eq_true rfl)⟩) hS (fun q _ h => hFc q h) hFc (fun u t H1 locs ht hvm hw hB hz1 hk1 hS => ?_)
  obtain ⟨hP1, hD1⟩ := hB
  rw [ht] at hP1
  obtain ⟨hP, hD⟩ := va_join (wr := []) (w1 := [(h0, .inr (16, [w1, w2, w3, w4, w5, w6, w7, w8, w9, w10, w11, w12, w13, w14, .int (nI 62), .ref ms, w15, w16, w17, w18, w19, w20, w21, w22, w23, w24, w25, w26, w27, w28, w29, w30, w31, w32, w33, w34, w35, w36, w37, w38, w39, w40, w41, w42, w43, w44, w45, w46, w47, w48, w49, w50, w51, w52, w53, w54, w55, w56, w57, w58, w59, w60, w61, w62])), (ms, .inl (y 1, 30000, .inl (zf tM 62 f)))]) hP hD [0, 1] [] rfl rfl (by decide) (by decide) hk1 hFc hP1 hD1
  generalize H1 = H at hP hS ⊢
  have hP : va_P D vwCl [(h0, .inr (16, [w1, w2, w3, w4, w5, w6, w7, w8, w9, w10, w11, w12, w13, w14, .int (nI 62), .ref ms, w15, w16, w17, w18, w19, w20, w21, w22, w23, w24, w25, w26, w27, w28, w29, w30, w31, w32, w33, w34, w35, w36, w37, w38, w39, w40, w41, w42, w43, w44, w45, w46, w47, w48, w49, w50, w51, w52, w53, w54, w55, w56, w57, w58, w59, w60, w61, w62])), (ms, .inl (y 1, 30000, .inl (zf tM 62 f)))] H := hP
  have hD : va_D A [(h0, .inr (16, [w1, w2, w3, w4, w5, w6, w7, w8, w9, w10, w11, w12, w13, w14, .int (nI 62), .ref ms, w15, w16, w17, w18, w19, w20, w21, w22, w23, w24, w25, w26, w27, w28, w29, w30, w31, w32, w33, w34, w35, w36, w37, w38, w39, w40, w41, w42, w43, w44, w45, w46, w47, w48, w49, w50, w51, w52, w53, w54, w55, w56, w57, w58, w59, w60, w61, w62])), (ms, .inl (y 1, 30000, .inl (zf tM 62 f)))] := hD
  refine lv_iinc (v := 1) (lv' := [(4, .int 1), (0, .ref h0), (1, .long 0), (3, .int 8)]) hx hb dX12_sayNumber_26 hl (k := 0) rfl (by decide) (by decide) rfl (fun ls hl => ?_)
  refine lv_goto (tgt := 5) hx hb dX12_sayNumber_29 (by decide) ?_
  refine lv_iload hx hb dX12_sayNumber_5 (lv_at hl 0 rfl) ?_
  refine lv_if_lt (tgt := 32) hx hb dX12_sayNumber_7 (by decide) (fun c9 => absurd c9 (by decide)) (fun _ => ?_)
  refine lv_aload_n hx hb dX12_sayNumber_10 rfl (lv_at hl 1 rfl) ?_
  refine lv_lload_n hx hb dX12_sayNumber_11 rfl (lv_at hl 2 rfl) ?_
  refine lv_bipush (v := 8) hx hb dX12_sayNumber_12 (by decide) ?_
  refine lv_iload hx hb dX12_sayNumber_14 (lv_at hl 0 rfl) ?_
  refine lv_imul hx hb dX12_sayNumber_16 ?_
  refine lv_topi (fun v20 ev20 => ?_)
  have ev20 : v20 = 8 := ev20.trans (by decide +kernel)
  subst ev20
  refine lv_lshr hx hb dX12_sayNumber_17 rfl ?_
  refine lv_topl (fun v21 ev21 => ?_)
  have ev21 : v21 = 0 := ev21.trans (by decide +kernel)
  subst ev21
  refine lv_ldc2 (v := 255) hx hb hown (hts (.constantLong RX12 87 255) (by decide +kernel)) dX12_sayNumber_18 ?_
  refine lv_land hx hb dX12_sayNumber_21 ?_
  refine lv_topl (fun v22 ev22 => ?_)
  have ev22 : v22 = 0 := ev22.trans (by decide +kernel)
  subst ev22
  refine lv_l2i (v := 0) hx hb dX12_sayNumber_22 (by decide +kernel) ?_
  have hPc := hP.sub (ws' := [(h0, .inr (16, [w1, w2, w3, w4, w5, w6, w7, w8, w9, w10, w11, w12, w13, w14, .int (nI 62), .ref ms, w15, w16, w17, w18, w19, w20, w21, w22, w23, w24, w25, w26, w27, w28, w29, w30, w31, w32, w33, w34, w35, w36, w37, w38, w39, w40, w41, w42, w43, w44, w45, w46, w47, w48, w49, w50, w51, w52, w53, w54, w55, w56, w57, w58, w59, w60, w61, w62])), (ms, .inl (y 1, 30000, .inl (zf tM 62 f)))]) [0, 1] rfl
  have hDc := hD.sub (ws' := [(h0, .inr (16, [w1, w2, w3, w4, w5, w6, w7, w8, w9, w10, w11, w12, w13, w14, .int (nI 62), .ref ms, w15, w16, w17, w18, w19, w20, w21, w22, w23, w24, w25, w26, w27, w28, w29, w30, w31, w32, w33, w34, w35, w36, w37, w38, w39, w40, w41, w42, w43, w44, w45, w46, w47, w48, w49, w50, w51, w52, w53, w54, w55, w56, w57, w58, w59, w60, w61, w62])), (ms, .inl (y 1, 30000, .inl (zf tM 62 f)))]) [0, 1] (by decide) rfl
  have hFc := va_free (wc := [(h0, .inr (16, [w1, w2, w3, w4, w5, w6, w7, w8, w9, w10, w11, w12, w13, w14, .int (nI 62), .ref ms, w15, w16, w17, w18, w19, w20, w21, w22, w23, w24, w25, w26, w27, w28, w29, w30, w31, w32, w33, w34, w35, w36, w37, w38, w39, w40, w41, w42, w43, w44, w45, w46, w47, w48, w49, w50, w51, w52, w53, w54, w55, w56, w57, w58, w59, w60, w61, w62])), (ms, .inl (y 1, 30000, .inl (zf tM 62 f)))]) hD hS hA [0, 1] rfl
  refine va_callv (va_runV (As := [.int 0]) (rest := []) ⟨hx, hb, hml, hown, hts⟩ (c_M_say l D y H.size h0 ms 62 w1 w2 w3 w4 w5 w6 w7 w8 w9 w10 w11 w12 w13 w14 w15 w16 w17 w18 w19 w20 w21 w22 w23 w24 w25 w26 w27 w28 w29 w30 w31 w32 w33 w34 w35 w36 w37 w38 w39 w40 w41 w42 w43 w44 w45 w46 w47 w48 w49 w50 w51 w52 w53 w54 w55 w56 w57 w58 w59 w60 w61 w62 f 0 (by decide) (by decide +kernel)) (cwV 1 hts gv_c_M_sayNumber_c_M_say_96 rfl rfl rfl (by decide +kernel) ⟨(Nat.le_of_ble_eq_true rfl), (Nat.le_of_ble_eq_true rfl)⟩) (zB.preV hPc hDc hK hN hE hO hT hG hS hFc (fun _ h => nomatch h) (fun _ h => nomatch h) (fun _ h => nomatch h) (fun _ h => nomatch h) (va_recv hK hPc (ci := 16) (q0 := 0) rfl rfl)) rfl rfl hl.1 rfl (lv_room (Nat.le_of_ble_eq_true rfl)) dX12_sayNumber_23 ⟨(Nat.le_of_ble_eq_true rfl), (Nat.le_of_ble_eq_true rfl)⟩) hS (fun q _ h => hFc q h) hFc (fun u t H1 locs ht hvm hw hB hz1 hk1 hS => ?_)
  obtain ⟨hP1, hD1⟩ := hB
  rw [ht] at hP1
  obtain ⟨hP, hD⟩ := va_join (wr := []) (w1 := [(h0, .inr (16, [w1, w2, w3, w4, w5, w6, w7, w8, w9, w10, w11, w12, w13, w14, .int (nI 63), .ref ms, w15, w16, w17, w18, w19, w20, w21, w22, w23, w24, w25, w26, w27, w28, w29, w30, w31, w32, w33, w34, w35, w36, w37, w38, w39, w40, w41, w42, w43, w44, w45, w46, w47, w48, w49, w50, w51, w52, w53, w54, w55, w56, w57, w58, w59, w60, w61, w62])), (ms, .inl (y 1, 30000, .inl (zf tM 63 f)))]) hP hD [0, 1] [] rfl rfl (by decide) (by decide) hk1 hFc hP1 hD1
  generalize H1 = H at hP hS ⊢
  have hP : va_P D vwCl [(h0, .inr (16, [w1, w2, w3, w4, w5, w6, w7, w8, w9, w10, w11, w12, w13, w14, .int (nI 63), .ref ms, w15, w16, w17, w18, w19, w20, w21, w22, w23, w24, w25, w26, w27, w28, w29, w30, w31, w32, w33, w34, w35, w36, w37, w38, w39, w40, w41, w42, w43, w44, w45, w46, w47, w48, w49, w50, w51, w52, w53, w54, w55, w56, w57, w58, w59, w60, w61, w62])), (ms, .inl (y 1, 30000, .inl (zf tM 63 f)))] H := hP
  have hD : va_D A [(h0, .inr (16, [w1, w2, w3, w4, w5, w6, w7, w8, w9, w10, w11, w12, w13, w14, .int (nI 63), .ref ms, w15, w16, w17, w18, w19, w20, w21, w22, w23, w24, w25, w26, w27, w28, w29, w30, w31, w32, w33, w34, w35, w36, w37, w38, w39, w40, w41, w42, w43, w44, w45, w46, w47, w48, w49, w50, w51, w52, w53, w54, w55, w56, w57, w58, w59, w60, w61, w62])), (ms, .inl (y 1, 30000, .inl (zf tM 63 f)))] := hD
  refine lv_iinc (v := 0) (lv' := [(4, .int 0), (0, .ref h0), (1, .long 0), (3, .int 8)]) hx hb dX12_sayNumber_26 hl (k := 0) rfl (by decide) (by decide) rfl (fun ls hl => ?_)
  refine lv_goto (tgt := 5) hx hb dX12_sayNumber_29 (by decide) ?_
  refine lv_iload hx hb dX12_sayNumber_5 (lv_at hl 0 rfl) ?_
  refine lv_if_lt (tgt := 32) hx hb dX12_sayNumber_7 (by decide) (fun c9 => absurd c9 (by decide)) (fun _ => ?_)
  refine lv_aload_n hx hb dX12_sayNumber_10 rfl (lv_at hl 1 rfl) ?_
  refine lv_lload_n hx hb dX12_sayNumber_11 rfl (lv_at hl 2 rfl) ?_
  refine lv_bipush (v := 8) hx hb dX12_sayNumber_12 (by decide) ?_
  refine lv_iload hx hb dX12_sayNumber_14 (lv_at hl 0 rfl) ?_
  refine lv_imul hx hb dX12_sayNumber_16 ?_
  refine lv_topi (fun v23 ev23 => ?_)
  have ev23 : v23 = 0 := ev23.trans (by decide +kernel)
  subst ev23
  refine lv_lshr hx hb dX12_sayNumber_17 rfl ?_
  refine lv_topl (fun v24 ev24 => ?_)
  have ev24 : v24 = 0 := ev24.trans (by decide +kernel)
  subst ev24
  refine lv_ldc2 (v := 255) hx hb hown (hts (.constantLong RX12 87 255) (by decide +kernel)) dX12_sayNumber_18 ?_
  refine lv_land hx hb dX12_sayNumber_21 ?_
  refine lv_topl (fun v25 ev25 => ?_)
  have ev25 : v25 = 0 := ev25.trans (by decide +kernel)
  subst ev25
  refine lv_l2i (v := 0) hx hb dX12_sayNumber_22 (by decide +kernel) ?_
  have hPc := hP.sub (ws' := [(h0, .inr (16, [w1, w2, w3, w4, w5, w6, w7, w8, w9, w10, w11, w12, w13, w14, .int (nI 63), .ref ms, w15, w16, w17, w18, w19, w20, w21, w22, w23, w24, w25, w26, w27, w28, w29, w30, w31, w32, w33, w34, w35, w36, w37, w38, w39, w40, w41, w42, w43, w44, w45, w46, w47, w48, w49, w50, w51, w52, w53, w54, w55, w56, w57, w58, w59, w60, w61, w62])), (ms, .inl (y 1, 30000, .inl (zf tM 63 f)))]) [0, 1] rfl
  have hDc := hD.sub (ws' := [(h0, .inr (16, [w1, w2, w3, w4, w5, w6, w7, w8, w9, w10, w11, w12, w13, w14, .int (nI 63), .ref ms, w15, w16, w17, w18, w19, w20, w21, w22, w23, w24, w25, w26, w27, w28, w29, w30, w31, w32, w33, w34, w35, w36, w37, w38, w39, w40, w41, w42, w43, w44, w45, w46, w47, w48, w49, w50, w51, w52, w53, w54, w55, w56, w57, w58, w59, w60, w61, w62])), (ms, .inl (y 1, 30000, .inl (zf tM 63 f)))]) [0, 1] (by decide) rfl
  have hFc := va_free (wc := [(h0, .inr (16, [w1, w2, w3, w4, w5, w6, w7, w8, w9, w10, w11, w12, w13, w14, .int (nI 63), .ref ms, w15, w16, w17, w18, w19, w20, w21, w22, w23, w24, w25, w26, w27, w28, w29, w30, w31, w32, w33, w34, w35, w36, w37, w38, w39, w40, w41, w42, w43, w44, w45, w46, w47, w48, w49, w50, w51, w52, w53, w54, w55, w56, w57, w58, w59, w60, w61, w62])), (ms, .inl (y 1, 30000, .inl (zf tM 63 f)))]) hD hS hA [0, 1] rfl
  refine va_callv (va_runV (As := [.int 0]) (rest := []) ⟨hx, hb, hml, hown, hts⟩ (c_M_say l D y H.size h0 ms 63 w1 w2 w3 w4 w5 w6 w7 w8 w9 w10 w11 w12 w13 w14 w15 w16 w17 w18 w19 w20 w21 w22 w23 w24 w25 w26 w27 w28 w29 w30 w31 w32 w33 w34 w35 w36 w37 w38 w39 w40 w41 w42 w43 w44 w45 w46 w47 w48 w49 w50 w51 w52 w53 w54 w55 w56 w57 w58 w59 w60 w61 w62 f 0 (by decide) (by decide +kernel)) (cwV 1 hts gv_c_M_sayNumber_c_M_say_96 rfl rfl rfl (by decide +kernel) ⟨(Nat.le_of_ble_eq_true rfl), (Nat.le_of_ble_eq_true rfl)⟩) (zB.preV hPc hDc hK hN hE hO hT hG hS hFc (fun _ h => nomatch h) (fun _ h => nomatch h) (fun _ h => nomatch h) (fun _ h => nomatch h) (va_recv hK hPc (ci := 16) (q0 := 0) rfl rfl)) rfl rfl hl.1 rfl (lv_room (Nat.le_of_ble_eq_true rfl)) dX12_sayNumber_23 ⟨(Nat.le_of_ble_eq_true rfl), (Nat.le_of_ble_eq_true rfl)⟩) hS (fun q _ h => hFc q h) hFc (fun u t H1 locs ht hvm hw hB hz1 hk1 hS => ?_)
  obtain ⟨hP1, hD1⟩ := hB
  rw [ht] at hP1
  obtain ⟨hP, hD⟩ := va_join (wr := []) (w1 := [(h0, .inr (16, [w1, w2, w3, w4, w5, w6, w7, w8, w9, w10, w11, w12, w13, w14, .int (nI 64), .ref ms, w15, w16, w17, w18, w19, w20, w21, w22, w23, w24, w25, w26, w27, w28, w29, w30, w31, w32, w33, w34, w35, w36, w37, w38, w39, w40, w41, w42, w43, w44, w45, w46, w47, w48, w49, w50, w51, w52, w53, w54, w55, w56, w57, w58, w59, w60, w61, w62])), (ms, .inl (y 1, 30000, .inl (zf tM 64 f)))]) hP hD [0, 1] [] rfl rfl (by decide) (by decide) hk1 hFc hP1 hD1
  generalize H1 = H at hP hS ⊢
  have hP : va_P D vwCl [(h0, .inr (16, [w1, w2, w3, w4, w5, w6, w7, w8, w9, w10, w11, w12, w13, w14, .int (nI 64), .ref ms, w15, w16, w17, w18, w19, w20, w21, w22, w23, w24, w25, w26, w27, w28, w29, w30, w31, w32, w33, w34, w35, w36, w37, w38, w39, w40, w41, w42, w43, w44, w45, w46, w47, w48, w49, w50, w51, w52, w53, w54, w55, w56, w57, w58, w59, w60, w61, w62])), (ms, .inl (y 1, 30000, .inl (zf tM 64 f)))] H := hP
  have hD : va_D A [(h0, .inr (16, [w1, w2, w3, w4, w5, w6, w7, w8, w9, w10, w11, w12, w13, w14, .int (nI 64), .ref ms, w15, w16, w17, w18, w19, w20, w21, w22, w23, w24, w25, w26, w27, w28, w29, w30, w31, w32, w33, w34, w35, w36, w37, w38, w39, w40, w41, w42, w43, w44, w45, w46, w47, w48, w49, w50, w51, w52, w53, w54, w55, w56, w57, w58, w59, w60, w61, w62])), (ms, .inl (y 1, 30000, .inl (zf tM 64 f)))] := hD
  refine lv_iinc (v := -1) (lv' := [(4, .int (-1)), (0, .ref h0), (1, .long 0), (3, .int 8)]) hx hb dX12_sayNumber_26 hl (k := 0) rfl (by decide) (by decide) rfl (fun ls hl => ?_)
  refine lv_goto (tgt := 5) hx hb dX12_sayNumber_29 (by decide) ?_
  refine lv_iload hx hb dX12_sayNumber_5 (lv_at hl 0 rfl) ?_
  refine lv_if_lt (tgt := 32) hx hb dX12_sayNumber_7 (by decide) (fun _ => ?_) (fun c9 => absurd (by decide) c9)
  have hP9 := hP.sub (ws' := [(h0, .inr (16, [w1, w2, w3, w4, w5, w6, w7, w8, w9, w10, w11, w12, w13, w14, .int (nI 64), .ref ms, w15, w16, w17, w18, w19, w20, w21, w22, w23, w24, w25, w26, w27, w28, w29, w30, w31, w32, w33, w34, w35, w36, w37, w38, w39, w40, w41, w42, w43, w44, w45, w46, w47, w48, w49, w50, w51, w52, w53, w54, w55, w56, w57, w58, w59, w60, w61, w62])), (ms, .inl (y 1, 30000, .inl (zf tM 64 f)))]) [0, 1] rfl
  have hD9 := hD.sub (ws' := [(h0, .inr (16, [w1, w2, w3, w4, w5, w6, w7, w8, w9, w10, w11, w12, w13, w14, .int (nI 64), .ref ms, w15, w16, w17, w18, w19, w20, w21, w22, w23, w24, w25, w26, w27, w28, w29, w30, w31, w32, w33, w34, w35, w36, w37, w38, w39, w40, w41, w42, w43, w44, w45, w46, w47, w48, w49, w50, w51, w52, w53, w54, w55, w56, w57, w58, w59, w60, w61, w62])), (ms, .inl (y 1, 30000, .inl (zf tM 64 f)))]) [0, 1] (by decide) rfl
  refine W.widen (k := 0) (n := 0) (Nat.le_of_ble_eq_true rfl) (Nat.le_of_ble_eq_true rfl) ?_
  exact W.vret hx hb hr (fun t ht hW => ⟨⟨(), rfl, trivial, by rw [ht]; exact hP9, hD9⟩, hS.F ht⟩) hS.2.2 dX12_sayNumber_32
def wz_c_M_close : List Cond := .code yX12_close cX12_close 3 (some .int) :: ([.constantLong RX12 100 8, .fieldLink RX12 93 "SignetRingModel" "messageSize" "I", .methodLink RX12 96 yX12_say, .instanceMethod yX12_say, .selects RX12 yX12_say yX12_say, .initialized RX12, .methodLink RX12 102 yX12_sayNumber, .instanceMethod yX12_sayNumber, .selects RX12 yX12_sayNumber yX12_sayNumber] ++ (wsX120 ++ (wz_c_M_say ++ (wz_c_M_sayNumber ++ ([])))))
set_option maxRecDepth 100000 in
theorem gz_c_M_close_c_M_say : GoodIn wz_c_M_close wz_c_M_say := goodIn_sub (fun w h => List.mem_cons_of_mem _ (List.mem_append_right _ (List.mem_append_right _ (List.mem_append_left _ h)))) (by decide +kernel)
set_option maxRecDepth 100000 in
theorem gz_c_M_close_c_M_sayNumber : GoodIn wz_c_M_close wz_c_M_sayNumber := goodIn_sub (fun w h => List.mem_cons_of_mem _ (List.mem_append_right _ (List.mem_append_right _ (List.mem_append_right _ (List.mem_append_left _ h))))) (by decide +kernel)
set_option maxRecDepth 100000 in
theorem gv_c_M_close_c_M_say_96 : GoodIn wz_c_M_close (wsV RX12 96 RX12 yX12_say wz_c_M_say) := goodIn_app (goodIn_of _ (by decide +kernel)) gz_c_M_close_c_M_say
set_option maxRecDepth 100000 in
theorem gv_c_M_close_c_M_sayNumber_102 : GoodIn wz_c_M_close (wsV RX12 102 RX12 yX12_sayNumber wz_c_M_sayNumber) := goodIn_app (goodIn_of _ (by decide +kernel)) gz_c_M_close_c_M_sayNumber
set_option maxHeartbeats 4000000 in
set_option maxRecDepth 100000 in
theorem ax_c_M_close_0 : ∀ k1 : Nat, k1 < 56 → 1 ≤ k1 → (nI k1) - (nI k1) / (64 : Int32) * (64 : Int32) = nI (k1 % 64) := by decide +kernel
set_option maxHeartbeats 4000000 in
set_option maxRecDepth 100000 in
theorem ax_c_M_close_1 : ∀ k1 : Nat, k1 < 56 → 1 ≤ k1 → ¬ (nI (k1 % 64)) = (56 : Int32) := by decide +kernel
set_option maxHeartbeats 4000000 in
set_option maxRecDepth 100000 in
theorem ax_c_M_close_2 : ∀ k1 : Nat, k1 < 56 → 1 ≤ k1 → 0 &&& 255 = tM k1 := by decide +kernel
set_option maxHeartbeats 4000000 in
set_option maxRecDepth 100000 in
theorem c_M_close (l : Launch) (D : va_G) (y : Nat → ClassId) (sz : Nat) (h0 : Nat) (ms : Nat) (w1 : Value) (w2 : Value) (w3 : Value) (w4 : Value) (w5 : Value) (w6 : Value) (w7 : Value) (w8 : Value) (w9 : Value) (w10 : Value) (w11 : Value) (w12 : Value) (w13 : Value) (w14 : Value) (w15 : Value) (w16 : Value) (w17 : Value) (w18 : Value) (w19 : Value) (w20 : Value) (w21 : Value) (w22 : Value) (w23 : Value) (w24 : Value) (w25 : Value) (w26 : Value) (w27 : Value) (w28 : Value) (w29 : Value) (w30 : Value) (w31 : Value) (w32 : Value) (w33 : Value) (w34 : Value) (w35 : Value) (w36 : Value) (w37 : Value) (w38 : Value) (w39 : Value) (w40 : Value) (w41 : Value) (w42 : Value) (w43 : Value) (w44 : Value) (w45 : Value) (w46 : Value) (w47 : Value) (w48 : Value) (w49 : Value) (w50 : Value) (w51 : Value) (w52 : Value) (w53 : Value) (w54 : Value) (w55 : Value) (w56 : Value) (w57 : Value) (w58 : Value) (w59 : Value) (w60 : Value) (w61 : Value) (w62 : Value) (f : Nat → Int32) : Met l yX12_close wz_c_M_close ({ frames := 2, cells := 0, slots := 0, locals := 45 }) (va_Pc [.ref h0] (zB D y [(h0, .inr (16, [w1, w2, w3, w4, w5, w6, w7, w8, w9, w10, w11, w12, w13, w14, .int (nI 0), .ref ms, w15, w16, w17, w18, w19, w20, w21, w22, w23, w24, w25, w26, w27, w28, w29, w30, w31, w32, w33, w34, w35, w36, w37, w38, w39, w40, w41, w42, w43, w44, w45, w46, w47, w48, w49, w50, w51, w52, w53, w54, w55, w56, w57, w58, w59, w60, w61, w62])), (ms, .inl (y 1, 30000, .inl (zf tM 0 f)))] sz [] [] [] [])) (va_Qi (fun (r : Int32) (_ : Unit) => r = 1) (fun _ t => va_P D vwCl [(h0, .inr (16, [w1, w2, w3, w4, w5, w6, w7, w8, w9, w10, w11, w12, w13, w14, .int (nI 64), .ref ms, w15, w16, w17, w18, w19, w20, w21, w22, w23, w24, w25, w26, w27, w28, w29, w30, w31, w32, w33, w34, w35, w36, w37, w38, w39, w40, w41, w42, w43, w44, w45, w46, w47, w48, w49, w50, w51, w52, w53, w54, w55, w56, w57, w58, w59, w60, w61, w62])), (ms, .inl (y 1, 30000, .inl (zf tM 64 f)))] t.heap ∧ va_D (va_A [(h0, .inr (16, [w1, w2, w3, w4, w5, w6, w7, w8, w9, w10, w11, w12, w13, w14, .int (nI 0), .ref ms, w15, w16, w17, w18, w19, w20, w21, w22, w23, w24, w25, w26, w27, w28, w29, w30, w31, w32, w33, w34, w35, w36, w37, w38, w39, w40, w41, w42, w43, w44, w45, w46, w47, w48, w49, w50, w51, w52, w53, w54, w55, w56, w57, w58, w59, w60, w61, w62])), (ms, .inl (y 1, 30000, .inl (zf tM 0 f)))] sz) [(h0, .inr (16, [w1, w2, w3, w4, w5, w6, w7, w8, w9, w10, w11, w12, w13, w14, .int (nI 64), .ref ms, w15, w16, w17, w18, w19, w20, w21, w22, w23, w24, w25, w26, w27, w28, w29, w30, w31, w32, w33, w34, w35, w36, w37, w38, w39, w40, w41, w42, w43, w44, w45, w46, w47, w48, w49, w50, w51, w52, w53, w54, w55, w56, w57, w58, w59, w60, w61, w62])), (ms, .inl (y 1, 30000, .inl (zf tM 64 f)))]) (va_A [(h0, .inr (16, [w1, w2, w3, w4, w5, w6, w7, w8, w9, w10, w11, w12, w13, w14, .int (nI 0), .ref ms, w15, w16, w17, w18, w19, w20, w21, w22, w23, w24, w25, w26, w27, w28, w29, w30, w31, w32, w33, w34, w35, w36, w37, w38, w39, w40, w41, w42, w43, w44, w45, w46, w47, w48, w49, w50, w51, w52, w53, w54, w55, w56, w57, w58, w59, w60, w61, w62])), (ms, .inl (y 1, 30000, .inl (zf tM 0 f)))] sz)) 0 0 (va_A [(h0, .inr (16, [w1, w2, w3, w4, w5, w6, w7, w8, w9, w10, w11, w12, w13, w14, .int (nI 0), .ref ms, w15, w16, w17, w18, w19, w20, w21, w22, w23, w24, w25, w26, w27, w28, w29, w30, w31, w32, w33, w34, w35, w36, w37, w38, w39, w40, w41, w42, w43, w44, w45, w46, w47, w48, w49, w50, w51, w52, w53, w54, w55, w56, w57, w58, w59, w60, w61, w62])), (ms, .inl (y 1, 30000, .inl (zf tM 0 f)))] sz) := by
  refine Met.ofW (cc := cX12_close) (maxL := 3) (ret := (some .int)) (by decide) rfl ?_
  intro p e s m args below meth c s₁ B hml hv
  obtain ⟨rfl, hsz, hP, hK, hD0, hN, hE, hO, hT, hG⟩ := hv
  have hx := B.exec
  have hb := B.bytes
  have hr := B.returns
  have hts := atoms_spec (ws := wz_c_M_close) B.pre
  have hown : s.vm.findClass RX12 = some m.cls := findClass_of_methodNamed B.named
  have hlocks := B.notSynchronized
  subst hsz
  have hD := hD0.self (sz := s.heap.size)
  generalize hAe : va_A [(h0, .inr (16, [w1, w2, w3, w4, w5, w6, w7, w8, w9, w10, w11, w12, w13, w14, .int (nI 0), .ref ms, w15, w16, w17, w18, w19, w20, w21, w22, w23, w24, w25, w26, w27, w28, w29, w30, w31, w32, w33, w34, w35, w36, w37, w38, w39, w40, w41, w42, w43, w44, w45, w46, w47, w48, w49, w50, w51, w52, w53, w54, w55, w56, w57, w58, w59, w60, w61, w62])), (ms, .inl (y 1, 30000, .inl (zf tM 0 f)))] s.heap.size = A at hD hE hT hG ⊢
  have hA : ∀ q : Nat, s.heap.size ≤ q → A q := fun q h => by rw [← hAe]; exact Or.inr h
  have hS : va_S A s.heap s.heap [] := va_S.rf
  have hl := lv_entry ([.ref h0]) (n := 3) (Nat.le_of_ble_eq_true rfl)
  rw [lg_entry_eq]
  generalize (lg_sl ([.ref h0]) ++ List.replicate (3 - (lg_sl ([.ref h0])).length) Slot.unset).toArray = ls at hl ⊢
  have hl : lv_has ls 3 [(0, .ref h0)] := hl
  refine lv_ldc2 (v := 8) hx hb hown (hts (.constantLong RX12 100 8) (by decide +kernel)) dX12_close_0 ?_
  refine lv_aload_n hx hb dX12_close_3 rfl (lv_at hl 0 rfl) ?_
  refine va_get (D := D) (ci := 16) (v := .int (nI 0)) (C := RX12) (T := TX12) (N := 64) hx hb hts (by decide +kernel) hown hK hP 0 rfl rfl 14 (by decide) (hts (.fieldLink RX12 93 "SignetRingModel" "messageSize" "I") (by decide +kernel)) (fun _ h9 => h9) rfl dX12_close_4 ?_
  refine lv_i2l (v := 0) hx hb dX12_close_7 (by decide +kernel) ?_
  refine lv_lmul hx hb dX12_close_8 ?_
  refine lv_topl (fun v1 ev1 => ?_)
  have ev1 : v1 = 0 := ev1.trans (by decide +kernel)
  subst ev1
  refine lv_lstore_n (lv' := [(1, .long 0), (0, .ref h0)]) hx hb dX12_close_9 rfl hl (by decide) rfl (fun ls hl => ?_)
  refine lv_aload_n hx hb dX12_close_10 rfl (lv_at hl 1 rfl) ?_
  refine lv_sipush (v := 128) hx hb dX12_close_11 (by decide) ?_
  have hPc := hP.sub (ws' := [(h0, .inr (16, [w1, w2, w3, w4, w5, w6, w7, w8, w9, w10, w11, w12, w13, w14, .int (nI 0), .ref ms, w15, w16, w17, w18, w19, w20, w21, w22, w23, w24, w25, w26, w27, w28, w29, w30, w31, w32, w33, w34, w35, w36, w37, w38, w39, w40, w41, w42, w43, w44, w45, w46, w47, w48, w49, w50, w51, w52, w53, w54, w55, w56, w57, w58, w59, w60, w61, w62])), (ms, .inl (y 1, 30000, .inl (zf tM 0 f)))]) [0, 1] rfl
  have hDc := hD.sub (ws' := [(h0, .inr (16, [w1, w2, w3, w4, w5, w6, w7, w8, w9, w10, w11, w12, w13, w14, .int (nI 0), .ref ms, w15, w16, w17, w18, w19, w20, w21, w22, w23, w24, w25, w26, w27, w28, w29, w30, w31, w32, w33, w34, w35, w36, w37, w38, w39, w40, w41, w42, w43, w44, w45, w46, w47, w48, w49, w50, w51, w52, w53, w54, w55, w56, w57, w58, w59, w60, w61, w62])), (ms, .inl (y 1, 30000, .inl (zf tM 0 f)))]) [0, 1] (by decide) rfl
  have hFc := va_free (wc := [(h0, .inr (16, [w1, w2, w3, w4, w5, w6, w7, w8, w9, w10, w11, w12, w13, w14, .int (nI 0), .ref ms, w15, w16, w17, w18, w19, w20, w21, w22, w23, w24, w25, w26, w27, w28, w29, w30, w31, w32, w33, w34, w35, w36, w37, w38, w39, w40, w41, w42, w43, w44, w45, w46, w47, w48, w49, w50, w51, w52, w53, w54, w55, w56, w57, w58, w59, w60, w61, w62])), (ms, .inl (y 1, 30000, .inl (zf tM 0 f)))]) hD hS hA [0, 1] rfl
  refine va_callv (va_runV (As := [.int 128]) (rest := []) ⟨hx, hb, hml, hown, hts⟩ (c_M_say l D y s.heap.size h0 ms 0 w1 w2 w3 w4 w5 w6 w7 w8 w9 w10 w11 w12 w13 w14 w15 w16 w17 w18 w19 w20 w21 w22 w23 w24 w25 w26 w27 w28 w29 w30 w31 w32 w33 w34 w35 w36 w37 w38 w39 w40 w41 w42 w43 w44 w45 w46 w47 w48 w49 w50 w51 w52 w53 w54 w55 w56 w57 w58 w59 w60 w61 w62 f 128 (by decide) (by decide +kernel)) (cwV 1 hts gv_c_M_close_c_M_say_96 rfl rfl rfl (by decide +kernel) ⟨(Nat.le_of_ble_eq_true rfl), (Nat.le_of_ble_eq_true rfl)⟩) (zB.preV hPc hDc hK hN hE hO hT hG hS hFc (fun _ h => nomatch h) (fun _ h => nomatch h) (fun _ h => nomatch h) (fun _ h => nomatch h) (va_recv hK hPc (ci := 16) (q0 := 0) rfl rfl)) rfl rfl hl.1 rfl (lv_room (Nat.le_of_ble_eq_true rfl)) dX12_close_14 ⟨(Nat.le_of_ble_eq_true rfl), (Nat.le_of_ble_eq_true rfl)⟩) hS (fun q _ h => hFc q h) hFc (fun u t H1 locs ht hvm hw hB hz1 hk1 hS => ?_)
  obtain ⟨hP1, hD1⟩ := hB
  rw [ht] at hP1
  obtain ⟨hP, hD⟩ := va_join (wr := []) (w1 := [(h0, .inr (16, [w1, w2, w3, w4, w5, w6, w7, w8, w9, w10, w11, w12, w13, w14, .int (nI 1), .ref ms, w15, w16, w17, w18, w19, w20, w21, w22, w23, w24, w25, w26, w27, w28, w29, w30, w31, w32, w33, w34, w35, w36, w37, w38, w39, w40, w41, w42, w43, w44, w45, w46, w47, w48, w49, w50, w51, w52, w53, w54, w55, w56, w57, w58, w59, w60, w61, w62])), (ms, .inl (y 1, 30000, .inl (zf tM 1 f)))]) hP hD [0, 1] [] rfl rfl (by decide) (by decide) hk1 hFc hP1 hD1
  generalize H1 = H at hP hS ⊢
  have hP : va_P D vwCl [(h0, .inr (16, [w1, w2, w3, w4, w5, w6, w7, w8, w9, w10, w11, w12, w13, w14, .int (nI 1), .ref ms, w15, w16, w17, w18, w19, w20, w21, w22, w23, w24, w25, w26, w27, w28, w29, w30, w31, w32, w33, w34, w35, w36, w37, w38, w39, w40, w41, w42, w43, w44, w45, w46, w47, w48, w49, w50, w51, w52, w53, w54, w55, w56, w57, w58, w59, w60, w61, w62])), (ms, .inl (y 1, 30000, .inl (zf tM 1 f)))] H := hP
  have hD : va_D A [(h0, .inr (16, [w1, w2, w3, w4, w5, w6, w7, w8, w9, w10, w11, w12, w13, w14, .int (nI 1), .ref ms, w15, w16, w17, w18, w19, w20, w21, w22, w23, w24, w25, w26, w27, w28, w29, w30, w31, w32, w33, w34, w35, w36, w37, w38, w39, w40, w41, w42, w43, w44, w45, w46, w47, w48, w49, w50, w51, w52, w53, w54, w55, w56, w57, w58, w59, w60, w61, w62])), (ms, .inl (y 1, 30000, .inl (zf tM 1 f)))] := hD
  have hl : lv_has ls 3 [(1, .long 0), (0, .ref h0)] := lv_sub hl [0, 1] rfl
  refine zz_loop (I := fun (k1 : Nat) (ls : Array Slot) (H : Heap) (locs : List Loc) => va_P D vwCl [(h0, .inr (16, [w1, w2, w3, w4, w5, w6, w7, w8, w9, w10, w11, w12, w13, w14, .int (nI k1), .ref ms, w15, w16, w17, w18, w19, w20, w21, w22, w23, w24, w25, w26, w27, w28, w29, w30, w31, w32, w33, w34, w35, w36, w37, w38, w39, w40, w41, w42, w43, w44, w45, w46, w47, w48, w49, w50, w51, w52, w53, w54, w55, w56, w57, w58, w59, w60, w61, w62])), (ms, .inl (y 1, 30000, .inl (zf tM k1 f)))] H ∧ va_D A [(h0, .inr (16, [w1, w2, w3, w4, w5, w6, w7, w8, w9, w10, w11, w12, w13, w14, .int (nI k1), .ref ms, w15, w16, w17, w18, w19, w20, w21, w22, w23, w24, w25, w26, w27, w28, w29, w30, w31, w32, w33, w34, w35, w36, w37, w38, w39, w40, w41, w42, w43, w44, w45, w46, w47, w48, w49, w50, w51, w52, w53, w54, w55, w56, w57, w58, w59, w60, w61, w62])), (ms, .inl (y 1, 30000, .inl (zf tM k1 f)))] ∧ va_S A s.heap H locs ∧ lv_has ls 3 [(1, .long 0), (0, .ref h0)]) 1 56 (by decide) ⟨hP, hD, hS, hl⟩ (fun k1 ls H locs hk10 hk11 hI ih => ?_) (fun ls H locs hI => ?_)
  · obtain ⟨hP, hD, hS, hl⟩ := hI
    have hl : lv_has ls 3 [(1, .long 0), (0, .ref h0)] := hl
    have hP : va_P D vwCl [(h0, .inr (16, [w1, w2, w3, w4, w5, w6, w7, w8, w9, w10, w11, w12, w13, w14, .int (nI k1), .ref ms, w15, w16, w17, w18, w19, w20, w21, w22, w23, w24, w25, w26, w27, w28, w29, w30, w31, w32, w33, w34, w35, w36, w37, w38, w39, w40, w41, w42, w43, w44, w45, w46, w47, w48, w49, w50, w51, w52, w53, w54, w55, w56, w57, w58, w59, w60, w61, w62])), (ms, .inl (y 1, 30000, .inl (zf tM k1 f)))] H := hP
    have hD : va_D A [(h0, .inr (16, [w1, w2, w3, w4, w5, w6, w7, w8, w9, w10, w11, w12, w13, w14, .int (nI k1), .ref ms, w15, w16, w17, w18, w19, w20, w21, w22, w23, w24, w25, w26, w27, w28, w29, w30, w31, w32, w33, w34, w35, w36, w37, w38, w39, w40, w41, w42, w43, w44, w45, w46, w47, w48, w49, w50, w51, w52, w53, w54, w55, w56, w57, w58, w59, w60, w61, w62])), (ms, .inl (y 1, 30000, .inl (zf tM k1 f)))] := hD
    refine lv_aload_n hx hb dX12_close_17 rfl (lv_at hl 1 rfl) ?_
    refine va_get (D := D) (ci := 16) (v := .int (nI k1)) (C := RX12) (T := TX12) (N := 64) hx hb hts (by decide +kernel) hown hK hP 0 rfl rfl 14 (by decide) (hts (.fieldLink RX12 93 "SignetRingModel" "messageSize" "I") (by decide +kernel)) (fun _ h9 => h9) rfl dX12_close_18 ?_
    refine lv_bipush (v := 64) hx hb dX12_close_21 (by decide) ?_
    refine lv_irem hx hb dX12_close_23 (by decide) ?_
    refine lv_topi (fun v2 ev2 => ?_)
    have ev2 : v2 = nI (k1 % 64) := ev2.trans (ax_c_M_close_0 k1 hk11 hk10)
    subst ev2
    refine lv_bipush (v := 56) hx hb dX12_close_24 (by decide) ?_
    refine lv_icmp_eq (tgt := 37) hx hb dX12_close_26 (by decide) (fun c9 => absurd c9 (ax_c_M_close_1 k1 hk11 hk10)) (fun _ => ?_)
    refine lv_aload_n hx hb dX12_close_29 rfl (lv_at hl 1 rfl) ?_
    refine lv_iconst (v := 0) hx hb dX12_close_30 (by decide) ?_
    have hPc := hP.sub (ws' := [(h0, .inr (16, [w1, w2, w3, w4, w5, w6, w7, w8, w9, w10, w11, w12, w13, w14, .int (nI k1), .ref ms, w15, w16, w17, w18, w19, w20, w21, w22, w23, w24, w25, w26, w27, w28, w29, w30, w31, w32, w33, w34, w35, w36, w37, w38, w39, w40, w41, w42, w43, w44, w45, w46, w47, w48, w49, w50, w51, w52, w53, w54, w55, w56, w57, w58, w59, w60, w61, w62])), (ms, .inl (y 1, 30000, .inl (zf tM k1 f)))]) [0, 1] rfl
    have hDc := hD.sub (ws' := [(h0, .inr (16, [w1, w2, w3, w4, w5, w6, w7, w8, w9, w10, w11, w12, w13, w14, .int (nI k1), .ref ms, w15, w16, w17, w18, w19, w20, w21, w22, w23, w24, w25, w26, w27, w28, w29, w30, w31, w32, w33, w34, w35, w36, w37, w38, w39, w40, w41, w42, w43, w44, w45, w46, w47, w48, w49, w50, w51, w52, w53, w54, w55, w56, w57, w58, w59, w60, w61, w62])), (ms, .inl (y 1, 30000, .inl (zf tM k1 f)))]) [0, 1] (by decide) rfl
    have hFc := va_free (wc := [(h0, .inr (16, [w1, w2, w3, w4, w5, w6, w7, w8, w9, w10, w11, w12, w13, w14, .int (nI k1), .ref ms, w15, w16, w17, w18, w19, w20, w21, w22, w23, w24, w25, w26, w27, w28, w29, w30, w31, w32, w33, w34, w35, w36, w37, w38, w39, w40, w41, w42, w43, w44, w45, w46, w47, w48, w49, w50, w51, w52, w53, w54, w55, w56, w57, w58, w59, w60, w61, w62])), (ms, .inl (y 1, 30000, .inl (zf tM k1 f)))]) hD hS hA [0, 1] rfl
    refine va_callv (va_runV (As := [.int 0]) (rest := []) ⟨hx, hb, hml, hown, hts⟩ (c_M_say l D y H.size h0 ms k1 w1 w2 w3 w4 w5 w6 w7 w8 w9 w10 w11 w12 w13 w14 w15 w16 w17 w18 w19 w20 w21 w22 w23 w24 w25 w26 w27 w28 w29 w30 w31 w32 w33 w34 w35 w36 w37 w38 w39 w40 w41 w42 w43 w44 w45 w46 w47 w48 w49 w50 w51 w52 w53 w54 w55 w56 w57 w58 w59 w60 w61 w62 f 0 (by omega) (ax_c_M_close_2 k1 hk11 hk10)) (cwV 1 hts gv_c_M_close_c_M_say_96 rfl rfl rfl (by decide +kernel) ⟨(Nat.le_of_ble_eq_true rfl), (Nat.le_of_ble_eq_true rfl)⟩) (zB.preV hPc hDc hK hN hE hO hT hG hS hFc (fun _ h => nomatch h) (fun _ h => nomatch h) (fun _ h => nomatch h) (fun _ h => nomatch h) (va_recv hK hPc (ci := 16) (q0 := 0) rfl rfl)) rfl rfl hl.1 rfl (lv_room (Nat.le_of_ble_eq_true rfl)) dX12_close_31 ⟨(Nat.le_of_ble_eq_true rfl), (Nat.le_of_ble_eq_true rfl)⟩) hS (fun q _ h => hFc q h) hFc (fun u t H1 locs ht hvm hw hB hz1 hk1 hS => ?_)
    obtain ⟨hP1, hD1⟩ := hB
    rw [ht] at hP1
    obtain ⟨hP, hD⟩ := va_join (wr := []) (w1 := [(h0, .inr (16, [w1, w2, w3, w4, w5, w6, w7, w8, w9, w10, w11, w12, w13, w14, .int (nI (k1 + 1)), .ref ms, w15, w16, w17, w18, w19, w20, w21, w22, w23, w24, w25, w26, w27, w28, w29, w30, w31, w32, w33, w34, w35, w36, w37, w38, w39, w40, w41, w42, w43, w44, w45, w46, w47, w48, w49, w50, w51, w52, w53, w54, w55, w56, w57, w58, w59, w60, w61, w62])), (ms, .inl (y 1, 30000, .inl (zf tM (k1 + 1) f)))]) hP hD [0, 1] [] rfl rfl (by decide) (by decide) hk1 hFc hP1 hD1
    generalize H1 = H at hP hS ⊢
    have hP : va_P D vwCl [(h0, .inr (16, [w1, w2, w3, w4, w5, w6, w7, w8, w9, w10, w11, w12, w13, w14, .int (nI (k1 + 1)), .ref ms, w15, w16, w17, w18, w19, w20, w21, w22, w23, w24, w25, w26, w27, w28, w29, w30, w31, w32, w33, w34, w35, w36, w37, w38, w39, w40, w41, w42, w43, w44, w45, w46, w47, w48, w49, w50, w51, w52, w53, w54, w55, w56, w57, w58, w59, w60, w61, w62])), (ms, .inl (y 1, 30000, .inl (zf tM (k1 + 1) f)))] H := hP
    have hD : va_D A [(h0, .inr (16, [w1, w2, w3, w4, w5, w6, w7, w8, w9, w10, w11, w12, w13, w14, .int (nI (k1 + 1)), .ref ms, w15, w16, w17, w18, w19, w20, w21, w22, w23, w24, w25, w26, w27, w28, w29, w30, w31, w32, w33, w34, w35, w36, w37, w38, w39, w40, w41, w42, w43, w44, w45, w46, w47, w48, w49, w50, w51, w52, w53, w54, w55, w56, w57, w58, w59, w60, w61, w62])), (ms, .inl (y 1, 30000, .inl (zf tM (k1 + 1) f)))] := hD
    refine lv_goto (tgt := 17) hx hb dX12_close_34 (by decide) ?_
    exact ih ls H locs ⟨hP, hD, hS, lv_sub hl [0, 1] rfl⟩
  · obtain ⟨hP, hD, hS, hl⟩ := hI
    have hl : lv_has ls 3 [(1, .long 0), (0, .ref h0)] := hl
    have hP : va_P D vwCl [(h0, .inr (16, [w1, w2, w3, w4, w5, w6, w7, w8, w9, w10, w11, w12, w13, w14, .int (nI 56), .ref ms, w15, w16, w17, w18, w19, w20, w21, w22, w23, w24, w25, w26, w27, w28, w29, w30, w31, w32, w33, w34, w35, w36, w37, w38, w39, w40, w41, w42, w43, w44, w45, w46, w47, w48, w49, w50, w51, w52, w53, w54, w55, w56, w57, w58, w59, w60, w61, w62])), (ms, .inl (y 1, 30000, .inl (zf tM 56 f)))] H := hP
    have hD : va_D A [(h0, .inr (16, [w1, w2, w3, w4, w5, w6, w7, w8, w9, w10, w11, w12, w13, w14, .int (nI 56), .ref ms, w15, w16, w17, w18, w19, w20, w21, w22, w23, w24, w25, w26, w27, w28, w29, w30, w31, w32, w33, w34, w35, w36, w37, w38, w39, w40, w41, w42, w43, w44, w45, w46, w47, w48, w49, w50, w51, w52, w53, w54, w55, w56, w57, w58, w59, w60, w61, w62])), (ms, .inl (y 1, 30000, .inl (zf tM 56 f)))] := hD
    refine lv_aload_n hx hb dX12_close_17 rfl (lv_at hl 1 rfl) ?_
    refine va_get (D := D) (ci := 16) (v := .int (nI 56)) (C := RX12) (T := TX12) (N := 64) hx hb hts (by decide +kernel) hown hK hP 0 rfl rfl 14 (by decide) (hts (.fieldLink RX12 93 "SignetRingModel" "messageSize" "I") (by decide +kernel)) (fun _ h9 => h9) rfl dX12_close_18 ?_
    refine lv_bipush (v := 64) hx hb dX12_close_21 (by decide) ?_
    refine lv_irem hx hb dX12_close_23 (by decide) ?_
    refine lv_topi (fun v3 ev3 => ?_)
    have ev3 : v3 = 56 := ev3.trans (by decide +kernel)
    subst ev3
    refine lv_bipush (v := 56) hx hb dX12_close_24 (by decide) ?_
    refine lv_icmp_eq (tgt := 37) hx hb dX12_close_26 (by decide) (fun _ => ?_) (fun c9 => absurd (by decide) c9)
    refine lv_aload_n hx hb dX12_close_37 rfl (lv_at hl 1 rfl) ?_
    refine lv_lload_n hx hb dX12_close_38 rfl (lv_at hl 0 rfl) ?_
    refine lv_bipush (v := 8) hx hb dX12_close_39 (by decide) ?_
    have hPc := hP.sub (ws' := [(h0, .inr (16, [w1, w2, w3, w4, w5, w6, w7, w8, w9, w10, w11, w12, w13, w14, .int (nI 56), .ref ms, w15, w16, w17, w18, w19, w20, w21, w22, w23, w24, w25, w26, w27, w28, w29, w30, w31, w32, w33, w34, w35, w36, w37, w38, w39, w40, w41, w42, w43, w44, w45, w46, w47, w48, w49, w50, w51, w52, w53, w54, w55, w56, w57, w58, w59, w60, w61, w62])), (ms, .inl (y 1, 30000, .inl (zf tM 56 f)))]) [0, 1] rfl
    have hDc := hD.sub (ws' := [(h0, .inr (16, [w1, w2, w3, w4, w5, w6, w7, w8, w9, w10, w11, w12, w13, w14, .int (nI 56), .ref ms, w15, w16, w17, w18, w19, w20, w21, w22, w23, w24, w25, w26, w27, w28, w29, w30, w31, w32, w33, w34, w35, w36, w37, w38, w39, w40, w41, w42, w43, w44, w45, w46, w47, w48, w49, w50, w51, w52, w53, w54, w55, w56, w57, w58, w59, w60, w61, w62])), (ms, .inl (y 1, 30000, .inl (zf tM 56 f)))]) [0, 1] (by decide) rfl
    have hFc := va_free (wc := [(h0, .inr (16, [w1, w2, w3, w4, w5, w6, w7, w8, w9, w10, w11, w12, w13, w14, .int (nI 56), .ref ms, w15, w16, w17, w18, w19, w20, w21, w22, w23, w24, w25, w26, w27, w28, w29, w30, w31, w32, w33, w34, w35, w36, w37, w38, w39, w40, w41, w42, w43, w44, w45, w46, w47, w48, w49, w50, w51, w52, w53, w54, w55, w56, w57, w58, w59, w60, w61, w62])), (ms, .inl (y 1, 30000, .inl (zf tM 56 f)))]) hD hS hA [0, 1] rfl
    refine va_callv (va_runV (As := [.long 0, .int 8]) (rest := []) ⟨hx, hb, hml, hown, hts⟩ (c_M_sayNumber l D y H.size h0 ms w1 w2 w3 w4 w5 w6 w7 w8 w9 w10 w11 w12 w13 w14 w15 w16 w17 w18 w19 w20 w21 w22 w23 w24 w25 w26 w27 w28 w29 w30 w31 w32 w33 w34 w35 w36 w37 w38 w39 w40 w41 w42 w43 w44 w45 w46 w47 w48 w49 w50 w51 w52 w53 w54 w55 w56 w57 w58 w59 w60 w61 w62 f) (cwV 2 hts gv_c_M_close_c_M_sayNumber_102 rfl rfl rfl (by decide +kernel) ⟨(Nat.le_of_ble_eq_true rfl), (Nat.le_of_ble_eq_true rfl)⟩) (zB.preV hPc hDc hK hN hE hO hT hG hS hFc (fun _ h => nomatch h) (fun _ h => nomatch h) (fun _ h => nomatch h) (fun _ h => nomatch h) (va_recv hK hPc (ci := 16) (q0 := 0) rfl rfl)) rfl rfl hl.1 rfl (lv_room (Nat.le_of_ble_eq_true rfl)) dX12_close_41 ⟨(Nat.le_of_ble_eq_true rfl), (Nat.le_of_ble_eq_true rfl)⟩) hS (fun q _ h => hFc q h) hFc (fun u t H1 locs ht hvm hw hB hz1 hk1 hS => ?_)
    obtain ⟨hP1, hD1⟩ := hB
    rw [ht] at hP1
    obtain ⟨hP, hD⟩ := va_join (wr := []) (w1 := [(h0, .inr (16, [w1, w2, w3, w4, w5, w6, w7, w8, w9, w10, w11, w12, w13, w14, .int (nI 64), .ref ms, w15, w16, w17, w18, w19, w20, w21, w22, w23, w24, w25, w26, w27, w28, w29, w30, w31, w32, w33, w34, w35, w36, w37, w38, w39, w40, w41, w42, w43, w44, w45, w46, w47, w48, w49, w50, w51, w52, w53, w54, w55, w56, w57, w58, w59, w60, w61, w62])), (ms, .inl (y 1, 30000, .inl (zf tM 64 f)))]) hP hD [0, 1] [] rfl rfl (by decide) (by decide) hk1 hFc hP1 hD1
    generalize H1 = H at hP hS ⊢
    have hP : va_P D vwCl [(h0, .inr (16, [w1, w2, w3, w4, w5, w6, w7, w8, w9, w10, w11, w12, w13, w14, .int (nI 64), .ref ms, w15, w16, w17, w18, w19, w20, w21, w22, w23, w24, w25, w26, w27, w28, w29, w30, w31, w32, w33, w34, w35, w36, w37, w38, w39, w40, w41, w42, w43, w44, w45, w46, w47, w48, w49, w50, w51, w52, w53, w54, w55, w56, w57, w58, w59, w60, w61, w62])), (ms, .inl (y 1, 30000, .inl (zf tM 64 f)))] H := hP
    have hD : va_D A [(h0, .inr (16, [w1, w2, w3, w4, w5, w6, w7, w8, w9, w10, w11, w12, w13, w14, .int (nI 64), .ref ms, w15, w16, w17, w18, w19, w20, w21, w22, w23, w24, w25, w26, w27, w28, w29, w30, w31, w32, w33, w34, w35, w36, w37, w38, w39, w40, w41, w42, w43, w44, w45, w46, w47, w48, w49, w50, w51, w52, w53, w54, w55, w56, w57, w58, w59, w60, w61, w62])), (ms, .inl (y 1, 30000, .inl (zf tM 64 f)))] := hD
    refine lv_aload_n hx hb dX12_close_44 rfl (lv_at hl 1 rfl) ?_
    refine va_get (D := D) (ci := 16) (v := .int (nI 64)) (C := RX12) (T := TX12) (N := 64) hx hb hts (by decide +kernel) hown hK hP 0 rfl rfl 14 (by decide) (hts (.fieldLink RX12 93 "SignetRingModel" "messageSize" "I") (by decide +kernel)) (fun _ h9 => h9) rfl dX12_close_45 ?_
    refine lv_bipush (v := 64) hx hb dX12_close_48 (by decide) ?_
    refine lv_idiv hx hb dX12_close_50 (by decide) ?_
    refine lv_topi (fun v4 ev4 => ?_)
    have ev4 : v4 = 1 := ev4.trans (by decide +kernel)
    subst ev4
    have hP9 := hP.sub (ws' := [(h0, .inr (16, [w1, w2, w3, w4, w5, w6, w7, w8, w9, w10, w11, w12, w13, w14, .int (nI 64), .ref ms, w15, w16, w17, w18, w19, w20, w21, w22, w23, w24, w25, w26, w27, w28, w29, w30, w31, w32, w33, w34, w35, w36, w37, w38, w39, w40, w41, w42, w43, w44, w45, w46, w47, w48, w49, w50, w51, w52, w53, w54, w55, w56, w57, w58, w59, w60, w61, w62])), (ms, .inl (y 1, 30000, .inl (zf tM 64 f)))]) [0, 1] rfl
    have hD9 := hD.sub (ws' := [(h0, .inr (16, [w1, w2, w3, w4, w5, w6, w7, w8, w9, w10, w11, w12, w13, w14, .int (nI 64), .ref ms, w15, w16, w17, w18, w19, w20, w21, w22, w23, w24, w25, w26, w27, w28, w29, w30, w31, w32, w33, w34, w35, w36, w37, w38, w39, w40, w41, w42, w43, w44, w45, w46, w47, w48, w49, w50, w51, w52, w53, w54, w55, w56, w57, w58, w59, w60, w61, w62])), (ms, .inl (y 1, 30000, .inl (zf tM 64 f)))]) [0, 1] (by decide) rfl
    refine W.widen (k := 0) (n := 0) (Nat.le_of_ble_eq_true rfl) (Nat.le_of_ble_eq_true rfl) ?_
    exact W.iret (v := 1) hx hb hr (fun t ht hW => ⟨⟨1, (), rfl, rfl, by rw [ht]; exact hP9, hD9⟩, hS.F ht⟩) hS.2.2 dX12_close_51
def wz_c_M_number : List Cond := .code yX12_number cX12_number 6 (some .long) :: ([.constantLong RX12 82 256] ++ ([]))
set_option maxHeartbeats 4000000 in
set_option maxRecDepth 100000 in
theorem ax_c_M_number_0 : ∀ j : Nat, j < 16 → 0 ≤ j → (nI (4 * j)) + (0 : Int32) = nI ((4 * j) + 0) := by decide +kernel
set_option maxHeartbeats 4000000 in
set_option maxRecDepth 100000 in
theorem ax_c_M_number_1 : ∀ j : Nat, j < 16 → 0 ≤ j → (nI (4 * j)) + (1 : Int32) = nI ((4 * j) + 1) := by decide +kernel
set_option maxHeartbeats 4000000 in
set_option maxRecDepth 100000 in
theorem ax_c_M_number_2 : ∀ j : Nat, j < 16 → 0 ≤ j → (nI (4 * j)) + (2 : Int32) = nI ((4 * j) + 2) := by decide +kernel
set_option maxHeartbeats 4000000 in
set_option maxRecDepth 100000 in
theorem ax_c_M_number_3 : ∀ j : Nat, j < 16 → 0 ≤ j → (nI (4 * j)) + (3 : Int32) = nI ((4 * j) + 3) := by decide +kernel
set_option maxHeartbeats 4000000 in
set_option maxRecDepth 100000 in
theorem c_M_number (l : Launch) (D : va_G) (y : Nat → ClassId) (sz : Nat) (h0 : Nat) (j : Nat) (f : Nat → Int32) (hj : j < 16) : Met l yX12_number wz_c_M_number ({ frames := 0, cells := 0, slots := 0, locals := 0 }) (va_Pc [.ref h0, .int (nI (4 * j)), .int 4] (zB D y [(h0, .inl (y 1, 30000, .inl (zf tM 64 f)))] sz [] [] [] [])) (va_Ql (fun (r : Int64) (_ : Unit) => r = (((((((0 : Int64) + ((tM ((4 * j) + 0)).toInt64)) * (256 : Int64)) + ((tM ((4 * j) + 1)).toInt64)) * (256 : Int64)) + ((tM ((4 * j) + 2)).toInt64)) * (256 : Int64)) + ((tM ((4 * j) + 3)).toInt64)) (fun _ t => va_P D vwCl [(h0, .inl (y 1, 30000, .inl (zf tM 64 f)))] t.heap ∧ va_D (va_A [(h0, .inl (y 1, 30000, .inl (zf tM 64 f)))] sz) [(h0, .inl (y 1, 30000, .inl (zf tM 64 f)))]) (va_A [(h0, .inl (y 1, 30000, .inl (zf tM 64 f)))] sz)) 0 0 (va_A [(h0, .inl (y 1, 30000, .inl (zf tM 64 f)))] sz) := by
  refine Met.ofW (cc := cX12_number) (maxL := 6) (ret := (some .long)) (by decide) rfl ?_
  intro p e s m args below meth c s₁ B hml hv
  obtain ⟨rfl, hsz, hP, hK, hD0, hN, hE, hO, hT, hG⟩ := hv
  have hx := B.exec
  have hb := B.bytes
  have hr := B.returns
  have hts := atoms_spec (ws := wz_c_M_number) B.pre
  have hown : s.vm.findClass RX12 = some m.cls := findClass_of_methodNamed B.named
  have hlocks := B.notSynchronized
  subst hsz
  have hD := hD0.self (sz := s.heap.size)
  generalize hAe : va_A [(h0, .inl (y 1, 30000, .inl (zf tM 64 f)))] s.heap.size = A at hD hE hT hG ⊢
  have hA : ∀ q : Nat, s.heap.size ≤ q → A q := fun q h => by rw [← hAe]; exact Or.inr h
  have hS : va_S A s.heap s.heap [] := va_S.rf
  have hl := lv_entry ([.ref h0, .int (nI (4 * j)), .int 4]) (n := 6) (Nat.le_of_ble_eq_true rfl)
  rw [lg_entry_eq]
  generalize (lg_sl ([.ref h0, .int (nI (4 * j)), .int 4]) ++ List.replicate (6 - (lg_sl ([.ref h0, .int (nI (4 * j)), .int 4])).length) Slot.unset).toArray = ls at hl ⊢
  have hl : lv_has ls 6 [(0, .ref h0), (1, .int (nI (4 * j))), (2, .int 4)] := hl
  refine lv_lconst (v := 0) hx hb dX12_number_0 (by decide) ?_
  refine lv_lstore_n (lv' := [(3, .long 0), (0, .ref h0), (1, .int (nI (4 * j))), (2, .int 4)]) hx hb dX12_number_1 rfl hl (by decide) rfl (fun ls hl => ?_)
  refine lv_iconst (v := 0) hx hb dX12_number_2 (by decide) ?_
  refine lv_istore (lv' := [(5, .int 0), (3, .long 0), (0, .ref h0), (1, .int (nI (4 * j))), (2, .int 4)]) hx hb dX12_number_3 hl (by decide) rfl (fun ls hl => ?_)
  refine lv_iload hx hb dX12_number_5 (lv_at hl 0 rfl) ?_
  refine lv_iload_n hx hb dX12_number_7 rfl (lv_at hl 4 rfl) ?_
  refine lv_icmp_ge (tgt := 31) hx hb dX12_number_8 (by decide) (fun c9 => absurd c9 (by decide)) (fun _ => ?_)
  refine lv_lload_n hx hb dX12_number_11 rfl (lv_at hl 1 rfl) ?_
  refine lv_ldc2 (v := 256) hx hb hown (hts (.constantLong RX12 82 256) (by decide +kernel)) dX12_number_12 ?_
  refine lv_lmul hx hb dX12_number_15 ?_
  refine lv_topl (fun v1 ev1 => ?_)
  have ev1 : v1 = 0 := ev1.trans (by decide +kernel)
  subst ev1
  refine lv_aload_n hx hb dX12_number_16 rfl (lv_at hl 2 rfl) ?_
  refine lv_iload_n hx hb dX12_number_17 rfl (lv_at hl 3 rfl) ?_
  refine lv_iload hx hb dX12_number_18 (lv_at hl 0 rfl) ?_
  refine lv_iadd hx hb dX12_number_20 ?_
  refine lv_topi (fun v2 ev2 => ?_)
  have ev2 : v2 = nI ((4 * j) + 0) := ev2.trans (ax_c_M_number_0 j hj (Nat.zero_le j))
  subst ev2
  refine va_iald hx hb hK hP 0 1 rfl rfl (vp_in_nI (by omega) (by decide)) dX12_number_21 ?_
  refine lv_topi (fun v3 ev3 => ?_)
  have ev3 : v3 = tM ((4 * j) + 0) := ev3.trans (zf_rd (j := ((4 * j) + 0)) (by omega) (by omega))
  subst ev3
  refine lv_i2l (v := (tM ((4 * j) + 0)).toInt64) hx hb dX12_number_22 rfl ?_
  refine lv_ladd hx hb dX12_number_23 ?_
  refine lv_lstore_n (lv' := [(3, .long ((0 : Int64) + ((tM ((4 * j) + 0)).toInt64))), (5, .int 0), (0, .ref h0), (1, .int (nI (4 * j))), (2, .int 4)]) hx hb dX12_number_24 rfl hl (by decide) rfl (fun ls hl => ?_)
  refine lv_iinc (v := 1) (lv' := [(5, .int 1), (3, .long ((0 : Int64) + ((tM ((4 * j) + 0)).toInt64))), (0, .ref h0), (1, .int (nI (4 * j))), (2, .int 4)]) hx hb dX12_number_25 hl (k := 1) rfl (by decide) (by decide) rfl (fun ls hl => ?_)
  refine lv_goto (tgt := 5) hx hb dX12_number_28 (by decide) ?_
  refine lv_iload hx hb dX12_number_5 (lv_at hl 0 rfl) ?_
  refine lv_iload_n hx hb dX12_number_7 rfl (lv_at hl 4 rfl) ?_
  refine lv_icmp_ge (tgt := 31) hx hb dX12_number_8 (by decide) (fun c9 => absurd c9 (by decide)) (fun _ => ?_)
  refine lv_lload_n hx hb dX12_number_11 rfl (lv_at hl 1 rfl) ?_
  refine lv_ldc2 (v := 256) hx hb hown (hts (.constantLong RX12 82 256) (by decide +kernel)) dX12_number_12 ?_
  refine lv_lmul hx hb dX12_number_15 ?_
  refine lv_aload_n hx hb dX12_number_16 rfl (lv_at hl 2 rfl) ?_
  refine lv_iload_n hx hb dX12_number_17 rfl (lv_at hl 3 rfl) ?_
  refine lv_iload hx hb dX12_number_18 (lv_at hl 0 rfl) ?_
  refine lv_iadd hx hb dX12_number_20 ?_
  refine lv_topi (fun v4 ev4 => ?_)
  have ev4 : v4 = nI ((4 * j) + 1) := ev4.trans (ax_c_M_number_1 j hj (Nat.zero_le j))
  subst ev4
  refine va_iald hx hb hK hP 0 1 rfl rfl (vp_in_nI (by omega) (by decide)) dX12_number_21 ?_
  refine lv_topi (fun v5 ev5 => ?_)
  have ev5 : v5 = tM ((4 * j) + 1) := ev5.trans (zf_rd (j := ((4 * j) + 1)) (by omega) (by omega))
  subst ev5
  refine lv_i2l (v := (tM ((4 * j) + 1)).toInt64) hx hb dX12_number_22 rfl ?_
  refine lv_ladd hx hb dX12_number_23 ?_
  refine lv_lstore_n (lv' := [(3, .long ((((0 : Int64) + ((tM ((4 * j) + 0)).toInt64)) * (256 : Int64)) + ((tM ((4 * j) + 1)).toInt64))), (5, .int 1), (0, .ref h0), (1, .int (nI (4 * j))), (2, .int 4)]) hx hb dX12_number_24 rfl hl (by decide) rfl (fun ls hl => ?_)
  refine lv_iinc (v := 2) (lv' := [(5, .int 2), (3, .long ((((0 : Int64) + ((tM ((4 * j) + 0)).toInt64)) * (256 : Int64)) + ((tM ((4 * j) + 1)).toInt64))), (0, .ref h0), (1, .int (nI (4 * j))), (2, .int 4)]) hx hb dX12_number_25 hl (k := 1) rfl (by decide) (by decide) rfl (fun ls hl => ?_)
  refine lv_goto (tgt := 5) hx hb dX12_number_28 (by decide) ?_
  refine lv_iload hx hb dX12_number_5 (lv_at hl 0 rfl) ?_
  refine lv_iload_n hx hb dX12_number_7 rfl (lv_at hl 4 rfl) ?_
  refine lv_icmp_ge (tgt := 31) hx hb dX12_number_8 (by decide) (fun c9 => absurd c9 (by decide)) (fun _ => ?_)
  refine lv_lload_n hx hb dX12_number_11 rfl (lv_at hl 1 rfl) ?_
  refine lv_ldc2 (v := 256) hx hb hown (hts (.constantLong RX12 82 256) (by decide +kernel)) dX12_number_12 ?_
  refine lv_lmul hx hb dX12_number_15 ?_
  refine lv_aload_n hx hb dX12_number_16 rfl (lv_at hl 2 rfl) ?_
  refine lv_iload_n hx hb dX12_number_17 rfl (lv_at hl 3 rfl) ?_
  refine lv_iload hx hb dX12_number_18 (lv_at hl 0 rfl) ?_
  refine lv_iadd hx hb dX12_number_20 ?_
  refine lv_topi (fun v6 ev6 => ?_)
  have ev6 : v6 = nI ((4 * j) + 2) := ev6.trans (ax_c_M_number_2 j hj (Nat.zero_le j))
  subst ev6
  refine va_iald hx hb hK hP 0 1 rfl rfl (vp_in_nI (by omega) (by decide)) dX12_number_21 ?_
  refine lv_topi (fun v7 ev7 => ?_)
  have ev7 : v7 = tM ((4 * j) + 2) := ev7.trans (zf_rd (j := ((4 * j) + 2)) (by omega) (by omega))
  subst ev7
  refine lv_i2l (v := (tM ((4 * j) + 2)).toInt64) hx hb dX12_number_22 rfl ?_
  refine lv_ladd hx hb dX12_number_23 ?_
  refine lv_lstore_n (lv' := [(3, .long ((((((0 : Int64) + ((tM ((4 * j) + 0)).toInt64)) * (256 : Int64)) + ((tM ((4 * j) + 1)).toInt64)) * (256 : Int64)) + ((tM ((4 * j) + 2)).toInt64))), (5, .int 2), (0, .ref h0), (1, .int (nI (4 * j))), (2, .int 4)]) hx hb dX12_number_24 rfl hl (by decide) rfl (fun ls hl => ?_)
  refine lv_iinc (v := 3) (lv' := [(5, .int 3), (3, .long ((((((0 : Int64) + ((tM ((4 * j) + 0)).toInt64)) * (256 : Int64)) + ((tM ((4 * j) + 1)).toInt64)) * (256 : Int64)) + ((tM ((4 * j) + 2)).toInt64))), (0, .ref h0), (1, .int (nI (4 * j))), (2, .int 4)]) hx hb dX12_number_25 hl (k := 1) rfl (by decide) (by decide) rfl (fun ls hl => ?_)
  refine lv_goto (tgt := 5) hx hb dX12_number_28 (by decide) ?_
  refine lv_iload hx hb dX12_number_5 (lv_at hl 0 rfl) ?_
  refine lv_iload_n hx hb dX12_number_7 rfl (lv_at hl 4 rfl) ?_
  refine lv_icmp_ge (tgt := 31) hx hb dX12_number_8 (by decide) (fun c9 => absurd c9 (by decide)) (fun _ => ?_)
  refine lv_lload_n hx hb dX12_number_11 rfl (lv_at hl 1 rfl) ?_
  refine lv_ldc2 (v := 256) hx hb hown (hts (.constantLong RX12 82 256) (by decide +kernel)) dX12_number_12 ?_
  refine lv_lmul hx hb dX12_number_15 ?_
  refine lv_aload_n hx hb dX12_number_16 rfl (lv_at hl 2 rfl) ?_
  refine lv_iload_n hx hb dX12_number_17 rfl (lv_at hl 3 rfl) ?_
  refine lv_iload hx hb dX12_number_18 (lv_at hl 0 rfl) ?_
  refine lv_iadd hx hb dX12_number_20 ?_
  refine lv_topi (fun v8 ev8 => ?_)
  have ev8 : v8 = nI ((4 * j) + 3) := ev8.trans (ax_c_M_number_3 j hj (Nat.zero_le j))
  subst ev8
  refine va_iald hx hb hK hP 0 1 rfl rfl (vp_in_nI (by omega) (by decide)) dX12_number_21 ?_
  refine lv_topi (fun v9 ev9 => ?_)
  have ev9 : v9 = tM ((4 * j) + 3) := ev9.trans (zf_rd (j := ((4 * j) + 3)) (by omega) (by omega))
  subst ev9
  refine lv_i2l (v := (tM ((4 * j) + 3)).toInt64) hx hb dX12_number_22 rfl ?_
  refine lv_ladd hx hb dX12_number_23 ?_
  refine lv_lstore_n (lv' := [(3, .long ((((((((0 : Int64) + ((tM ((4 * j) + 0)).toInt64)) * (256 : Int64)) + ((tM ((4 * j) + 1)).toInt64)) * (256 : Int64)) + ((tM ((4 * j) + 2)).toInt64)) * (256 : Int64)) + ((tM ((4 * j) + 3)).toInt64))), (5, .int 3), (0, .ref h0), (1, .int (nI (4 * j))), (2, .int 4)]) hx hb dX12_number_24 rfl hl (by decide) rfl (fun ls hl => ?_)
  refine lv_iinc (v := 4) (lv' := [(5, .int 4), (3, .long ((((((((0 : Int64) + ((tM ((4 * j) + 0)).toInt64)) * (256 : Int64)) + ((tM ((4 * j) + 1)).toInt64)) * (256 : Int64)) + ((tM ((4 * j) + 2)).toInt64)) * (256 : Int64)) + ((tM ((4 * j) + 3)).toInt64))), (0, .ref h0), (1, .int (nI (4 * j))), (2, .int 4)]) hx hb dX12_number_25 hl (k := 1) rfl (by decide) (by decide) rfl (fun ls hl => ?_)
  refine lv_goto (tgt := 5) hx hb dX12_number_28 (by decide) ?_
  refine lv_iload hx hb dX12_number_5 (lv_at hl 0 rfl) ?_
  refine lv_iload_n hx hb dX12_number_7 rfl (lv_at hl 4 rfl) ?_
  refine lv_icmp_ge (tgt := 31) hx hb dX12_number_8 (by decide) (fun _ => ?_) (fun c9 => absurd (by decide) c9)
  refine lv_lload_n hx hb dX12_number_31 rfl (lv_at hl 1 rfl) ?_
  have hP9 := hP.sub (ws' := [(h0, .inl (y 1, 30000, .inl (zf tM 64 f)))]) [0] rfl
  have hD9 := hD.sub (ws' := [(h0, .inl (y 1, 30000, .inl (zf tM 64 f)))]) [0] (by decide) rfl
  refine W.widen (k := 0) (n := 0) (Nat.le_of_ble_eq_true rfl) (Nat.le_of_ble_eq_true rfl) ?_
  exact W.lret (v := (((((((0 : Int64) + ((tM ((4 * j) + 0)).toInt64)) * (256 : Int64)) + ((tM ((4 * j) + 1)).toInt64)) * (256 : Int64)) + ((tM ((4 * j) + 2)).toInt64)) * (256 : Int64)) + ((tM ((4 * j) + 3)).toInt64)) hx hb hr (fun t ht hW => ⟨⟨(((((((0 : Int64) + ((tM ((4 * j) + 0)).toInt64)) * (256 : Int64)) + ((tM ((4 * j) + 1)).toInt64)) * (256 : Int64)) + ((tM ((4 * j) + 2)).toInt64)) * (256 : Int64)) + ((tM ((4 * j) + 3)).toInt64), (), rfl, rfl, by rw [ht]; exact hP9, hD9⟩, hS.F ht⟩) hS.2.2 dX12_number_32
def wz_c_M_keep_1_0 : List Cond := .code yX12_keep cX12_keep 4 none :: ([.fieldLink RX12 43 "SignetRingModel" "digest" "[I"] ++ (wsX120 ++ ([])))
set_option maxHeartbeats 4000000 in
set_option maxRecDepth 100000 in
theorem c_M_keep_1_0 (l : Launch) (D : va_G) (y : Nat → ClassId) (sz : Nat) (h0 : Nat) (dg : Nat) (w1 : Value) (w2 : Value) (w3 : Value) (w4 : Value) (w5 : Value) (w6 : Value) (w7 : Value) (w8 : Value) (w9 : Value) (w10 : Value) (w11 : Value) (w12 : Value) (w13 : Value) (w14 : Value) (w15 : Value) (w16 : Value) (w17 : Value) (w18 : Value) (w19 : Value) (w20 : Value) (w21 : Value) (w22 : Value) (w23 : Value) (w24 : Value) (w25 : Value) (w26 : Value) (w27 : Value) (w28 : Value) (w29 : Value) (w30 : Value) (w31 : Value) (w32 : Value) (w33 : Value) (w34 : Value) (w35 : Value) (w36 : Value) (w37 : Value) (w38 : Value) (w39 : Value) (w40 : Value) (w41 : Value) (w42 : Value) (w43 : Value) (w44 : Value) (w45 : Value) (w46 : Value) (w47 : Value) (w48 : Value) (w49 : Value) (w50 : Value) (w51 : Value) (w52 : Value) (w53 : Value) (w54 : Value) (w55 : Value) (w56 : Value) (w57 : Value) (w58 : Value) (w59 : Value) (w60 : Value) (w61 : Value) (w62 : Value) (w63 : Value) (f : Nat → Int32) : Met l yX12_keep wz_c_M_keep_1_0 ({ frames := 0, cells := 0, slots := 0, locals := 0 }) (va_Pc [.ref h0, .int 0, .int (-633756690)] (zB D y [(h0, .inr (16, [w1, w2, w3, w4, w5, w6, w7, w8, w9, w10, w11, w12, w13, w14, w15, w16, .ref dg, w17, w18, w19, w20, w21, w22, w23, w24, w25, w26, w27, w28, w29, w30, w31, w32, w33, w34, w35, w36, w37, w38, w39, w40, w41, w42, w43, w44, w45, w46, w47, w48, w49, w50, w51, w52, w53, w54, w55, w56, w57, w58, w59, w60, w61, w62, w63])), (dg, .inl (y 1, 32, .inl (zf tO1 0 f)))] sz [] [] [] [])) (va_Qv (fun _ : Unit => True) (fun _ t => va_P D vwCl [(h0, .inr (16, [w1, w2, w3, w4, w5, w6, w7, w8, w9, w10, w11, w12, w13, w14, w15, w16, .ref dg, w17, w18, w19, w20, w21, w22, w23, w24, w25, w26, w27, w28, w29, w30, w31, w32, w33, w34, w35, w36, w37, w38, w39, w40, w41, w42, w43, w44, w45, w46, w47, w48, w49, w50, w51, w52, w53, w54, w55, w56, w57, w58, w59, w60, w61, w62, w63])), (dg, .inl (y 1, 32, .inl (zf tO1 4 f)))] t.heap ∧ va_D (va_A [(h0, .inr (16, [w1, w2, w3, w4, w5, w6, w7, w8, w9, w10, w11, w12, w13, w14, w15, w16, .ref dg, w17, w18, w19, w20, w21, w22, w23, w24, w25, w26, w27, w28, w29, w30, w31, w32, w33, w34, w35, w36, w37, w38, w39, w40, w41, w42, w43, w44, w45, w46, w47, w48, w49, w50, w51, w52, w53, w54, w55, w56, w57, w58, w59, w60, w61, w62, w63])), (dg, .inl (y 1, 32, .inl (zf tO1 0 f)))] sz) [(h0, .inr (16, [w1, w2, w3, w4, w5, w6, w7, w8, w9, w10, w11, w12, w13, w14, w15, w16, .ref dg, w17, w18, w19, w20, w21, w22, w23, w24, w25, w26, w27, w28, w29, w30, w31, w32, w33, w34, w35, w36, w37, w38, w39, w40, w41, w42, w43, w44, w45, w46, w47, w48, w49, w50, w51, w52, w53, w54, w55, w56, w57, w58, w59, w60, w61, w62, w63])), (dg, .inl (y 1, 32, .inl (zf tO1 4 f)))]) (va_A [(h0, .inr (16, [w1, w2, w3, w4, w5, w6, w7, w8, w9, w10, w11, w12, w13, w14, w15, w16, .ref dg, w17, w18, w19, w20, w21, w22, w23, w24, w25, w26, w27, w28, w29, w30, w31, w32, w33, w34, w35, w36, w37, w38, w39, w40, w41, w42, w43, w44, w45, w46, w47, w48, w49, w50, w51, w52, w53, w54, w55, w56, w57, w58, w59, w60, w61, w62, w63])), (dg, .inl (y 1, 32, .inl (zf tO1 0 f)))] sz)) 0 0 (va_A [(h0, .inr (16, [w1, w2, w3, w4, w5, w6, w7, w8, w9, w10, w11, w12, w13, w14, w15, w16, .ref dg, w17, w18, w19, w20, w21, w22, w23, w24, w25, w26, w27, w28, w29, w30, w31, w32, w33, w34, w35, w36, w37, w38, w39, w40, w41, w42, w43, w44, w45, w46, w47, w48, w49, w50, w51, w52, w53, w54, w55, w56, w57, w58, w59, w60, w61, w62, w63])), (dg, .inl (y 1, 32, .inl (zf tO1 0 f)))] sz) := by
  refine Met.ofW (cc := cX12_keep) (maxL := 4) (ret := none) (by decide) rfl ?_
  intro p e s m args below meth c s₁ B hml hv
  obtain ⟨rfl, hsz, hP, hK, hD0, hN, hE, hO, hT, hG⟩ := hv
  have hx := B.exec
  have hb := B.bytes
  have hr := B.returns
  have hts := atoms_spec (ws := wz_c_M_keep_1_0) B.pre
  have hown : s.vm.findClass RX12 = some m.cls := findClass_of_methodNamed B.named
  have hlocks := B.notSynchronized
  subst hsz
  have hD := hD0.self (sz := s.heap.size)
  generalize hAe : va_A [(h0, .inr (16, [w1, w2, w3, w4, w5, w6, w7, w8, w9, w10, w11, w12, w13, w14, w15, w16, .ref dg, w17, w18, w19, w20, w21, w22, w23, w24, w25, w26, w27, w28, w29, w30, w31, w32, w33, w34, w35, w36, w37, w38, w39, w40, w41, w42, w43, w44, w45, w46, w47, w48, w49, w50, w51, w52, w53, w54, w55, w56, w57, w58, w59, w60, w61, w62, w63])), (dg, .inl (y 1, 32, .inl (zf tO1 0 f)))] s.heap.size = A at hD hE hT hG ⊢
  have hA : ∀ q : Nat, s.heap.size ≤ q → A q := fun q h => by rw [← hAe]; exact Or.inr h
  have hS : va_S A s.heap s.heap [] := va_S.rf
  have hl := lv_entry ([.ref h0, .int 0, .int (-633756690)]) (n := 4) (Nat.le_of_ble_eq_true rfl)
  rw [lg_entry_eq]
  generalize (lg_sl ([.ref h0, .int 0, .int (-633756690)]) ++ List.replicate (4 - (lg_sl ([.ref h0, .int 0, .int (-633756690)])).length) Slot.unset).toArray = ls at hl ⊢
  have hl : lv_has ls 4 [(0, .ref h0), (1, .int 0), (2, .int (-633756690))] := hl
  refine lv_iconst (v := 0) hx hb dX12_keep_0 (by decide) ?_
  refine lv_istore_n (lv' := [(3, .int 0), (0, .ref h0), (1, .int 0), (2, .int (-633756690))]) hx hb dX12_keep_1 rfl hl (by decide) rfl (fun ls hl => ?_)
  refine lv_iload_n hx hb dX12_keep_2 rfl (lv_at hl 0 rfl) ?_
  refine lv_iconst (v := 4) hx hb dX12_keep_3 (by decide) ?_
  refine lv_icmp_ge (tgt := 36) hx hb dX12_keep_4 (by decide) (fun c9 => absurd c9 (by decide)) (fun _ => ?_)
  refine lv_aload_n hx hb dX12_keep_7 rfl (lv_at hl 1 rfl) ?_
  refine va_get (D := D) (ci := 16) (v := .ref dg) (C := RX12) (T := TX12) (N := 64) hx hb hts (by decide +kernel) hown hK hP 0 rfl rfl 16 (by decide) (hts (.fieldLink RX12 43 "SignetRingModel" "digest" "[I") (by decide +kernel)) (fun _ h9 => h9) rfl dX12_keep_8 ?_
  refine lv_iconst (v := 4) hx hb dX12_keep_11 (by decide) ?_
  refine lv_iload_n hx hb dX12_keep_12 rfl (lv_at hl 2 rfl) ?_
  refine lv_imul hx hb dX12_keep_13 ?_
  refine lv_topi (fun v1 ev1 => ?_)
  have ev1 : v1 = 0 := ev1.trans (by decide +kernel)
  subst ev1
  refine lv_iload_n hx hb dX12_keep_14 rfl (lv_at hl 0 rfl) ?_
  refine lv_iadd hx hb dX12_keep_15 ?_
  refine lv_topi (fun v2 ev2 => ?_)
  have ev2 : v2 = 0 := ev2.trans (by decide +kernel)
  subst ev2
  refine lv_iload_n hx hb dX12_keep_16 rfl (lv_at hl 3 rfl) ?_
  refine lv_bipush (v := 24) hx hb dX12_keep_17 (by decide) ?_
  refine lv_bipush (v := 8) hx hb dX12_keep_19 (by decide) ?_
  refine lv_iload_n hx hb dX12_keep_21 rfl (lv_at hl 0 rfl) ?_
  refine lv_imul hx hb dX12_keep_22 ?_
  refine lv_topi (fun v3 ev3 => ?_)
  have ev3 : v3 = 0 := ev3.trans (by decide +kernel)
  subst ev3
  refine lv_isub hx hb dX12_keep_23 ?_
  refine lv_topi (fun v4 ev4 => ?_)
  have ev4 : v4 = 24 := ev4.trans (by decide +kernel)
  subst ev4
  refine lv_iushr (v := zu (-633756690 : Int32) (24 : Int32)) hx hb dX12_keep_24 rfl ?_
  refine lv_topi (fun v5 ev5 => ?_)
  have ev5 : v5 = 218 := ev5.trans (by decide +kernel)
  subst ev5
  refine lv_sipush (v := 255) hx hb dX12_keep_25 (by decide) ?_
  refine lv_iand hx hb dX12_keep_28 ?_
  refine lv_topi (fun v6 ev6 => ?_)
  have ev6 : v6 = 218 := ev6.trans (by decide +kernel)
  subst ev6
  refine va_iast hx hb hK hP hD hS 1 1 rfl rfl (by unfold vp_in; decide) dX12_keep_29 (fun H locs hP hD hS => ?_)
  have hP : va_P D vwCl [(h0, .inr (16, [w1, w2, w3, w4, w5, w6, w7, w8, w9, w10, w11, w12, w13, w14, w15, w16, .ref dg, w17, w18, w19, w20, w21, w22, w23, w24, w25, w26, w27, w28, w29, w30, w31, w32, w33, w34, w35, w36, w37, w38, w39, w40, w41, w42, w43, w44, w45, w46, w47, w48, w49, w50, w51, w52, w53, w54, w55, w56, w57, w58, w59, w60, w61, w62, w63])), (dg, .inl (y 1, 32, .inl (upd (zf tO1 0 f) (nI 0).toNatClampNeg (218 : Int32))))] H := hP
  have hD : va_D A [(h0, .inr (16, [w1, w2, w3, w4, w5, w6, w7, w8, w9, w10, w11, w12, w13, w14, w15, w16, .ref dg, w17, w18, w19, w20, w21, w22, w23, w24, w25, w26, w27, w28, w29, w30, w31, w32, w33, w34, w35, w36, w37, w38, w39, w40, w41, w42, w43, w44, w45, w46, w47, w48, w49, w50, w51, w52, w53, w54, w55, w56, w57, w58, w59, w60, w61, w62, w63])), (dg, .inl (y 1, 32, .inl (upd (zf tO1 0 f) (nI 0).toNatClampNeg (218 : Int32))))] := hD
  have u7 : upd (zf tO1 0 f) (nI 0).toNatClampNeg (218 : Int32) = zf tO1 1 f := (zf_st (n := 0) (by decide) (by decide +kernel))
  rw [u7] at hP hD
  have hP : va_P D vwCl [(h0, .inr (16, [w1, w2, w3, w4, w5, w6, w7, w8, w9, w10, w11, w12, w13, w14, w15, w16, .ref dg, w17, w18, w19, w20, w21, w22, w23, w24, w25, w26, w27, w28, w29, w30, w31, w32, w33, w34, w35, w36, w37, w38, w39, w40, w41, w42, w43, w44, w45, w46, w47, w48, w49, w50, w51, w52, w53, w54, w55, w56, w57, w58, w59, w60, w61, w62, w63])), (dg, .inl (y 1, 32, .inl (zf tO1 1 f)))] H := hP
  have hD : va_D A [(h0, .inr (16, [w1, w2, w3, w4, w5, w6, w7, w8, w9, w10, w11, w12, w13, w14, w15, w16, .ref dg, w17, w18, w19, w20, w21, w22, w23, w24, w25, w26, w27, w28, w29, w30, w31, w32, w33, w34, w35, w36, w37, w38, w39, w40, w41, w42, w43, w44, w45, w46, w47, w48, w49, w50, w51, w52, w53, w54, w55, w56, w57, w58, w59, w60, w61, w62, w63])), (dg, .inl (y 1, 32, .inl (zf tO1 1 f)))] := hD
  refine lv_iinc (v := 1) (lv' := [(3, .int 1), (0, .ref h0), (1, .int 0), (2, .int (-633756690))]) hx hb dX12_keep_30 hl (k := 0) rfl (by decide) (by decide) rfl (fun ls hl => ?_)
  refine lv_goto (tgt := 2) hx hb dX12_keep_33 (by decide) ?_
  refine lv_iload_n hx hb dX12_keep_2 rfl (lv_at hl 0 rfl) ?_
  refine lv_iconst (v := 4) hx hb dX12_keep_3 (by decide) ?_
  refine lv_icmp_ge (tgt := 36) hx hb dX12_keep_4 (by decide) (fun c9 => absurd c9 (by decide)) (fun _ => ?_)
  refine lv_aload_n hx hb dX12_keep_7 rfl (lv_at hl 1 rfl) ?_
  refine va_get (D := D) (ci := 16) (v := .ref dg) (C := RX12) (T := TX12) (N := 64) hx hb hts (by decide +kernel) hown hK hP 0 rfl rfl 16 (by decide) (hts (.fieldLink RX12 43 "SignetRingModel" "digest" "[I") (by decide +kernel)) (fun _ h9 => h9) rfl dX12_keep_8 ?_
  refine lv_iconst (v := 4) hx hb dX12_keep_11 (by decide) ?_
  refine lv_iload_n hx hb dX12_keep_12 rfl (lv_at hl 2 rfl) ?_
  refine lv_imul hx hb dX12_keep_13 ?_
  refine lv_topi (fun v8 ev8 => ?_)
  have ev8 : v8 = 0 := ev8.trans (by decide +kernel)
  subst ev8
  refine lv_iload_n hx hb dX12_keep_14 rfl (lv_at hl 0 rfl) ?_
  refine lv_iadd hx hb dX12_keep_15 ?_
  refine lv_topi (fun v9 ev9 => ?_)
  have ev9 : v9 = 1 := ev9.trans (by decide +kernel)
  subst ev9
  refine lv_iload_n hx hb dX12_keep_16 rfl (lv_at hl 3 rfl) ?_
  refine lv_bipush (v := 24) hx hb dX12_keep_17 (by decide) ?_
  refine lv_bipush (v := 8) hx hb dX12_keep_19 (by decide) ?_
  refine lv_iload_n hx hb dX12_keep_21 rfl (lv_at hl 0 rfl) ?_
  refine lv_imul hx hb dX12_keep_22 ?_
  refine lv_topi (fun v10 ev10 => ?_)
  have ev10 : v10 = 8 := ev10.trans (by decide +kernel)
  subst ev10
  refine lv_isub hx hb dX12_keep_23 ?_
  refine lv_topi (fun v11 ev11 => ?_)
  have ev11 : v11 = 16 := ev11.trans (by decide +kernel)
  subst ev11
  refine lv_iushr (v := zu (-633756690 : Int32) (16 : Int32)) hx hb dX12_keep_24 rfl ?_
  refine lv_topi (fun v12 ev12 => ?_)
  have ev12 : v12 = 55865 := ev12.trans (by decide +kernel)
  subst ev12
  refine lv_sipush (v := 255) hx hb dX12_keep_25 (by decide) ?_
  refine lv_iand hx hb dX12_keep_28 ?_
  refine lv_topi (fun v13 ev13 => ?_)
  have ev13 : v13 = 57 := ev13.trans (by decide +kernel)
  subst ev13
  refine va_iast hx hb hK hP hD hS 1 1 rfl rfl (by unfold vp_in; decide) dX12_keep_29 (fun H locs hP hD hS => ?_)
  have hP : va_P D vwCl [(h0, .inr (16, [w1, w2, w3, w4, w5, w6, w7, w8, w9, w10, w11, w12, w13, w14, w15, w16, .ref dg, w17, w18, w19, w20, w21, w22, w23, w24, w25, w26, w27, w28, w29, w30, w31, w32, w33, w34, w35, w36, w37, w38, w39, w40, w41, w42, w43, w44, w45, w46, w47, w48, w49, w50, w51, w52, w53, w54, w55, w56, w57, w58, w59, w60, w61, w62, w63])), (dg, .inl (y 1, 32, .inl (upd (zf tO1 1 f) (nI 1).toNatClampNeg (57 : Int32))))] H := hP
  have hD : va_D A [(h0, .inr (16, [w1, w2, w3, w4, w5, w6, w7, w8, w9, w10, w11, w12, w13, w14, w15, w16, .ref dg, w17, w18, w19, w20, w21, w22, w23, w24, w25, w26, w27, w28, w29, w30, w31, w32, w33, w34, w35, w36, w37, w38, w39, w40, w41, w42, w43, w44, w45, w46, w47, w48, w49, w50, w51, w52, w53, w54, w55, w56, w57, w58, w59, w60, w61, w62, w63])), (dg, .inl (y 1, 32, .inl (upd (zf tO1 1 f) (nI 1).toNatClampNeg (57 : Int32))))] := hD
  have u14 : upd (zf tO1 1 f) (nI 1).toNatClampNeg (57 : Int32) = zf tO1 2 f := (zf_st (n := 1) (by decide) (by decide +kernel))
  rw [u14] at hP hD
  have hP : va_P D vwCl [(h0, .inr (16, [w1, w2, w3, w4, w5, w6, w7, w8, w9, w10, w11, w12, w13, w14, w15, w16, .ref dg, w17, w18, w19, w20, w21, w22, w23, w24, w25, w26, w27, w28, w29, w30, w31, w32, w33, w34, w35, w36, w37, w38, w39, w40, w41, w42, w43, w44, w45, w46, w47, w48, w49, w50, w51, w52, w53, w54, w55, w56, w57, w58, w59, w60, w61, w62, w63])), (dg, .inl (y 1, 32, .inl (zf tO1 2 f)))] H := hP
  have hD : va_D A [(h0, .inr (16, [w1, w2, w3, w4, w5, w6, w7, w8, w9, w10, w11, w12, w13, w14, w15, w16, .ref dg, w17, w18, w19, w20, w21, w22, w23, w24, w25, w26, w27, w28, w29, w30, w31, w32, w33, w34, w35, w36, w37, w38, w39, w40, w41, w42, w43, w44, w45, w46, w47, w48, w49, w50, w51, w52, w53, w54, w55, w56, w57, w58, w59, w60, w61, w62, w63])), (dg, .inl (y 1, 32, .inl (zf tO1 2 f)))] := hD
  refine lv_iinc (v := 2) (lv' := [(3, .int 2), (0, .ref h0), (1, .int 0), (2, .int (-633756690))]) hx hb dX12_keep_30 hl (k := 0) rfl (by decide) (by decide) rfl (fun ls hl => ?_)
  refine lv_goto (tgt := 2) hx hb dX12_keep_33 (by decide) ?_
  refine lv_iload_n hx hb dX12_keep_2 rfl (lv_at hl 0 rfl) ?_
  refine lv_iconst (v := 4) hx hb dX12_keep_3 (by decide) ?_
  refine lv_icmp_ge (tgt := 36) hx hb dX12_keep_4 (by decide) (fun c9 => absurd c9 (by decide)) (fun _ => ?_)
  refine lv_aload_n hx hb dX12_keep_7 rfl (lv_at hl 1 rfl) ?_
  refine va_get (D := D) (ci := 16) (v := .ref dg) (C := RX12) (T := TX12) (N := 64) hx hb hts (by decide +kernel) hown hK hP 0 rfl rfl 16 (by decide) (hts (.fieldLink RX12 43 "SignetRingModel" "digest" "[I") (by decide +kernel)) (fun _ h9 => h9) rfl dX12_keep_8 ?_
  refine lv_iconst (v := 4) hx hb dX12_keep_11 (by decide) ?_
  refine lv_iload_n hx hb dX12_keep_12 rfl (lv_at hl 2 rfl) ?_
  refine lv_imul hx hb dX12_keep_13 ?_
  refine lv_topi (fun v15 ev15 => ?_)
  have ev15 : v15 = 0 := ev15.trans (by decide +kernel)
  subst ev15
  refine lv_iload_n hx hb dX12_keep_14 rfl (lv_at hl 0 rfl) ?_
  refine lv_iadd hx hb dX12_keep_15 ?_
  refine lv_topi (fun v16 ev16 => ?_)
  have ev16 : v16 = 2 := ev16.trans (by decide +kernel)
  subst ev16
  refine lv_iload_n hx hb dX12_keep_16 rfl (lv_at hl 3 rfl) ?_
  refine lv_bipush (v := 24) hx hb dX12_keep_17 (by decide) ?_
  refine lv_bipush (v := 8) hx hb dX12_keep_19 (by decide) ?_
  refine lv_iload_n hx hb dX12_keep_21 rfl (lv_at hl 0 rfl) ?_
  refine lv_imul hx hb dX12_keep_22 ?_
  refine lv_topi (fun v17 ev17 => ?_)
  have ev17 : v17 = 16 := ev17.trans (by decide +kernel)
  subst ev17
  refine lv_isub hx hb dX12_keep_23 ?_
  refine lv_topi (fun v18 ev18 => ?_)
  have ev18 : v18 = 8 := ev18.trans (by decide +kernel)
  subst ev18
  refine lv_iushr (v := zu (-633756690 : Int32) (8 : Int32)) hx hb dX12_keep_24 rfl ?_
  refine lv_topi (fun v19 ev19 => ?_)
  have ev19 : v19 = 14301603 := ev19.trans (by decide +kernel)
  subst ev19
  refine lv_sipush (v := 255) hx hb dX12_keep_25 (by decide) ?_
  refine lv_iand hx hb dX12_keep_28 ?_
  refine lv_topi (fun v20 ev20 => ?_)
  have ev20 : v20 = 163 := ev20.trans (by decide +kernel)
  subst ev20
  refine va_iast hx hb hK hP hD hS 1 1 rfl rfl (by unfold vp_in; decide) dX12_keep_29 (fun H locs hP hD hS => ?_)
  have hP : va_P D vwCl [(h0, .inr (16, [w1, w2, w3, w4, w5, w6, w7, w8, w9, w10, w11, w12, w13, w14, w15, w16, .ref dg, w17, w18, w19, w20, w21, w22, w23, w24, w25, w26, w27, w28, w29, w30, w31, w32, w33, w34, w35, w36, w37, w38, w39, w40, w41, w42, w43, w44, w45, w46, w47, w48, w49, w50, w51, w52, w53, w54, w55, w56, w57, w58, w59, w60, w61, w62, w63])), (dg, .inl (y 1, 32, .inl (upd (zf tO1 2 f) (nI 2).toNatClampNeg (163 : Int32))))] H := hP
  have hD : va_D A [(h0, .inr (16, [w1, w2, w3, w4, w5, w6, w7, w8, w9, w10, w11, w12, w13, w14, w15, w16, .ref dg, w17, w18, w19, w20, w21, w22, w23, w24, w25, w26, w27, w28, w29, w30, w31, w32, w33, w34, w35, w36, w37, w38, w39, w40, w41, w42, w43, w44, w45, w46, w47, w48, w49, w50, w51, w52, w53, w54, w55, w56, w57, w58, w59, w60, w61, w62, w63])), (dg, .inl (y 1, 32, .inl (upd (zf tO1 2 f) (nI 2).toNatClampNeg (163 : Int32))))] := hD
  have u21 : upd (zf tO1 2 f) (nI 2).toNatClampNeg (163 : Int32) = zf tO1 3 f := (zf_st (n := 2) (by decide) (by decide +kernel))
  rw [u21] at hP hD
  have hP : va_P D vwCl [(h0, .inr (16, [w1, w2, w3, w4, w5, w6, w7, w8, w9, w10, w11, w12, w13, w14, w15, w16, .ref dg, w17, w18, w19, w20, w21, w22, w23, w24, w25, w26, w27, w28, w29, w30, w31, w32, w33, w34, w35, w36, w37, w38, w39, w40, w41, w42, w43, w44, w45, w46, w47, w48, w49, w50, w51, w52, w53, w54, w55, w56, w57, w58, w59, w60, w61, w62, w63])), (dg, .inl (y 1, 32, .inl (zf tO1 3 f)))] H := hP
  have hD : va_D A [(h0, .inr (16, [w1, w2, w3, w4, w5, w6, w7, w8, w9, w10, w11, w12, w13, w14, w15, w16, .ref dg, w17, w18, w19, w20, w21, w22, w23, w24, w25, w26, w27, w28, w29, w30, w31, w32, w33, w34, w35, w36, w37, w38, w39, w40, w41, w42, w43, w44, w45, w46, w47, w48, w49, w50, w51, w52, w53, w54, w55, w56, w57, w58, w59, w60, w61, w62, w63])), (dg, .inl (y 1, 32, .inl (zf tO1 3 f)))] := hD
  refine lv_iinc (v := 3) (lv' := [(3, .int 3), (0, .ref h0), (1, .int 0), (2, .int (-633756690))]) hx hb dX12_keep_30 hl (k := 0) rfl (by decide) (by decide) rfl (fun ls hl => ?_)
  refine lv_goto (tgt := 2) hx hb dX12_keep_33 (by decide) ?_
  refine lv_iload_n hx hb dX12_keep_2 rfl (lv_at hl 0 rfl) ?_
  refine lv_iconst (v := 4) hx hb dX12_keep_3 (by decide) ?_
  refine lv_icmp_ge (tgt := 36) hx hb dX12_keep_4 (by decide) (fun c9 => absurd c9 (by decide)) (fun _ => ?_)
  refine lv_aload_n hx hb dX12_keep_7 rfl (lv_at hl 1 rfl) ?_
  refine va_get (D := D) (ci := 16) (v := .ref dg) (C := RX12) (T := TX12) (N := 64) hx hb hts (by decide +kernel) hown hK hP 0 rfl rfl 16 (by decide) (hts (.fieldLink RX12 43 "SignetRingModel" "digest" "[I") (by decide +kernel)) (fun _ h9 => h9) rfl dX12_keep_8 ?_
  refine lv_iconst (v := 4) hx hb dX12_keep_11 (by decide) ?_
  refine lv_iload_n hx hb dX12_keep_12 rfl (lv_at hl 2 rfl) ?_
  refine lv_imul hx hb dX12_keep_13 ?_
  refine lv_topi (fun v22 ev22 => ?_)
  have ev22 : v22 = 0 := ev22.trans (by decide +kernel)
  subst ev22
  refine lv_iload_n hx hb dX12_keep_14 rfl (lv_at hl 0 rfl) ?_
  refine lv_iadd hx hb dX12_keep_15 ?_
  refine lv_topi (fun v23 ev23 => ?_)
  have ev23 : v23 = 3 := ev23.trans (by decide +kernel)
  subst ev23
  refine lv_iload_n hx hb dX12_keep_16 rfl (lv_at hl 3 rfl) ?_
  refine lv_bipush (v := 24) hx hb dX12_keep_17 (by decide) ?_
  refine lv_bipush (v := 8) hx hb dX12_keep_19 (by decide) ?_
  refine lv_iload_n hx hb dX12_keep_21 rfl (lv_at hl 0 rfl) ?_
  refine lv_imul hx hb dX12_keep_22 ?_
  refine lv_topi (fun v24 ev24 => ?_)
  have ev24 : v24 = 24 := ev24.trans (by decide +kernel)
  subst ev24
  refine lv_isub hx hb dX12_keep_23 ?_
  refine lv_topi (fun v25 ev25 => ?_)
  have ev25 : v25 = 0 := ev25.trans (by decide +kernel)
  subst ev25
  refine lv_iushr (v := zu (-633756690 : Int32) (0 : Int32)) hx hb dX12_keep_24 rfl ?_
  refine lv_topi (fun v26 ev26 => ?_)
  have ev26 : v26 = -633756690 := ev26.trans (by decide +kernel)
  subst ev26
  refine lv_sipush (v := 255) hx hb dX12_keep_25 (by decide) ?_
  refine lv_iand hx hb dX12_keep_28 ?_
  refine lv_topi (fun v27 ev27 => ?_)
  have ev27 : v27 = 238 := ev27.trans (by decide +kernel)
  subst ev27
  refine va_iast hx hb hK hP hD hS 1 1 rfl rfl (by unfold vp_in; decide) dX12_keep_29 (fun H locs hP hD hS => ?_)
  have hP : va_P D vwCl [(h0, .inr (16, [w1, w2, w3, w4, w5, w6, w7, w8, w9, w10, w11, w12, w13, w14, w15, w16, .ref dg, w17, w18, w19, w20, w21, w22, w23, w24, w25, w26, w27, w28, w29, w30, w31, w32, w33, w34, w35, w36, w37, w38, w39, w40, w41, w42, w43, w44, w45, w46, w47, w48, w49, w50, w51, w52, w53, w54, w55, w56, w57, w58, w59, w60, w61, w62, w63])), (dg, .inl (y 1, 32, .inl (upd (zf tO1 3 f) (nI 3).toNatClampNeg (238 : Int32))))] H := hP
  have hD : va_D A [(h0, .inr (16, [w1, w2, w3, w4, w5, w6, w7, w8, w9, w10, w11, w12, w13, w14, w15, w16, .ref dg, w17, w18, w19, w20, w21, w22, w23, w24, w25, w26, w27, w28, w29, w30, w31, w32, w33, w34, w35, w36, w37, w38, w39, w40, w41, w42, w43, w44, w45, w46, w47, w48, w49, w50, w51, w52, w53, w54, w55, w56, w57, w58, w59, w60, w61, w62, w63])), (dg, .inl (y 1, 32, .inl (upd (zf tO1 3 f) (nI 3).toNatClampNeg (238 : Int32))))] := hD
  have u28 : upd (zf tO1 3 f) (nI 3).toNatClampNeg (238 : Int32) = zf tO1 4 f := (zf_st (n := 3) (by decide) (by decide +kernel))
  rw [u28] at hP hD
  have hP : va_P D vwCl [(h0, .inr (16, [w1, w2, w3, w4, w5, w6, w7, w8, w9, w10, w11, w12, w13, w14, w15, w16, .ref dg, w17, w18, w19, w20, w21, w22, w23, w24, w25, w26, w27, w28, w29, w30, w31, w32, w33, w34, w35, w36, w37, w38, w39, w40, w41, w42, w43, w44, w45, w46, w47, w48, w49, w50, w51, w52, w53, w54, w55, w56, w57, w58, w59, w60, w61, w62, w63])), (dg, .inl (y 1, 32, .inl (zf tO1 4 f)))] H := hP
  have hD : va_D A [(h0, .inr (16, [w1, w2, w3, w4, w5, w6, w7, w8, w9, w10, w11, w12, w13, w14, w15, w16, .ref dg, w17, w18, w19, w20, w21, w22, w23, w24, w25, w26, w27, w28, w29, w30, w31, w32, w33, w34, w35, w36, w37, w38, w39, w40, w41, w42, w43, w44, w45, w46, w47, w48, w49, w50, w51, w52, w53, w54, w55, w56, w57, w58, w59, w60, w61, w62, w63])), (dg, .inl (y 1, 32, .inl (zf tO1 4 f)))] := hD
  refine lv_iinc (v := 4) (lv' := [(3, .int 4), (0, .ref h0), (1, .int 0), (2, .int (-633756690))]) hx hb dX12_keep_30 hl (k := 0) rfl (by decide) (by decide) rfl (fun ls hl => ?_)
  refine lv_goto (tgt := 2) hx hb dX12_keep_33 (by decide) ?_
  refine lv_iload_n hx hb dX12_keep_2 rfl (lv_at hl 0 rfl) ?_
  refine lv_iconst (v := 4) hx hb dX12_keep_3 (by decide) ?_
  refine lv_icmp_ge (tgt := 36) hx hb dX12_keep_4 (by decide) (fun _ => ?_) (fun c9 => absurd (by decide) c9)
  have hP9 := hP.sub (ws' := [(h0, .inr (16, [w1, w2, w3, w4, w5, w6, w7, w8, w9, w10, w11, w12, w13, w14, w15, w16, .ref dg, w17, w18, w19, w20, w21, w22, w23, w24, w25, w26, w27, w28, w29, w30, w31, w32, w33, w34, w35, w36, w37, w38, w39, w40, w41, w42, w43, w44, w45, w46, w47, w48, w49, w50, w51, w52, w53, w54, w55, w56, w57, w58, w59, w60, w61, w62, w63])), (dg, .inl (y 1, 32, .inl (zf tO1 4 f)))]) [0, 1] rfl
  have hD9 := hD.sub (ws' := [(h0, .inr (16, [w1, w2, w3, w4, w5, w6, w7, w8, w9, w10, w11, w12, w13, w14, w15, w16, .ref dg, w17, w18, w19, w20, w21, w22, w23, w24, w25, w26, w27, w28, w29, w30, w31, w32, w33, w34, w35, w36, w37, w38, w39, w40, w41, w42, w43, w44, w45, w46, w47, w48, w49, w50, w51, w52, w53, w54, w55, w56, w57, w58, w59, w60, w61, w62, w63])), (dg, .inl (y 1, 32, .inl (zf tO1 4 f)))]) [0, 1] (by decide) rfl
  refine W.widen (k := 0) (n := 0) (Nat.le_of_ble_eq_true rfl) (Nat.le_of_ble_eq_true rfl) ?_
  exact W.vret hx hb hr (fun t ht hW => ⟨⟨(), rfl, trivial, by rw [ht]; exact hP9, hD9⟩, hS.F ht⟩) hS.2.2 dX12_keep_36
def wz_c_M_keep_1_1 : List Cond := .code yX12_keep cX12_keep 4 none :: ([.fieldLink RX12 43 "SignetRingModel" "digest" "[I"] ++ (wsX120 ++ ([])))
set_option maxHeartbeats 4000000 in
set_option maxRecDepth 100000 in
theorem c_M_keep_1_1 (l : Launch) (D : va_G) (y : Nat → ClassId) (sz : Nat) (h0 : Nat) (dg : Nat) (w1 : Value) (w2 : Value) (w3 : Value) (w4 : Value) (w5 : Value) (w6 : Value) (w7 : Value) (w8 : Value) (w9 : Value) (w10 : Value) (w11 : Value) (w12 : Value) (w13 : Value) (w14 : Value) (w15 : Value) (w16 : Value) (w17 : Value) (w18 : Value) (w19 : Value) (w20 : Value) (w21 : Value) (w22 : Value) (w23 : Value) (w24 : Value) (w25 : Value) (w26 : Value) (w27 : Value) (w28 : Value) (w29 : Value) (w30 : Value) (w31 : Value) (w32 : Value) (w33 : Value) (w34 : Value) (w35 : Value) (w36 : Value) (w37 : Value) (w38 : Value) (w39 : Value) (w40 : Value) (w41 : Value) (w42 : Value) (w43 : Value) (w44 : Value) (w45 : Value) (w46 : Value) (w47 : Value) (w48 : Value) (w49 : Value) (w50 : Value) (w51 : Value) (w52 : Value) (w53 : Value) (w54 : Value) (w55 : Value) (w56 : Value) (w57 : Value) (w58 : Value) (w59 : Value) (w60 : Value) (w61 : Value) (w62 : Value) (w63 : Value) (f : Nat → Int32) : Met l yX12_keep wz_c_M_keep_1_1 ({ frames := 0, cells := 0, slots := 0, locals := 0 }) (va_Pc [.ref h0, .int 1, .int 1584089869] (zB D y [(h0, .inr (16, [w1, w2, w3, w4, w5, w6, w7, w8, w9, w10, w11, w12, w13, w14, w15, w16, .ref dg, w17, w18, w19, w20, w21, w22, w23, w24, w25, w26, w27, w28, w29, w30, w31, w32, w33, w34, w35, w36, w37, w38, w39, w40, w41, w42, w43, w44, w45, w46, w47, w48, w49, w50, w51, w52, w53, w54, w55, w56, w57, w58, w59, w60, w61, w62, w63])), (dg, .inl (y 1, 32, .inl (zf tO1 4 f)))] sz [] [] [] [])) (va_Qv (fun _ : Unit => True) (fun _ t => va_P D vwCl [(h0, .inr (16, [w1, w2, w3, w4, w5, w6, w7, w8, w9, w10, w11, w12, w13, w14, w15, w16, .ref dg, w17, w18, w19, w20, w21, w22, w23, w24, w25, w26, w27, w28, w29, w30, w31, w32, w33, w34, w35, w36, w37, w38, w39, w40, w41, w42, w43, w44, w45, w46, w47, w48, w49, w50, w51, w52, w53, w54, w55, w56, w57, w58, w59, w60, w61, w62, w63])), (dg, .inl (y 1, 32, .inl (zf tO1 8 f)))] t.heap ∧ va_D (va_A [(h0, .inr (16, [w1, w2, w3, w4, w5, w6, w7, w8, w9, w10, w11, w12, w13, w14, w15, w16, .ref dg, w17, w18, w19, w20, w21, w22, w23, w24, w25, w26, w27, w28, w29, w30, w31, w32, w33, w34, w35, w36, w37, w38, w39, w40, w41, w42, w43, w44, w45, w46, w47, w48, w49, w50, w51, w52, w53, w54, w55, w56, w57, w58, w59, w60, w61, w62, w63])), (dg, .inl (y 1, 32, .inl (zf tO1 4 f)))] sz) [(h0, .inr (16, [w1, w2, w3, w4, w5, w6, w7, w8, w9, w10, w11, w12, w13, w14, w15, w16, .ref dg, w17, w18, w19, w20, w21, w22, w23, w24, w25, w26, w27, w28, w29, w30, w31, w32, w33, w34, w35, w36, w37, w38, w39, w40, w41, w42, w43, w44, w45, w46, w47, w48, w49, w50, w51, w52, w53, w54, w55, w56, w57, w58, w59, w60, w61, w62, w63])), (dg, .inl (y 1, 32, .inl (zf tO1 8 f)))]) (va_A [(h0, .inr (16, [w1, w2, w3, w4, w5, w6, w7, w8, w9, w10, w11, w12, w13, w14, w15, w16, .ref dg, w17, w18, w19, w20, w21, w22, w23, w24, w25, w26, w27, w28, w29, w30, w31, w32, w33, w34, w35, w36, w37, w38, w39, w40, w41, w42, w43, w44, w45, w46, w47, w48, w49, w50, w51, w52, w53, w54, w55, w56, w57, w58, w59, w60, w61, w62, w63])), (dg, .inl (y 1, 32, .inl (zf tO1 4 f)))] sz)) 0 0 (va_A [(h0, .inr (16, [w1, w2, w3, w4, w5, w6, w7, w8, w9, w10, w11, w12, w13, w14, w15, w16, .ref dg, w17, w18, w19, w20, w21, w22, w23, w24, w25, w26, w27, w28, w29, w30, w31, w32, w33, w34, w35, w36, w37, w38, w39, w40, w41, w42, w43, w44, w45, w46, w47, w48, w49, w50, w51, w52, w53, w54, w55, w56, w57, w58, w59, w60, w61, w62, w63])), (dg, .inl (y 1, 32, .inl (zf tO1 4 f)))] sz) := by
  refine Met.ofW (cc := cX12_keep) (maxL := 4) (ret := none) (by decide) rfl ?_
  intro p e s m args below meth c s₁ B hml hv
  obtain ⟨rfl, hsz, hP, hK, hD0, hN, hE, hO, hT, hG⟩ := hv
  have hx := B.exec
  have hb := B.bytes
  have hr := B.returns
  have hts := atoms_spec (ws := wz_c_M_keep_1_1) B.pre
  have hown : s.vm.findClass RX12 = some m.cls := findClass_of_methodNamed B.named
  have hlocks := B.notSynchronized
  subst hsz
  have hD := hD0.self (sz := s.heap.size)
  generalize hAe : va_A [(h0, .inr (16, [w1, w2, w3, w4, w5, w6, w7, w8, w9, w10, w11, w12, w13, w14, w15, w16, .ref dg, w17, w18, w19, w20, w21, w22, w23, w24, w25, w26, w27, w28, w29, w30, w31, w32, w33, w34, w35, w36, w37, w38, w39, w40, w41, w42, w43, w44, w45, w46, w47, w48, w49, w50, w51, w52, w53, w54, w55, w56, w57, w58, w59, w60, w61, w62, w63])), (dg, .inl (y 1, 32, .inl (zf tO1 4 f)))] s.heap.size = A at hD hE hT hG ⊢
  have hA : ∀ q : Nat, s.heap.size ≤ q → A q := fun q h => by rw [← hAe]; exact Or.inr h
  have hS : va_S A s.heap s.heap [] := va_S.rf
  have hl := lv_entry ([.ref h0, .int 1, .int 1584089869]) (n := 4) (Nat.le_of_ble_eq_true rfl)
  rw [lg_entry_eq]
  generalize (lg_sl ([.ref h0, .int 1, .int 1584089869]) ++ List.replicate (4 - (lg_sl ([.ref h0, .int 1, .int 1584089869])).length) Slot.unset).toArray = ls at hl ⊢
  have hl : lv_has ls 4 [(0, .ref h0), (1, .int 1), (2, .int 1584089869)] := hl
  refine lv_iconst (v := 0) hx hb dX12_keep_0 (by decide) ?_
  refine lv_istore_n (lv' := [(3, .int 0), (0, .ref h0), (1, .int 1), (2, .int 1584089869)]) hx hb dX12_keep_1 rfl hl (by decide) rfl (fun ls hl => ?_)
  refine lv_iload_n hx hb dX12_keep_2 rfl (lv_at hl 0 rfl) ?_
  refine lv_iconst (v := 4) hx hb dX12_keep_3 (by decide) ?_
  refine lv_icmp_ge (tgt := 36) hx hb dX12_keep_4 (by decide) (fun c9 => absurd c9 (by decide)) (fun _ => ?_)
  refine lv_aload_n hx hb dX12_keep_7 rfl (lv_at hl 1 rfl) ?_
  refine va_get (D := D) (ci := 16) (v := .ref dg) (C := RX12) (T := TX12) (N := 64) hx hb hts (by decide +kernel) hown hK hP 0 rfl rfl 16 (by decide) (hts (.fieldLink RX12 43 "SignetRingModel" "digest" "[I") (by decide +kernel)) (fun _ h9 => h9) rfl dX12_keep_8 ?_
  refine lv_iconst (v := 4) hx hb dX12_keep_11 (by decide) ?_
  refine lv_iload_n hx hb dX12_keep_12 rfl (lv_at hl 2 rfl) ?_
  refine lv_imul hx hb dX12_keep_13 ?_
  refine lv_topi (fun v1 ev1 => ?_)
  have ev1 : v1 = 4 := ev1.trans (by decide +kernel)
  subst ev1
  refine lv_iload_n hx hb dX12_keep_14 rfl (lv_at hl 0 rfl) ?_
  refine lv_iadd hx hb dX12_keep_15 ?_
  refine lv_topi (fun v2 ev2 => ?_)
  have ev2 : v2 = 4 := ev2.trans (by decide +kernel)
  subst ev2
  refine lv_iload_n hx hb dX12_keep_16 rfl (lv_at hl 3 rfl) ?_
  refine lv_bipush (v := 24) hx hb dX12_keep_17 (by decide) ?_
  refine lv_bipush (v := 8) hx hb dX12_keep_19 (by decide) ?_
  refine lv_iload_n hx hb dX12_keep_21 rfl (lv_at hl 0 rfl) ?_
  refine lv_imul hx hb dX12_keep_22 ?_
  refine lv_topi (fun v3 ev3 => ?_)
  have ev3 : v3 = 0 := ev3.trans (by decide +kernel)
  subst ev3
  refine lv_isub hx hb dX12_keep_23 ?_
  refine lv_topi (fun v4 ev4 => ?_)
  have ev4 : v4 = 24 := ev4.trans (by decide +kernel)
  subst ev4
  refine lv_iushr (v := zu (1584089869 : Int32) (24 : Int32)) hx hb dX12_keep_24 rfl ?_
  refine lv_topi (fun v5 ev5 => ?_)
  have ev5 : v5 = 94 := ev5.trans (by decide +kernel)
  subst ev5
  refine lv_sipush (v := 255) hx hb dX12_keep_25 (by decide) ?_
  refine lv_iand hx hb dX12_keep_28 ?_
  refine lv_topi (fun v6 ev6 => ?_)
  have ev6 : v6 = 94 := ev6.trans (by decide +kernel)
  subst ev6
  refine va_iast hx hb hK hP hD hS 1 1 rfl rfl (by unfold vp_in; decide) dX12_keep_29 (fun H locs hP hD hS => ?_)
  have hP : va_P D vwCl [(h0, .inr (16, [w1, w2, w3, w4, w5, w6, w7, w8, w9, w10, w11, w12, w13, w14, w15, w16, .ref dg, w17, w18, w19, w20, w21, w22, w23, w24, w25, w26, w27, w28, w29, w30, w31, w32, w33, w34, w35, w36, w37, w38, w39, w40, w41, w42, w43, w44, w45, w46, w47, w48, w49, w50, w51, w52, w53, w54, w55, w56, w57, w58, w59, w60, w61, w62, w63])), (dg, .inl (y 1, 32, .inl (upd (zf tO1 4 f) (nI 4).toNatClampNeg (94 : Int32))))] H := hP
  have hD : va_D A [(h0, .inr (16, [w1, w2, w3, w4, w5, w6, w7, w8, w9, w10, w11, w12, w13, w14, w15, w16, .ref dg, w17, w18, w19, w20, w21, w22, w23, w24, w25, w26, w27, w28, w29, w30, w31, w32, w33, w34, w35, w36, w37, w38, w39, w40, w41, w42, w43, w44, w45, w46, w47, w48, w49, w50, w51, w52, w53, w54, w55, w56, w57, w58, w59, w60, w61, w62, w63])), (dg, .inl (y 1, 32, .inl (upd (zf tO1 4 f) (nI 4).toNatClampNeg (94 : Int32))))] := hD
  have u7 : upd (zf tO1 4 f) (nI 4).toNatClampNeg (94 : Int32) = zf tO1 5 f := (zf_st (n := 4) (by decide) (by decide +kernel))
  rw [u7] at hP hD
  have hP : va_P D vwCl [(h0, .inr (16, [w1, w2, w3, w4, w5, w6, w7, w8, w9, w10, w11, w12, w13, w14, w15, w16, .ref dg, w17, w18, w19, w20, w21, w22, w23, w24, w25, w26, w27, w28, w29, w30, w31, w32, w33, w34, w35, w36, w37, w38, w39, w40, w41, w42, w43, w44, w45, w46, w47, w48, w49, w50, w51, w52, w53, w54, w55, w56, w57, w58, w59, w60, w61, w62, w63])), (dg, .inl (y 1, 32, .inl (zf tO1 5 f)))] H := hP
  have hD : va_D A [(h0, .inr (16, [w1, w2, w3, w4, w5, w6, w7, w8, w9, w10, w11, w12, w13, w14, w15, w16, .ref dg, w17, w18, w19, w20, w21, w22, w23, w24, w25, w26, w27, w28, w29, w30, w31, w32, w33, w34, w35, w36, w37, w38, w39, w40, w41, w42, w43, w44, w45, w46, w47, w48, w49, w50, w51, w52, w53, w54, w55, w56, w57, w58, w59, w60, w61, w62, w63])), (dg, .inl (y 1, 32, .inl (zf tO1 5 f)))] := hD
  refine lv_iinc (v := 1) (lv' := [(3, .int 1), (0, .ref h0), (1, .int 1), (2, .int 1584089869)]) hx hb dX12_keep_30 hl (k := 0) rfl (by decide) (by decide) rfl (fun ls hl => ?_)
  refine lv_goto (tgt := 2) hx hb dX12_keep_33 (by decide) ?_
  refine lv_iload_n hx hb dX12_keep_2 rfl (lv_at hl 0 rfl) ?_
  refine lv_iconst (v := 4) hx hb dX12_keep_3 (by decide) ?_
  refine lv_icmp_ge (tgt := 36) hx hb dX12_keep_4 (by decide) (fun c9 => absurd c9 (by decide)) (fun _ => ?_)
  refine lv_aload_n hx hb dX12_keep_7 rfl (lv_at hl 1 rfl) ?_
  refine va_get (D := D) (ci := 16) (v := .ref dg) (C := RX12) (T := TX12) (N := 64) hx hb hts (by decide +kernel) hown hK hP 0 rfl rfl 16 (by decide) (hts (.fieldLink RX12 43 "SignetRingModel" "digest" "[I") (by decide +kernel)) (fun _ h9 => h9) rfl dX12_keep_8 ?_
  refine lv_iconst (v := 4) hx hb dX12_keep_11 (by decide) ?_
  refine lv_iload_n hx hb dX12_keep_12 rfl (lv_at hl 2 rfl) ?_
  refine lv_imul hx hb dX12_keep_13 ?_
  refine lv_topi (fun v8 ev8 => ?_)
  have ev8 : v8 = 4 := ev8.trans (by decide +kernel)
  subst ev8
  refine lv_iload_n hx hb dX12_keep_14 rfl (lv_at hl 0 rfl) ?_
  refine lv_iadd hx hb dX12_keep_15 ?_
  refine lv_topi (fun v9 ev9 => ?_)
  have ev9 : v9 = 5 := ev9.trans (by decide +kernel)
  subst ev9
  refine lv_iload_n hx hb dX12_keep_16 rfl (lv_at hl 3 rfl) ?_
  refine lv_bipush (v := 24) hx hb dX12_keep_17 (by decide) ?_
  refine lv_bipush (v := 8) hx hb dX12_keep_19 (by decide) ?_
  refine lv_iload_n hx hb dX12_keep_21 rfl (lv_at hl 0 rfl) ?_
  refine lv_imul hx hb dX12_keep_22 ?_
  refine lv_topi (fun v10 ev10 => ?_)
  have ev10 : v10 = 8 := ev10.trans (by decide +kernel)
  subst ev10
  refine lv_isub hx hb dX12_keep_23 ?_
  refine lv_topi (fun v11 ev11 => ?_)
  have ev11 : v11 = 16 := ev11.trans (by decide +kernel)
  subst ev11
  refine lv_iushr (v := zu (1584089869 : Int32) (16 : Int32)) hx hb dX12_keep_24 rfl ?_
  refine lv_topi (fun v12 ev12 => ?_)
  have ev12 : v12 = 24171 := ev12.trans (by decide +kernel)
  subst ev12
  refine lv_sipush (v := 255) hx hb dX12_keep_25 (by decide) ?_
  refine lv_iand hx hb dX12_keep_28 ?_
  refine lv_topi (fun v13 ev13 => ?_)
  have ev13 : v13 = 107 := ev13.trans (by decide +kernel)
  subst ev13
  refine va_iast hx hb hK hP hD hS 1 1 rfl rfl (by unfold vp_in; decide) dX12_keep_29 (fun H locs hP hD hS => ?_)
  have hP : va_P D vwCl [(h0, .inr (16, [w1, w2, w3, w4, w5, w6, w7, w8, w9, w10, w11, w12, w13, w14, w15, w16, .ref dg, w17, w18, w19, w20, w21, w22, w23, w24, w25, w26, w27, w28, w29, w30, w31, w32, w33, w34, w35, w36, w37, w38, w39, w40, w41, w42, w43, w44, w45, w46, w47, w48, w49, w50, w51, w52, w53, w54, w55, w56, w57, w58, w59, w60, w61, w62, w63])), (dg, .inl (y 1, 32, .inl (upd (zf tO1 5 f) (nI 5).toNatClampNeg (107 : Int32))))] H := hP
  have hD : va_D A [(h0, .inr (16, [w1, w2, w3, w4, w5, w6, w7, w8, w9, w10, w11, w12, w13, w14, w15, w16, .ref dg, w17, w18, w19, w20, w21, w22, w23, w24, w25, w26, w27, w28, w29, w30, w31, w32, w33, w34, w35, w36, w37, w38, w39, w40, w41, w42, w43, w44, w45, w46, w47, w48, w49, w50, w51, w52, w53, w54, w55, w56, w57, w58, w59, w60, w61, w62, w63])), (dg, .inl (y 1, 32, .inl (upd (zf tO1 5 f) (nI 5).toNatClampNeg (107 : Int32))))] := hD
  have u14 : upd (zf tO1 5 f) (nI 5).toNatClampNeg (107 : Int32) = zf tO1 6 f := (zf_st (n := 5) (by decide) (by decide +kernel))
  rw [u14] at hP hD
  have hP : va_P D vwCl [(h0, .inr (16, [w1, w2, w3, w4, w5, w6, w7, w8, w9, w10, w11, w12, w13, w14, w15, w16, .ref dg, w17, w18, w19, w20, w21, w22, w23, w24, w25, w26, w27, w28, w29, w30, w31, w32, w33, w34, w35, w36, w37, w38, w39, w40, w41, w42, w43, w44, w45, w46, w47, w48, w49, w50, w51, w52, w53, w54, w55, w56, w57, w58, w59, w60, w61, w62, w63])), (dg, .inl (y 1, 32, .inl (zf tO1 6 f)))] H := hP
  have hD : va_D A [(h0, .inr (16, [w1, w2, w3, w4, w5, w6, w7, w8, w9, w10, w11, w12, w13, w14, w15, w16, .ref dg, w17, w18, w19, w20, w21, w22, w23, w24, w25, w26, w27, w28, w29, w30, w31, w32, w33, w34, w35, w36, w37, w38, w39, w40, w41, w42, w43, w44, w45, w46, w47, w48, w49, w50, w51, w52, w53, w54, w55, w56, w57, w58, w59, w60, w61, w62, w63])), (dg, .inl (y 1, 32, .inl (zf tO1 6 f)))] := hD
  refine lv_iinc (v := 2) (lv' := [(3, .int 2), (0, .ref h0), (1, .int 1), (2, .int 1584089869)]) hx hb dX12_keep_30 hl (k := 0) rfl (by decide) (by decide) rfl (fun ls hl => ?_)
  refine lv_goto (tgt := 2) hx hb dX12_keep_33 (by decide) ?_
  refine lv_iload_n hx hb dX12_keep_2 rfl (lv_at hl 0 rfl) ?_
  refine lv_iconst (v := 4) hx hb dX12_keep_3 (by decide) ?_
  refine lv_icmp_ge (tgt := 36) hx hb dX12_keep_4 (by decide) (fun c9 => absurd c9 (by decide)) (fun _ => ?_)
  refine lv_aload_n hx hb dX12_keep_7 rfl (lv_at hl 1 rfl) ?_
  refine va_get (D := D) (ci := 16) (v := .ref dg) (C := RX12) (T := TX12) (N := 64) hx hb hts (by decide +kernel) hown hK hP 0 rfl rfl 16 (by decide) (hts (.fieldLink RX12 43 "SignetRingModel" "digest" "[I") (by decide +kernel)) (fun _ h9 => h9) rfl dX12_keep_8 ?_
  refine lv_iconst (v := 4) hx hb dX12_keep_11 (by decide) ?_
  refine lv_iload_n hx hb dX12_keep_12 rfl (lv_at hl 2 rfl) ?_
  refine lv_imul hx hb dX12_keep_13 ?_
  refine lv_topi (fun v15 ev15 => ?_)
  have ev15 : v15 = 4 := ev15.trans (by decide +kernel)
  subst ev15
  refine lv_iload_n hx hb dX12_keep_14 rfl (lv_at hl 0 rfl) ?_
  refine lv_iadd hx hb dX12_keep_15 ?_
  refine lv_topi (fun v16 ev16 => ?_)
  have ev16 : v16 = 6 := ev16.trans (by decide +kernel)
  subst ev16
  refine lv_iload_n hx hb dX12_keep_16 rfl (lv_at hl 3 rfl) ?_
  refine lv_bipush (v := 24) hx hb dX12_keep_17 (by decide) ?_
  refine lv_bipush (v := 8) hx hb dX12_keep_19 (by decide) ?_
  refine lv_iload_n hx hb dX12_keep_21 rfl (lv_at hl 0 rfl) ?_
  refine lv_imul hx hb dX12_keep_22 ?_
  refine lv_topi (fun v17 ev17 => ?_)
  have ev17 : v17 = 16 := ev17.trans (by decide +kernel)
  subst ev17
  refine lv_isub hx hb dX12_keep_23 ?_
  refine lv_topi (fun v18 ev18 => ?_)
  have ev18 : v18 = 8 := ev18.trans (by decide +kernel)
  subst ev18
  refine lv_iushr (v := zu (1584089869 : Int32) (8 : Int32)) hx hb dX12_keep_24 rfl ?_
  refine lv_topi (fun v19 ev19 => ?_)
  have ev19 : v19 = 6187851 := ev19.trans (by decide +kernel)
  subst ev19
  refine lv_sipush (v := 255) hx hb dX12_keep_25 (by decide) ?_
  refine lv_iand hx hb dX12_keep_28 ?_
  refine lv_topi (fun v20 ev20 => ?_)
  have ev20 : v20 = 75 := ev20.trans (by decide +kernel)
  subst ev20
  refine va_iast hx hb hK hP hD hS 1 1 rfl rfl (by unfold vp_in; decide) dX12_keep_29 (fun H locs hP hD hS => ?_)
  have hP : va_P D vwCl [(h0, .inr (16, [w1, w2, w3, w4, w5, w6, w7, w8, w9, w10, w11, w12, w13, w14, w15, w16, .ref dg, w17, w18, w19, w20, w21, w22, w23, w24, w25, w26, w27, w28, w29, w30, w31, w32, w33, w34, w35, w36, w37, w38, w39, w40, w41, w42, w43, w44, w45, w46, w47, w48, w49, w50, w51, w52, w53, w54, w55, w56, w57, w58, w59, w60, w61, w62, w63])), (dg, .inl (y 1, 32, .inl (upd (zf tO1 6 f) (nI 6).toNatClampNeg (75 : Int32))))] H := hP
  have hD : va_D A [(h0, .inr (16, [w1, w2, w3, w4, w5, w6, w7, w8, w9, w10, w11, w12, w13, w14, w15, w16, .ref dg, w17, w18, w19, w20, w21, w22, w23, w24, w25, w26, w27, w28, w29, w30, w31, w32, w33, w34, w35, w36, w37, w38, w39, w40, w41, w42, w43, w44, w45, w46, w47, w48, w49, w50, w51, w52, w53, w54, w55, w56, w57, w58, w59, w60, w61, w62, w63])), (dg, .inl (y 1, 32, .inl (upd (zf tO1 6 f) (nI 6).toNatClampNeg (75 : Int32))))] := hD
  have u21 : upd (zf tO1 6 f) (nI 6).toNatClampNeg (75 : Int32) = zf tO1 7 f := (zf_st (n := 6) (by decide) (by decide +kernel))
  rw [u21] at hP hD
  have hP : va_P D vwCl [(h0, .inr (16, [w1, w2, w3, w4, w5, w6, w7, w8, w9, w10, w11, w12, w13, w14, w15, w16, .ref dg, w17, w18, w19, w20, w21, w22, w23, w24, w25, w26, w27, w28, w29, w30, w31, w32, w33, w34, w35, w36, w37, w38, w39, w40, w41, w42, w43, w44, w45, w46, w47, w48, w49, w50, w51, w52, w53, w54, w55, w56, w57, w58, w59, w60, w61, w62, w63])), (dg, .inl (y 1, 32, .inl (zf tO1 7 f)))] H := hP
  have hD : va_D A [(h0, .inr (16, [w1, w2, w3, w4, w5, w6, w7, w8, w9, w10, w11, w12, w13, w14, w15, w16, .ref dg, w17, w18, w19, w20, w21, w22, w23, w24, w25, w26, w27, w28, w29, w30, w31, w32, w33, w34, w35, w36, w37, w38, w39, w40, w41, w42, w43, w44, w45, w46, w47, w48, w49, w50, w51, w52, w53, w54, w55, w56, w57, w58, w59, w60, w61, w62, w63])), (dg, .inl (y 1, 32, .inl (zf tO1 7 f)))] := hD
  refine lv_iinc (v := 3) (lv' := [(3, .int 3), (0, .ref h0), (1, .int 1), (2, .int 1584089869)]) hx hb dX12_keep_30 hl (k := 0) rfl (by decide) (by decide) rfl (fun ls hl => ?_)
  refine lv_goto (tgt := 2) hx hb dX12_keep_33 (by decide) ?_
  refine lv_iload_n hx hb dX12_keep_2 rfl (lv_at hl 0 rfl) ?_
  refine lv_iconst (v := 4) hx hb dX12_keep_3 (by decide) ?_
  refine lv_icmp_ge (tgt := 36) hx hb dX12_keep_4 (by decide) (fun c9 => absurd c9 (by decide)) (fun _ => ?_)
  refine lv_aload_n hx hb dX12_keep_7 rfl (lv_at hl 1 rfl) ?_
  refine va_get (D := D) (ci := 16) (v := .ref dg) (C := RX12) (T := TX12) (N := 64) hx hb hts (by decide +kernel) hown hK hP 0 rfl rfl 16 (by decide) (hts (.fieldLink RX12 43 "SignetRingModel" "digest" "[I") (by decide +kernel)) (fun _ h9 => h9) rfl dX12_keep_8 ?_
  refine lv_iconst (v := 4) hx hb dX12_keep_11 (by decide) ?_
  refine lv_iload_n hx hb dX12_keep_12 rfl (lv_at hl 2 rfl) ?_
  refine lv_imul hx hb dX12_keep_13 ?_
  refine lv_topi (fun v22 ev22 => ?_)
  have ev22 : v22 = 4 := ev22.trans (by decide +kernel)
  subst ev22
  refine lv_iload_n hx hb dX12_keep_14 rfl (lv_at hl 0 rfl) ?_
  refine lv_iadd hx hb dX12_keep_15 ?_
  refine lv_topi (fun v23 ev23 => ?_)
  have ev23 : v23 = 7 := ev23.trans (by decide +kernel)
  subst ev23
  refine lv_iload_n hx hb dX12_keep_16 rfl (lv_at hl 3 rfl) ?_
  refine lv_bipush (v := 24) hx hb dX12_keep_17 (by decide) ?_
  refine lv_bipush (v := 8) hx hb dX12_keep_19 (by decide) ?_
  refine lv_iload_n hx hb dX12_keep_21 rfl (lv_at hl 0 rfl) ?_
  refine lv_imul hx hb dX12_keep_22 ?_
  refine lv_topi (fun v24 ev24 => ?_)
  have ev24 : v24 = 24 := ev24.trans (by decide +kernel)
  subst ev24
  refine lv_isub hx hb dX12_keep_23 ?_
  refine lv_topi (fun v25 ev25 => ?_)
  have ev25 : v25 = 0 := ev25.trans (by decide +kernel)
  subst ev25
  refine lv_iushr (v := zu (1584089869 : Int32) (0 : Int32)) hx hb dX12_keep_24 rfl ?_
  refine lv_topi (fun v26 ev26 => ?_)
  have ev26 : v26 = 1584089869 := ev26.trans (by decide +kernel)
  subst ev26
  refine lv_sipush (v := 255) hx hb dX12_keep_25 (by decide) ?_
  refine lv_iand hx hb dX12_keep_28 ?_
  refine lv_topi (fun v27 ev27 => ?_)
  have ev27 : v27 = 13 := ev27.trans (by decide +kernel)
  subst ev27
  refine va_iast hx hb hK hP hD hS 1 1 rfl rfl (by unfold vp_in; decide) dX12_keep_29 (fun H locs hP hD hS => ?_)
  have hP : va_P D vwCl [(h0, .inr (16, [w1, w2, w3, w4, w5, w6, w7, w8, w9, w10, w11, w12, w13, w14, w15, w16, .ref dg, w17, w18, w19, w20, w21, w22, w23, w24, w25, w26, w27, w28, w29, w30, w31, w32, w33, w34, w35, w36, w37, w38, w39, w40, w41, w42, w43, w44, w45, w46, w47, w48, w49, w50, w51, w52, w53, w54, w55, w56, w57, w58, w59, w60, w61, w62, w63])), (dg, .inl (y 1, 32, .inl (upd (zf tO1 7 f) (nI 7).toNatClampNeg (13 : Int32))))] H := hP
  have hD : va_D A [(h0, .inr (16, [w1, w2, w3, w4, w5, w6, w7, w8, w9, w10, w11, w12, w13, w14, w15, w16, .ref dg, w17, w18, w19, w20, w21, w22, w23, w24, w25, w26, w27, w28, w29, w30, w31, w32, w33, w34, w35, w36, w37, w38, w39, w40, w41, w42, w43, w44, w45, w46, w47, w48, w49, w50, w51, w52, w53, w54, w55, w56, w57, w58, w59, w60, w61, w62, w63])), (dg, .inl (y 1, 32, .inl (upd (zf tO1 7 f) (nI 7).toNatClampNeg (13 : Int32))))] := hD
  have u28 : upd (zf tO1 7 f) (nI 7).toNatClampNeg (13 : Int32) = zf tO1 8 f := (zf_st (n := 7) (by decide) (by decide +kernel))
  rw [u28] at hP hD
  have hP : va_P D vwCl [(h0, .inr (16, [w1, w2, w3, w4, w5, w6, w7, w8, w9, w10, w11, w12, w13, w14, w15, w16, .ref dg, w17, w18, w19, w20, w21, w22, w23, w24, w25, w26, w27, w28, w29, w30, w31, w32, w33, w34, w35, w36, w37, w38, w39, w40, w41, w42, w43, w44, w45, w46, w47, w48, w49, w50, w51, w52, w53, w54, w55, w56, w57, w58, w59, w60, w61, w62, w63])), (dg, .inl (y 1, 32, .inl (zf tO1 8 f)))] H := hP
  have hD : va_D A [(h0, .inr (16, [w1, w2, w3, w4, w5, w6, w7, w8, w9, w10, w11, w12, w13, w14, w15, w16, .ref dg, w17, w18, w19, w20, w21, w22, w23, w24, w25, w26, w27, w28, w29, w30, w31, w32, w33, w34, w35, w36, w37, w38, w39, w40, w41, w42, w43, w44, w45, w46, w47, w48, w49, w50, w51, w52, w53, w54, w55, w56, w57, w58, w59, w60, w61, w62, w63])), (dg, .inl (y 1, 32, .inl (zf tO1 8 f)))] := hD
  refine lv_iinc (v := 4) (lv' := [(3, .int 4), (0, .ref h0), (1, .int 1), (2, .int 1584089869)]) hx hb dX12_keep_30 hl (k := 0) rfl (by decide) (by decide) rfl (fun ls hl => ?_)
  refine lv_goto (tgt := 2) hx hb dX12_keep_33 (by decide) ?_
  refine lv_iload_n hx hb dX12_keep_2 rfl (lv_at hl 0 rfl) ?_
  refine lv_iconst (v := 4) hx hb dX12_keep_3 (by decide) ?_
  refine lv_icmp_ge (tgt := 36) hx hb dX12_keep_4 (by decide) (fun _ => ?_) (fun c9 => absurd (by decide) c9)
  have hP9 := hP.sub (ws' := [(h0, .inr (16, [w1, w2, w3, w4, w5, w6, w7, w8, w9, w10, w11, w12, w13, w14, w15, w16, .ref dg, w17, w18, w19, w20, w21, w22, w23, w24, w25, w26, w27, w28, w29, w30, w31, w32, w33, w34, w35, w36, w37, w38, w39, w40, w41, w42, w43, w44, w45, w46, w47, w48, w49, w50, w51, w52, w53, w54, w55, w56, w57, w58, w59, w60, w61, w62, w63])), (dg, .inl (y 1, 32, .inl (zf tO1 8 f)))]) [0, 1] rfl
  have hD9 := hD.sub (ws' := [(h0, .inr (16, [w1, w2, w3, w4, w5, w6, w7, w8, w9, w10, w11, w12, w13, w14, w15, w16, .ref dg, w17, w18, w19, w20, w21, w22, w23, w24, w25, w26, w27, w28, w29, w30, w31, w32, w33, w34, w35, w36, w37, w38, w39, w40, w41, w42, w43, w44, w45, w46, w47, w48, w49, w50, w51, w52, w53, w54, w55, w56, w57, w58, w59, w60, w61, w62, w63])), (dg, .inl (y 1, 32, .inl (zf tO1 8 f)))]) [0, 1] (by decide) rfl
  refine W.widen (k := 0) (n := 0) (Nat.le_of_ble_eq_true rfl) (Nat.le_of_ble_eq_true rfl) ?_
  exact W.vret hx hb hr (fun t ht hW => ⟨⟨(), rfl, trivial, by rw [ht]; exact hP9, hD9⟩, hS.F ht⟩) hS.2.2 dX12_keep_36
def wz_c_M_keep_1_2 : List Cond := .code yX12_keep cX12_keep 4 none :: ([.fieldLink RX12 43 "SignetRingModel" "digest" "[I"] ++ (wsX120 ++ ([])))
set_option maxHeartbeats 4000000 in
set_option maxRecDepth 100000 in
theorem c_M_keep_1_2 (l : Launch) (D : va_G) (y : Nat → ClassId) (sz : Nat) (h0 : Nat) (dg : Nat) (w1 : Value) (w2 : Value) (w3 : Value) (w4 : Value) (w5 : Value) (w6 : Value) (w7 : Value) (w8 : Value) (w9 : Value) (w10 : Value) (w11 : Value) (w12 : Value) (w13 : Value) (w14 : Value) (w15 : Value) (w16 : Value) (w17 : Value) (w18 : Value) (w19 : Value) (w20 : Value) (w21 : Value) (w22 : Value) (w23 : Value) (w24 : Value) (w25 : Value) (w26 : Value) (w27 : Value) (w28 : Value) (w29 : Value) (w30 : Value) (w31 : Value) (w32 : Value) (w33 : Value) (w34 : Value) (w35 : Value) (w36 : Value) (w37 : Value) (w38 : Value) (w39 : Value) (w40 : Value) (w41 : Value) (w42 : Value) (w43 : Value) (w44 : Value) (w45 : Value) (w46 : Value) (w47 : Value) (w48 : Value) (w49 : Value) (w50 : Value) (w51 : Value) (w52 : Value) (w53 : Value) (w54 : Value) (w55 : Value) (w56 : Value) (w57 : Value) (w58 : Value) (w59 : Value) (w60 : Value) (w61 : Value) (w62 : Value) (w63 : Value) (f : Nat → Int32) : Met l yX12_keep wz_c_M_keep_1_2 ({ frames := 0, cells := 0, slots := 0, locals := 0 }) (va_Pc [.ref h0, .int 2, .int 844480495] (zB D y [(h0, .inr (16, [w1, w2, w3, w4, w5, w6, w7, w8, w9, w10, w11, w12, w13, w14, w15, w16, .ref dg, w17, w18, w19, w20, w21, w22, w23, w24, w25, w26, w27, w28, w29, w30, w31, w32, w33, w34, w35, w36, w37, w38, w39, w40, w41, w42, w43, w44, w45, w46, w47, w48, w49, w50, w51, w52, w53, w54, w55, w56, w57, w58, w59, w60, w61, w62, w63])), (dg, .inl (y 1, 32, .inl (zf tO1 8 f)))] sz [] [] [] [])) (va_Qv (fun _ : Unit => True) (fun _ t => va_P D vwCl [(h0, .inr (16, [w1, w2, w3, w4, w5, w6, w7, w8, w9, w10, w11, w12, w13, w14, w15, w16, .ref dg, w17, w18, w19, w20, w21, w22, w23, w24, w25, w26, w27, w28, w29, w30, w31, w32, w33, w34, w35, w36, w37, w38, w39, w40, w41, w42, w43, w44, w45, w46, w47, w48, w49, w50, w51, w52, w53, w54, w55, w56, w57, w58, w59, w60, w61, w62, w63])), (dg, .inl (y 1, 32, .inl (zf tO1 12 f)))] t.heap ∧ va_D (va_A [(h0, .inr (16, [w1, w2, w3, w4, w5, w6, w7, w8, w9, w10, w11, w12, w13, w14, w15, w16, .ref dg, w17, w18, w19, w20, w21, w22, w23, w24, w25, w26, w27, w28, w29, w30, w31, w32, w33, w34, w35, w36, w37, w38, w39, w40, w41, w42, w43, w44, w45, w46, w47, w48, w49, w50, w51, w52, w53, w54, w55, w56, w57, w58, w59, w60, w61, w62, w63])), (dg, .inl (y 1, 32, .inl (zf tO1 8 f)))] sz) [(h0, .inr (16, [w1, w2, w3, w4, w5, w6, w7, w8, w9, w10, w11, w12, w13, w14, w15, w16, .ref dg, w17, w18, w19, w20, w21, w22, w23, w24, w25, w26, w27, w28, w29, w30, w31, w32, w33, w34, w35, w36, w37, w38, w39, w40, w41, w42, w43, w44, w45, w46, w47, w48, w49, w50, w51, w52, w53, w54, w55, w56, w57, w58, w59, w60, w61, w62, w63])), (dg, .inl (y 1, 32, .inl (zf tO1 12 f)))]) (va_A [(h0, .inr (16, [w1, w2, w3, w4, w5, w6, w7, w8, w9, w10, w11, w12, w13, w14, w15, w16, .ref dg, w17, w18, w19, w20, w21, w22, w23, w24, w25, w26, w27, w28, w29, w30, w31, w32, w33, w34, w35, w36, w37, w38, w39, w40, w41, w42, w43, w44, w45, w46, w47, w48, w49, w50, w51, w52, w53, w54, w55, w56, w57, w58, w59, w60, w61, w62, w63])), (dg, .inl (y 1, 32, .inl (zf tO1 8 f)))] sz)) 0 0 (va_A [(h0, .inr (16, [w1, w2, w3, w4, w5, w6, w7, w8, w9, w10, w11, w12, w13, w14, w15, w16, .ref dg, w17, w18, w19, w20, w21, w22, w23, w24, w25, w26, w27, w28, w29, w30, w31, w32, w33, w34, w35, w36, w37, w38, w39, w40, w41, w42, w43, w44, w45, w46, w47, w48, w49, w50, w51, w52, w53, w54, w55, w56, w57, w58, w59, w60, w61, w62, w63])), (dg, .inl (y 1, 32, .inl (zf tO1 8 f)))] sz) := by
  refine Met.ofW (cc := cX12_keep) (maxL := 4) (ret := none) (by decide) rfl ?_
  intro p e s m args below meth c s₁ B hml hv
  obtain ⟨rfl, hsz, hP, hK, hD0, hN, hE, hO, hT, hG⟩ := hv
  have hx := B.exec
  have hb := B.bytes
  have hr := B.returns
  have hts := atoms_spec (ws := wz_c_M_keep_1_2) B.pre
  have hown : s.vm.findClass RX12 = some m.cls := findClass_of_methodNamed B.named
  have hlocks := B.notSynchronized
  subst hsz
  have hD := hD0.self (sz := s.heap.size)
  generalize hAe : va_A [(h0, .inr (16, [w1, w2, w3, w4, w5, w6, w7, w8, w9, w10, w11, w12, w13, w14, w15, w16, .ref dg, w17, w18, w19, w20, w21, w22, w23, w24, w25, w26, w27, w28, w29, w30, w31, w32, w33, w34, w35, w36, w37, w38, w39, w40, w41, w42, w43, w44, w45, w46, w47, w48, w49, w50, w51, w52, w53, w54, w55, w56, w57, w58, w59, w60, w61, w62, w63])), (dg, .inl (y 1, 32, .inl (zf tO1 8 f)))] s.heap.size = A at hD hE hT hG ⊢
  have hA : ∀ q : Nat, s.heap.size ≤ q → A q := fun q h => by rw [← hAe]; exact Or.inr h
  have hS : va_S A s.heap s.heap [] := va_S.rf
  have hl := lv_entry ([.ref h0, .int 2, .int 844480495]) (n := 4) (Nat.le_of_ble_eq_true rfl)
  rw [lg_entry_eq]
  generalize (lg_sl ([.ref h0, .int 2, .int 844480495]) ++ List.replicate (4 - (lg_sl ([.ref h0, .int 2, .int 844480495])).length) Slot.unset).toArray = ls at hl ⊢
  have hl : lv_has ls 4 [(0, .ref h0), (1, .int 2), (2, .int 844480495)] := hl
  refine lv_iconst (v := 0) hx hb dX12_keep_0 (by decide) ?_
  refine lv_istore_n (lv' := [(3, .int 0), (0, .ref h0), (1, .int 2), (2, .int 844480495)]) hx hb dX12_keep_1 rfl hl (by decide) rfl (fun ls hl => ?_)
  refine lv_iload_n hx hb dX12_keep_2 rfl (lv_at hl 0 rfl) ?_
  refine lv_iconst (v := 4) hx hb dX12_keep_3 (by decide) ?_
  refine lv_icmp_ge (tgt := 36) hx hb dX12_keep_4 (by decide) (fun c9 => absurd c9 (by decide)) (fun _ => ?_)
  refine lv_aload_n hx hb dX12_keep_7 rfl (lv_at hl 1 rfl) ?_
  refine va_get (D := D) (ci := 16) (v := .ref dg) (C := RX12) (T := TX12) (N := 64) hx hb hts (by decide +kernel) hown hK hP 0 rfl rfl 16 (by decide) (hts (.fieldLink RX12 43 "SignetRingModel" "digest" "[I") (by decide +kernel)) (fun _ h9 => h9) rfl dX12_keep_8 ?_
  refine lv_iconst (v := 4) hx hb dX12_keep_11 (by decide) ?_
  refine lv_iload_n hx hb dX12_keep_12 rfl (lv_at hl 2 rfl) ?_
  refine lv_imul hx hb dX12_keep_13 ?_
  refine lv_topi (fun v1 ev1 => ?_)
  have ev1 : v1 = 8 := ev1.trans (by decide +kernel)
  subst ev1
  refine lv_iload_n hx hb dX12_keep_14 rfl (lv_at hl 0 rfl) ?_
  refine lv_iadd hx hb dX12_keep_15 ?_
  refine lv_topi (fun v2 ev2 => ?_)
  have ev2 : v2 = 8 := ev2.trans (by decide +kernel)
  subst ev2
  refine lv_iload_n hx hb dX12_keep_16 rfl (lv_at hl 3 rfl) ?_
  refine lv_bipush (v := 24) hx hb dX12_keep_17 (by decide) ?_
  refine lv_bipush (v := 8) hx hb dX12_keep_19 (by decide) ?_
  refine lv_iload_n hx hb dX12_keep_21 rfl (lv_at hl 0 rfl) ?_
  refine lv_imul hx hb dX12_keep_22 ?_
  refine lv_topi (fun v3 ev3 => ?_)
  have ev3 : v3 = 0 := ev3.trans (by decide +kernel)
  subst ev3
  refine lv_isub hx hb dX12_keep_23 ?_
  refine lv_topi (fun v4 ev4 => ?_)
  have ev4 : v4 = 24 := ev4.trans (by decide +kernel)
  subst ev4
  refine lv_iushr (v := zu (844480495 : Int32) (24 : Int32)) hx hb dX12_keep_24 rfl ?_
  refine lv_topi (fun v5 ev5 => ?_)
  have ev5 : v5 = 50 := ev5.trans (by decide +kernel)
  subst ev5
  refine lv_sipush (v := 255) hx hb dX12_keep_25 (by decide) ?_
  refine lv_iand hx hb dX12_keep_28 ?_
  refine lv_topi (fun v6 ev6 => ?_)
  have ev6 : v6 = 50 := ev6.trans (by decide +kernel)
  subst ev6
  refine va_iast hx hb hK hP hD hS 1 1 rfl rfl (by unfold vp_in; decide) dX12_keep_29 (fun H locs hP hD hS => ?_)
  have hP : va_P D vwCl [(h0, .inr (16, [w1, w2, w3, w4, w5, w6, w7, w8, w9, w10, w11, w12, w13, w14, w15, w16, .ref dg, w17, w18, w19, w20, w21, w22, w23, w24, w25, w26, w27, w28, w29, w30, w31, w32, w33, w34, w35, w36, w37, w38, w39, w40, w41, w42, w43, w44, w45, w46, w47, w48, w49, w50, w51, w52, w53, w54, w55, w56, w57, w58, w59, w60, w61, w62, w63])), (dg, .inl (y 1, 32, .inl (upd (zf tO1 8 f) (nI 8).toNatClampNeg (50 : Int32))))] H := hP
  have hD : va_D A [(h0, .inr (16, [w1, w2, w3, w4, w5, w6, w7, w8, w9, w10, w11, w12, w13, w14, w15, w16, .ref dg, w17, w18, w19, w20, w21, w22, w23, w24, w25, w26, w27, w28, w29, w30, w31, w32, w33, w34, w35, w36, w37, w38, w39, w40, w41, w42, w43, w44, w45, w46, w47, w48, w49, w50, w51, w52, w53, w54, w55, w56, w57, w58, w59, w60, w61, w62, w63])), (dg, .inl (y 1, 32, .inl (upd (zf tO1 8 f) (nI 8).toNatClampNeg (50 : Int32))))] := hD
  have u7 : upd (zf tO1 8 f) (nI 8).toNatClampNeg (50 : Int32) = zf tO1 9 f := (zf_st (n := 8) (by decide) (by decide +kernel))
  rw [u7] at hP hD
  have hP : va_P D vwCl [(h0, .inr (16, [w1, w2, w3, w4, w5, w6, w7, w8, w9, w10, w11, w12, w13, w14, w15, w16, .ref dg, w17, w18, w19, w20, w21, w22, w23, w24, w25, w26, w27, w28, w29, w30, w31, w32, w33, w34, w35, w36, w37, w38, w39, w40, w41, w42, w43, w44, w45, w46, w47, w48, w49, w50, w51, w52, w53, w54, w55, w56, w57, w58, w59, w60, w61, w62, w63])), (dg, .inl (y 1, 32, .inl (zf tO1 9 f)))] H := hP
  have hD : va_D A [(h0, .inr (16, [w1, w2, w3, w4, w5, w6, w7, w8, w9, w10, w11, w12, w13, w14, w15, w16, .ref dg, w17, w18, w19, w20, w21, w22, w23, w24, w25, w26, w27, w28, w29, w30, w31, w32, w33, w34, w35, w36, w37, w38, w39, w40, w41, w42, w43, w44, w45, w46, w47, w48, w49, w50, w51, w52, w53, w54, w55, w56, w57, w58, w59, w60, w61, w62, w63])), (dg, .inl (y 1, 32, .inl (zf tO1 9 f)))] := hD
  refine lv_iinc (v := 1) (lv' := [(3, .int 1), (0, .ref h0), (1, .int 2), (2, .int 844480495)]) hx hb dX12_keep_30 hl (k := 0) rfl (by decide) (by decide) rfl (fun ls hl => ?_)
  refine lv_goto (tgt := 2) hx hb dX12_keep_33 (by decide) ?_
  refine lv_iload_n hx hb dX12_keep_2 rfl (lv_at hl 0 rfl) ?_
  refine lv_iconst (v := 4) hx hb dX12_keep_3 (by decide) ?_
  refine lv_icmp_ge (tgt := 36) hx hb dX12_keep_4 (by decide) (fun c9 => absurd c9 (by decide)) (fun _ => ?_)
  refine lv_aload_n hx hb dX12_keep_7 rfl (lv_at hl 1 rfl) ?_
  refine va_get (D := D) (ci := 16) (v := .ref dg) (C := RX12) (T := TX12) (N := 64) hx hb hts (by decide +kernel) hown hK hP 0 rfl rfl 16 (by decide) (hts (.fieldLink RX12 43 "SignetRingModel" "digest" "[I") (by decide +kernel)) (fun _ h9 => h9) rfl dX12_keep_8 ?_
  refine lv_iconst (v := 4) hx hb dX12_keep_11 (by decide) ?_
  refine lv_iload_n hx hb dX12_keep_12 rfl (lv_at hl 2 rfl) ?_
  refine lv_imul hx hb dX12_keep_13 ?_
  refine lv_topi (fun v8 ev8 => ?_)
  have ev8 : v8 = 8 := ev8.trans (by decide +kernel)
  subst ev8
  refine lv_iload_n hx hb dX12_keep_14 rfl (lv_at hl 0 rfl) ?_
  refine lv_iadd hx hb dX12_keep_15 ?_
  refine lv_topi (fun v9 ev9 => ?_)
  have ev9 : v9 = 9 := ev9.trans (by decide +kernel)
  subst ev9
  refine lv_iload_n hx hb dX12_keep_16 rfl (lv_at hl 3 rfl) ?_
  refine lv_bipush (v := 24) hx hb dX12_keep_17 (by decide) ?_
  refine lv_bipush (v := 8) hx hb dX12_keep_19 (by decide) ?_
  refine lv_iload_n hx hb dX12_keep_21 rfl (lv_at hl 0 rfl) ?_
  refine lv_imul hx hb dX12_keep_22 ?_
  refine lv_topi (fun v10 ev10 => ?_)
  have ev10 : v10 = 8 := ev10.trans (by decide +kernel)
  subst ev10
  refine lv_isub hx hb dX12_keep_23 ?_
  refine lv_topi (fun v11 ev11 => ?_)
  have ev11 : v11 = 16 := ev11.trans (by decide +kernel)
  subst ev11
  refine lv_iushr (v := zu (844480495 : Int32) (16 : Int32)) hx hb dX12_keep_24 rfl ?_
  refine lv_topi (fun v12 ev12 => ?_)
  have ev12 : v12 = 12885 := ev12.trans (by decide +kernel)
  subst ev12
  refine lv_sipush (v := 255) hx hb dX12_keep_25 (by decide) ?_
  refine lv_iand hx hb dX12_keep_28 ?_
  refine lv_topi (fun v13 ev13 => ?_)
  have ev13 : v13 = 85 := ev13.trans (by decide +kernel)
  subst ev13
  refine va_iast hx hb hK hP hD hS 1 1 rfl rfl (by unfold vp_in; decide) dX12_keep_29 (fun H locs hP hD hS => ?_)
  have hP : va_P D vwCl [(h0, .inr (16, [w1, w2, w3, w4, w5, w6, w7, w8, w9, w10, w11, w12, w13, w14, w15, w16, .ref dg, w17, w18, w19, w20, w21, w22, w23, w24, w25, w26, w27, w28, w29, w30, w31, w32, w33, w34, w35, w36, w37, w38, w39, w40, w41, w42, w43, w44, w45, w46, w47, w48, w49, w50, w51, w52, w53, w54, w55, w56, w57, w58, w59, w60, w61, w62, w63])), (dg, .inl (y 1, 32, .inl (upd (zf tO1 9 f) (nI 9).toNatClampNeg (85 : Int32))))] H := hP
  have hD : va_D A [(h0, .inr (16, [w1, w2, w3, w4, w5, w6, w7, w8, w9, w10, w11, w12, w13, w14, w15, w16, .ref dg, w17, w18, w19, w20, w21, w22, w23, w24, w25, w26, w27, w28, w29, w30, w31, w32, w33, w34, w35, w36, w37, w38, w39, w40, w41, w42, w43, w44, w45, w46, w47, w48, w49, w50, w51, w52, w53, w54, w55, w56, w57, w58, w59, w60, w61, w62, w63])), (dg, .inl (y 1, 32, .inl (upd (zf tO1 9 f) (nI 9).toNatClampNeg (85 : Int32))))] := hD
  have u14 : upd (zf tO1 9 f) (nI 9).toNatClampNeg (85 : Int32) = zf tO1 10 f := (zf_st (n := 9) (by decide) (by decide +kernel))
  rw [u14] at hP hD
  have hP : va_P D vwCl [(h0, .inr (16, [w1, w2, w3, w4, w5, w6, w7, w8, w9, w10, w11, w12, w13, w14, w15, w16, .ref dg, w17, w18, w19, w20, w21, w22, w23, w24, w25, w26, w27, w28, w29, w30, w31, w32, w33, w34, w35, w36, w37, w38, w39, w40, w41, w42, w43, w44, w45, w46, w47, w48, w49, w50, w51, w52, w53, w54, w55, w56, w57, w58, w59, w60, w61, w62, w63])), (dg, .inl (y 1, 32, .inl (zf tO1 10 f)))] H := hP
  have hD : va_D A [(h0, .inr (16, [w1, w2, w3, w4, w5, w6, w7, w8, w9, w10, w11, w12, w13, w14, w15, w16, .ref dg, w17, w18, w19, w20, w21, w22, w23, w24, w25, w26, w27, w28, w29, w30, w31, w32, w33, w34, w35, w36, w37, w38, w39, w40, w41, w42, w43, w44, w45, w46, w47, w48, w49, w50, w51, w52, w53, w54, w55, w56, w57, w58, w59, w60, w61, w62, w63])), (dg, .inl (y 1, 32, .inl (zf tO1 10 f)))] := hD
  refine lv_iinc (v := 2) (lv' := [(3, .int 2), (0, .ref h0), (1, .int 2), (2, .int 844480495)]) hx hb dX12_keep_30 hl (k := 0) rfl (by decide) (by decide) rfl (fun ls hl => ?_)
  refine lv_goto (tgt := 2) hx hb dX12_keep_33 (by decide) ?_
  refine lv_iload_n hx hb dX12_keep_2 rfl (lv_at hl 0 rfl) ?_
  refine lv_iconst (v := 4) hx hb dX12_keep_3 (by decide) ?_
  refine lv_icmp_ge (tgt := 36) hx hb dX12_keep_4 (by decide) (fun c9 => absurd c9 (by decide)) (fun _ => ?_)
  refine lv_aload_n hx hb dX12_keep_7 rfl (lv_at hl 1 rfl) ?_
  refine va_get (D := D) (ci := 16) (v := .ref dg) (C := RX12) (T := TX12) (N := 64) hx hb hts (by decide +kernel) hown hK hP 0 rfl rfl 16 (by decide) (hts (.fieldLink RX12 43 "SignetRingModel" "digest" "[I") (by decide +kernel)) (fun _ h9 => h9) rfl dX12_keep_8 ?_
  refine lv_iconst (v := 4) hx hb dX12_keep_11 (by decide) ?_
  refine lv_iload_n hx hb dX12_keep_12 rfl (lv_at hl 2 rfl) ?_
  refine lv_imul hx hb dX12_keep_13 ?_
  refine lv_topi (fun v15 ev15 => ?_)
  have ev15 : v15 = 8 := ev15.trans (by decide +kernel)
  subst ev15
  refine lv_iload_n hx hb dX12_keep_14 rfl (lv_at hl 0 rfl) ?_
  refine lv_iadd hx hb dX12_keep_15 ?_
  refine lv_topi (fun v16 ev16 => ?_)
  have ev16 : v16 = 10 := ev16.trans (by decide +kernel)
  subst ev16
  refine lv_iload_n hx hb dX12_keep_16 rfl (lv_at hl 3 rfl) ?_
  refine lv_bipush (v := 24) hx hb dX12_keep_17 (by decide) ?_
  refine lv_bipush (v := 8) hx hb dX12_keep_19 (by decide) ?_
  refine lv_iload_n hx hb dX12_keep_21 rfl (lv_at hl 0 rfl) ?_
  refine lv_imul hx hb dX12_keep_22 ?_
  refine lv_topi (fun v17 ev17 => ?_)
  have ev17 : v17 = 16 := ev17.trans (by decide +kernel)
  subst ev17
  refine lv_isub hx hb dX12_keep_23 ?_
  refine lv_topi (fun v18 ev18 => ?_)
  have ev18 : v18 = 8 := ev18.trans (by decide +kernel)
  subst ev18
  refine lv_iushr (v := zu (844480495 : Int32) (8 : Int32)) hx hb dX12_keep_24 rfl ?_
  refine lv_topi (fun v19 ev19 => ?_)
  have ev19 : v19 = 3298751 := ev19.trans (by decide +kernel)
  subst ev19
  refine lv_sipush (v := 255) hx hb dX12_keep_25 (by decide) ?_
  refine lv_iand hx hb dX12_keep_28 ?_
  refine lv_topi (fun v20 ev20 => ?_)
  have ev20 : v20 = 191 := ev20.trans (by decide +kernel)
  subst ev20
  refine va_iast hx hb hK hP hD hS 1 1 rfl rfl (by unfold vp_in; decide) dX12_keep_29 (fun H locs hP hD hS => ?_)
  have hP : va_P D vwCl [(h0, .inr (16, [w1, w2, w3, w4, w5, w6, w7, w8, w9, w10, w11, w12, w13, w14, w15, w16, .ref dg, w17, w18, w19, w20, w21, w22, w23, w24, w25, w26, w27, w28, w29, w30, w31, w32, w33, w34, w35, w36, w37, w38, w39, w40, w41, w42, w43, w44, w45, w46, w47, w48, w49, w50, w51, w52, w53, w54, w55, w56, w57, w58, w59, w60, w61, w62, w63])), (dg, .inl (y 1, 32, .inl (upd (zf tO1 10 f) (nI 10).toNatClampNeg (191 : Int32))))] H := hP
  have hD : va_D A [(h0, .inr (16, [w1, w2, w3, w4, w5, w6, w7, w8, w9, w10, w11, w12, w13, w14, w15, w16, .ref dg, w17, w18, w19, w20, w21, w22, w23, w24, w25, w26, w27, w28, w29, w30, w31, w32, w33, w34, w35, w36, w37, w38, w39, w40, w41, w42, w43, w44, w45, w46, w47, w48, w49, w50, w51, w52, w53, w54, w55, w56, w57, w58, w59, w60, w61, w62, w63])), (dg, .inl (y 1, 32, .inl (upd (zf tO1 10 f) (nI 10).toNatClampNeg (191 : Int32))))] := hD
  have u21 : upd (zf tO1 10 f) (nI 10).toNatClampNeg (191 : Int32) = zf tO1 11 f := (zf_st (n := 10) (by decide) (by decide +kernel))
  rw [u21] at hP hD
  have hP : va_P D vwCl [(h0, .inr (16, [w1, w2, w3, w4, w5, w6, w7, w8, w9, w10, w11, w12, w13, w14, w15, w16, .ref dg, w17, w18, w19, w20, w21, w22, w23, w24, w25, w26, w27, w28, w29, w30, w31, w32, w33, w34, w35, w36, w37, w38, w39, w40, w41, w42, w43, w44, w45, w46, w47, w48, w49, w50, w51, w52, w53, w54, w55, w56, w57, w58, w59, w60, w61, w62, w63])), (dg, .inl (y 1, 32, .inl (zf tO1 11 f)))] H := hP
  have hD : va_D A [(h0, .inr (16, [w1, w2, w3, w4, w5, w6, w7, w8, w9, w10, w11, w12, w13, w14, w15, w16, .ref dg, w17, w18, w19, w20, w21, w22, w23, w24, w25, w26, w27, w28, w29, w30, w31, w32, w33, w34, w35, w36, w37, w38, w39, w40, w41, w42, w43, w44, w45, w46, w47, w48, w49, w50, w51, w52, w53, w54, w55, w56, w57, w58, w59, w60, w61, w62, w63])), (dg, .inl (y 1, 32, .inl (zf tO1 11 f)))] := hD
  refine lv_iinc (v := 3) (lv' := [(3, .int 3), (0, .ref h0), (1, .int 2), (2, .int 844480495)]) hx hb dX12_keep_30 hl (k := 0) rfl (by decide) (by decide) rfl (fun ls hl => ?_)
  refine lv_goto (tgt := 2) hx hb dX12_keep_33 (by decide) ?_
  refine lv_iload_n hx hb dX12_keep_2 rfl (lv_at hl 0 rfl) ?_
  refine lv_iconst (v := 4) hx hb dX12_keep_3 (by decide) ?_
  refine lv_icmp_ge (tgt := 36) hx hb dX12_keep_4 (by decide) (fun c9 => absurd c9 (by decide)) (fun _ => ?_)
  refine lv_aload_n hx hb dX12_keep_7 rfl (lv_at hl 1 rfl) ?_
  refine va_get (D := D) (ci := 16) (v := .ref dg) (C := RX12) (T := TX12) (N := 64) hx hb hts (by decide +kernel) hown hK hP 0 rfl rfl 16 (by decide) (hts (.fieldLink RX12 43 "SignetRingModel" "digest" "[I") (by decide +kernel)) (fun _ h9 => h9) rfl dX12_keep_8 ?_
  refine lv_iconst (v := 4) hx hb dX12_keep_11 (by decide) ?_
  refine lv_iload_n hx hb dX12_keep_12 rfl (lv_at hl 2 rfl) ?_
  refine lv_imul hx hb dX12_keep_13 ?_
  refine lv_topi (fun v22 ev22 => ?_)
  have ev22 : v22 = 8 := ev22.trans (by decide +kernel)
  subst ev22
  refine lv_iload_n hx hb dX12_keep_14 rfl (lv_at hl 0 rfl) ?_
  refine lv_iadd hx hb dX12_keep_15 ?_
  refine lv_topi (fun v23 ev23 => ?_)
  have ev23 : v23 = 11 := ev23.trans (by decide +kernel)
  subst ev23
  refine lv_iload_n hx hb dX12_keep_16 rfl (lv_at hl 3 rfl) ?_
  refine lv_bipush (v := 24) hx hb dX12_keep_17 (by decide) ?_
  refine lv_bipush (v := 8) hx hb dX12_keep_19 (by decide) ?_
  refine lv_iload_n hx hb dX12_keep_21 rfl (lv_at hl 0 rfl) ?_
  refine lv_imul hx hb dX12_keep_22 ?_
  refine lv_topi (fun v24 ev24 => ?_)
  have ev24 : v24 = 24 := ev24.trans (by decide +kernel)
  subst ev24
  refine lv_isub hx hb dX12_keep_23 ?_
  refine lv_topi (fun v25 ev25 => ?_)
  have ev25 : v25 = 0 := ev25.trans (by decide +kernel)
  subst ev25
  refine lv_iushr (v := zu (844480495 : Int32) (0 : Int32)) hx hb dX12_keep_24 rfl ?_
  refine lv_topi (fun v26 ev26 => ?_)
  have ev26 : v26 = 844480495 := ev26.trans (by decide +kernel)
  subst ev26
  refine lv_sipush (v := 255) hx hb dX12_keep_25 (by decide) ?_
  refine lv_iand hx hb dX12_keep_28 ?_
  refine lv_topi (fun v27 ev27 => ?_)
  have ev27 : v27 = 239 := ev27.trans (by decide +kernel)
  subst ev27
  refine va_iast hx hb hK hP hD hS 1 1 rfl rfl (by unfold vp_in; decide) dX12_keep_29 (fun H locs hP hD hS => ?_)
  have hP : va_P D vwCl [(h0, .inr (16, [w1, w2, w3, w4, w5, w6, w7, w8, w9, w10, w11, w12, w13, w14, w15, w16, .ref dg, w17, w18, w19, w20, w21, w22, w23, w24, w25, w26, w27, w28, w29, w30, w31, w32, w33, w34, w35, w36, w37, w38, w39, w40, w41, w42, w43, w44, w45, w46, w47, w48, w49, w50, w51, w52, w53, w54, w55, w56, w57, w58, w59, w60, w61, w62, w63])), (dg, .inl (y 1, 32, .inl (upd (zf tO1 11 f) (nI 11).toNatClampNeg (239 : Int32))))] H := hP
  have hD : va_D A [(h0, .inr (16, [w1, w2, w3, w4, w5, w6, w7, w8, w9, w10, w11, w12, w13, w14, w15, w16, .ref dg, w17, w18, w19, w20, w21, w22, w23, w24, w25, w26, w27, w28, w29, w30, w31, w32, w33, w34, w35, w36, w37, w38, w39, w40, w41, w42, w43, w44, w45, w46, w47, w48, w49, w50, w51, w52, w53, w54, w55, w56, w57, w58, w59, w60, w61, w62, w63])), (dg, .inl (y 1, 32, .inl (upd (zf tO1 11 f) (nI 11).toNatClampNeg (239 : Int32))))] := hD
  have u28 : upd (zf tO1 11 f) (nI 11).toNatClampNeg (239 : Int32) = zf tO1 12 f := (zf_st (n := 11) (by decide) (by decide +kernel))
  rw [u28] at hP hD
  have hP : va_P D vwCl [(h0, .inr (16, [w1, w2, w3, w4, w5, w6, w7, w8, w9, w10, w11, w12, w13, w14, w15, w16, .ref dg, w17, w18, w19, w20, w21, w22, w23, w24, w25, w26, w27, w28, w29, w30, w31, w32, w33, w34, w35, w36, w37, w38, w39, w40, w41, w42, w43, w44, w45, w46, w47, w48, w49, w50, w51, w52, w53, w54, w55, w56, w57, w58, w59, w60, w61, w62, w63])), (dg, .inl (y 1, 32, .inl (zf tO1 12 f)))] H := hP
  have hD : va_D A [(h0, .inr (16, [w1, w2, w3, w4, w5, w6, w7, w8, w9, w10, w11, w12, w13, w14, w15, w16, .ref dg, w17, w18, w19, w20, w21, w22, w23, w24, w25, w26, w27, w28, w29, w30, w31, w32, w33, w34, w35, w36, w37, w38, w39, w40, w41, w42, w43, w44, w45, w46, w47, w48, w49, w50, w51, w52, w53, w54, w55, w56, w57, w58, w59, w60, w61, w62, w63])), (dg, .inl (y 1, 32, .inl (zf tO1 12 f)))] := hD
  refine lv_iinc (v := 4) (lv' := [(3, .int 4), (0, .ref h0), (1, .int 2), (2, .int 844480495)]) hx hb dX12_keep_30 hl (k := 0) rfl (by decide) (by decide) rfl (fun ls hl => ?_)
  refine lv_goto (tgt := 2) hx hb dX12_keep_33 (by decide) ?_
  refine lv_iload_n hx hb dX12_keep_2 rfl (lv_at hl 0 rfl) ?_
  refine lv_iconst (v := 4) hx hb dX12_keep_3 (by decide) ?_
  refine lv_icmp_ge (tgt := 36) hx hb dX12_keep_4 (by decide) (fun _ => ?_) (fun c9 => absurd (by decide) c9)
  have hP9 := hP.sub (ws' := [(h0, .inr (16, [w1, w2, w3, w4, w5, w6, w7, w8, w9, w10, w11, w12, w13, w14, w15, w16, .ref dg, w17, w18, w19, w20, w21, w22, w23, w24, w25, w26, w27, w28, w29, w30, w31, w32, w33, w34, w35, w36, w37, w38, w39, w40, w41, w42, w43, w44, w45, w46, w47, w48, w49, w50, w51, w52, w53, w54, w55, w56, w57, w58, w59, w60, w61, w62, w63])), (dg, .inl (y 1, 32, .inl (zf tO1 12 f)))]) [0, 1] rfl
  have hD9 := hD.sub (ws' := [(h0, .inr (16, [w1, w2, w3, w4, w5, w6, w7, w8, w9, w10, w11, w12, w13, w14, w15, w16, .ref dg, w17, w18, w19, w20, w21, w22, w23, w24, w25, w26, w27, w28, w29, w30, w31, w32, w33, w34, w35, w36, w37, w38, w39, w40, w41, w42, w43, w44, w45, w46, w47, w48, w49, w50, w51, w52, w53, w54, w55, w56, w57, w58, w59, w60, w61, w62, w63])), (dg, .inl (y 1, 32, .inl (zf tO1 12 f)))]) [0, 1] (by decide) rfl
  refine W.widen (k := 0) (n := 0) (Nat.le_of_ble_eq_true rfl) (Nat.le_of_ble_eq_true rfl) ?_
  exact W.vret hx hb hr (fun t ht hW => ⟨⟨(), rfl, trivial, by rw [ht]; exact hP9, hD9⟩, hS.F ht⟩) hS.2.2 dX12_keep_36
def wz_c_M_keep_1_3 : List Cond := .code yX12_keep cX12_keep 4 none :: ([.fieldLink RX12 43 "SignetRingModel" "digest" "[I"] ++ (wsX120 ++ ([])))
set_option maxHeartbeats 4000000 in
set_option maxRecDepth 100000 in
theorem c_M_keep_1_3 (l : Launch) (D : va_G) (y : Nat → ClassId) (sz : Nat) (h0 : Nat) (dg : Nat) (w1 : Value) (w2 : Value) (w3 : Value) (w4 : Value) (w5 : Value) (w6 : Value) (w7 : Value) (w8 : Value) (w9 : Value) (w10 : Value) (w11 : Value) (w12 : Value) (w13 : Value) (w14 : Value) (w15 : Value) (w16 : Value) (w17 : Value) (w18 : Value) (w19 : Value) (w20 : Value) (w21 : Value) (w22 : Value) (w23 : Value) (w24 : Value) (w25 : Value) (w26 : Value) (w27 : Value) (w28 : Value) (w29 : Value) (w30 : Value) (w31 : Value) (w32 : Value) (w33 : Value) (w34 : Value) (w35 : Value) (w36 : Value) (w37 : Value) (w38 : Value) (w39 : Value) (w40 : Value) (w41 : Value) (w42 : Value) (w43 : Value) (w44 : Value) (w45 : Value) (w46 : Value) (w47 : Value) (w48 : Value) (w49 : Value) (w50 : Value) (w51 : Value) (w52 : Value) (w53 : Value) (w54 : Value) (w55 : Value) (w56 : Value) (w57 : Value) (w58 : Value) (w59 : Value) (w60 : Value) (w61 : Value) (w62 : Value) (w63 : Value) (f : Nat → Int32) : Met l yX12_keep wz_c_M_keep_1_3 ({ frames := 0, cells := 0, slots := 0, locals := 0 }) (va_Pc [.ref h0, .int 3, .int (-1788864368)] (zB D y [(h0, .inr (16, [w1, w2, w3, w4, w5, w6, w7, w8, w9, w10, w11, w12, w13, w14, w15, w16, .ref dg, w17, w18, w19, w20, w21, w22, w23, w24, w25, w26, w27, w28, w29, w30, w31, w32, w33, w34, w35, w36, w37, w38, w39, w40, w41, w42, w43, w44, w45, w46, w47, w48, w49, w50, w51, w52, w53, w54, w55, w56, w57, w58, w59, w60, w61, w62, w63])), (dg, .inl (y 1, 32, .inl (zf tO1 12 f)))] sz [] [] [] [])) (va_Qv (fun _ : Unit => True) (fun _ t => va_P D vwCl [(h0, .inr (16, [w1, w2, w3, w4, w5, w6, w7, w8, w9, w10, w11, w12, w13, w14, w15, w16, .ref dg, w17, w18, w19, w20, w21, w22, w23, w24, w25, w26, w27, w28, w29, w30, w31, w32, w33, w34, w35, w36, w37, w38, w39, w40, w41, w42, w43, w44, w45, w46, w47, w48, w49, w50, w51, w52, w53, w54, w55, w56, w57, w58, w59, w60, w61, w62, w63])), (dg, .inl (y 1, 32, .inl (zf tO1 16 f)))] t.heap ∧ va_D (va_A [(h0, .inr (16, [w1, w2, w3, w4, w5, w6, w7, w8, w9, w10, w11, w12, w13, w14, w15, w16, .ref dg, w17, w18, w19, w20, w21, w22, w23, w24, w25, w26, w27, w28, w29, w30, w31, w32, w33, w34, w35, w36, w37, w38, w39, w40, w41, w42, w43, w44, w45, w46, w47, w48, w49, w50, w51, w52, w53, w54, w55, w56, w57, w58, w59, w60, w61, w62, w63])), (dg, .inl (y 1, 32, .inl (zf tO1 12 f)))] sz) [(h0, .inr (16, [w1, w2, w3, w4, w5, w6, w7, w8, w9, w10, w11, w12, w13, w14, w15, w16, .ref dg, w17, w18, w19, w20, w21, w22, w23, w24, w25, w26, w27, w28, w29, w30, w31, w32, w33, w34, w35, w36, w37, w38, w39, w40, w41, w42, w43, w44, w45, w46, w47, w48, w49, w50, w51, w52, w53, w54, w55, w56, w57, w58, w59, w60, w61, w62, w63])), (dg, .inl (y 1, 32, .inl (zf tO1 16 f)))]) (va_A [(h0, .inr (16, [w1, w2, w3, w4, w5, w6, w7, w8, w9, w10, w11, w12, w13, w14, w15, w16, .ref dg, w17, w18, w19, w20, w21, w22, w23, w24, w25, w26, w27, w28, w29, w30, w31, w32, w33, w34, w35, w36, w37, w38, w39, w40, w41, w42, w43, w44, w45, w46, w47, w48, w49, w50, w51, w52, w53, w54, w55, w56, w57, w58, w59, w60, w61, w62, w63])), (dg, .inl (y 1, 32, .inl (zf tO1 12 f)))] sz)) 0 0 (va_A [(h0, .inr (16, [w1, w2, w3, w4, w5, w6, w7, w8, w9, w10, w11, w12, w13, w14, w15, w16, .ref dg, w17, w18, w19, w20, w21, w22, w23, w24, w25, w26, w27, w28, w29, w30, w31, w32, w33, w34, w35, w36, w37, w38, w39, w40, w41, w42, w43, w44, w45, w46, w47, w48, w49, w50, w51, w52, w53, w54, w55, w56, w57, w58, w59, w60, w61, w62, w63])), (dg, .inl (y 1, 32, .inl (zf tO1 12 f)))] sz) := by
  refine Met.ofW (cc := cX12_keep) (maxL := 4) (ret := none) (by decide) rfl ?_
  intro p e s m args below meth c s₁ B hml hv
  obtain ⟨rfl, hsz, hP, hK, hD0, hN, hE, hO, hT, hG⟩ := hv
  have hx := B.exec
  have hb := B.bytes
  have hr := B.returns
  have hts := atoms_spec (ws := wz_c_M_keep_1_3) B.pre
  have hown : s.vm.findClass RX12 = some m.cls := findClass_of_methodNamed B.named
  have hlocks := B.notSynchronized
  subst hsz
  have hD := hD0.self (sz := s.heap.size)
  generalize hAe : va_A [(h0, .inr (16, [w1, w2, w3, w4, w5, w6, w7, w8, w9, w10, w11, w12, w13, w14, w15, w16, .ref dg, w17, w18, w19, w20, w21, w22, w23, w24, w25, w26, w27, w28, w29, w30, w31, w32, w33, w34, w35, w36, w37, w38, w39, w40, w41, w42, w43, w44, w45, w46, w47, w48, w49, w50, w51, w52, w53, w54, w55, w56, w57, w58, w59, w60, w61, w62, w63])), (dg, .inl (y 1, 32, .inl (zf tO1 12 f)))] s.heap.size = A at hD hE hT hG ⊢
  have hA : ∀ q : Nat, s.heap.size ≤ q → A q := fun q h => by rw [← hAe]; exact Or.inr h
  have hS : va_S A s.heap s.heap [] := va_S.rf
  have hl := lv_entry ([.ref h0, .int 3, .int (-1788864368)]) (n := 4) (Nat.le_of_ble_eq_true rfl)
  rw [lg_entry_eq]
  generalize (lg_sl ([.ref h0, .int 3, .int (-1788864368)]) ++ List.replicate (4 - (lg_sl ([.ref h0, .int 3, .int (-1788864368)])).length) Slot.unset).toArray = ls at hl ⊢
  have hl : lv_has ls 4 [(0, .ref h0), (1, .int 3), (2, .int (-1788864368))] := hl
  refine lv_iconst (v := 0) hx hb dX12_keep_0 (by decide) ?_
  refine lv_istore_n (lv' := [(3, .int 0), (0, .ref h0), (1, .int 3), (2, .int (-1788864368))]) hx hb dX12_keep_1 rfl hl (by decide) rfl (fun ls hl => ?_)
  refine lv_iload_n hx hb dX12_keep_2 rfl (lv_at hl 0 rfl) ?_
  refine lv_iconst (v := 4) hx hb dX12_keep_3 (by decide) ?_
  refine lv_icmp_ge (tgt := 36) hx hb dX12_keep_4 (by decide) (fun c9 => absurd c9 (by decide)) (fun _ => ?_)
  refine lv_aload_n hx hb dX12_keep_7 rfl (lv_at hl 1 rfl) ?_
  refine va_get (D := D) (ci := 16) (v := .ref dg) (C := RX12) (T := TX12) (N := 64) hx hb hts (by decide +kernel) hown hK hP 0 rfl rfl 16 (by decide) (hts (.fieldLink RX12 43 "SignetRingModel" "digest" "[I") (by decide +kernel)) (fun _ h9 => h9) rfl dX12_keep_8 ?_
  refine lv_iconst (v := 4) hx hb dX12_keep_11 (by decide) ?_
  refine lv_iload_n hx hb dX12_keep_12 rfl (lv_at hl 2 rfl) ?_
  refine lv_imul hx hb dX12_keep_13 ?_
  refine lv_topi (fun v1 ev1 => ?_)
  have ev1 : v1 = 12 := ev1.trans (by decide +kernel)
  subst ev1
  refine lv_iload_n hx hb dX12_keep_14 rfl (lv_at hl 0 rfl) ?_
  refine lv_iadd hx hb dX12_keep_15 ?_
  refine lv_topi (fun v2 ev2 => ?_)
  have ev2 : v2 = 12 := ev2.trans (by decide +kernel)
  subst ev2
  refine lv_iload_n hx hb dX12_keep_16 rfl (lv_at hl 3 rfl) ?_
  refine lv_bipush (v := 24) hx hb dX12_keep_17 (by decide) ?_
  refine lv_bipush (v := 8) hx hb dX12_keep_19 (by decide) ?_
  refine lv_iload_n hx hb dX12_keep_21 rfl (lv_at hl 0 rfl) ?_
  refine lv_imul hx hb dX12_keep_22 ?_
  refine lv_topi (fun v3 ev3 => ?_)
  have ev3 : v3 = 0 := ev3.trans (by decide +kernel)
  subst ev3
  refine lv_isub hx hb dX12_keep_23 ?_
  refine lv_topi (fun v4 ev4 => ?_)
  have ev4 : v4 = 24 := ev4.trans (by decide +kernel)
  subst ev4
  refine lv_iushr (v := zu (-1788864368 : Int32) (24 : Int32)) hx hb dX12_keep_24 rfl ?_
  refine lv_topi (fun v5 ev5 => ?_)
  have ev5 : v5 = 149 := ev5.trans (by decide +kernel)
  subst ev5
  refine lv_sipush (v := 255) hx hb dX12_keep_25 (by decide) ?_
  refine lv_iand hx hb dX12_keep_28 ?_
  refine lv_topi (fun v6 ev6 => ?_)
  have ev6 : v6 = 149 := ev6.trans (by decide +kernel)
  subst ev6
  refine va_iast hx hb hK hP hD hS 1 1 rfl rfl (by unfold vp_in; decide) dX12_keep_29 (fun H locs hP hD hS => ?_)
  have hP : va_P D vwCl [(h0, .inr (16, [w1, w2, w3, w4, w5, w6, w7, w8, w9, w10, w11, w12, w13, w14, w15, w16, .ref dg, w17, w18, w19, w20, w21, w22, w23, w24, w25, w26, w27, w28, w29, w30, w31, w32, w33, w34, w35, w36, w37, w38, w39, w40, w41, w42, w43, w44, w45, w46, w47, w48, w49, w50, w51, w52, w53, w54, w55, w56, w57, w58, w59, w60, w61, w62, w63])), (dg, .inl (y 1, 32, .inl (upd (zf tO1 12 f) (nI 12).toNatClampNeg (149 : Int32))))] H := hP
  have hD : va_D A [(h0, .inr (16, [w1, w2, w3, w4, w5, w6, w7, w8, w9, w10, w11, w12, w13, w14, w15, w16, .ref dg, w17, w18, w19, w20, w21, w22, w23, w24, w25, w26, w27, w28, w29, w30, w31, w32, w33, w34, w35, w36, w37, w38, w39, w40, w41, w42, w43, w44, w45, w46, w47, w48, w49, w50, w51, w52, w53, w54, w55, w56, w57, w58, w59, w60, w61, w62, w63])), (dg, .inl (y 1, 32, .inl (upd (zf tO1 12 f) (nI 12).toNatClampNeg (149 : Int32))))] := hD
  have u7 : upd (zf tO1 12 f) (nI 12).toNatClampNeg (149 : Int32) = zf tO1 13 f := (zf_st (n := 12) (by decide) (by decide +kernel))
  rw [u7] at hP hD
  have hP : va_P D vwCl [(h0, .inr (16, [w1, w2, w3, w4, w5, w6, w7, w8, w9, w10, w11, w12, w13, w14, w15, w16, .ref dg, w17, w18, w19, w20, w21, w22, w23, w24, w25, w26, w27, w28, w29, w30, w31, w32, w33, w34, w35, w36, w37, w38, w39, w40, w41, w42, w43, w44, w45, w46, w47, w48, w49, w50, w51, w52, w53, w54, w55, w56, w57, w58, w59, w60, w61, w62, w63])), (dg, .inl (y 1, 32, .inl (zf tO1 13 f)))] H := hP
  have hD : va_D A [(h0, .inr (16, [w1, w2, w3, w4, w5, w6, w7, w8, w9, w10, w11, w12, w13, w14, w15, w16, .ref dg, w17, w18, w19, w20, w21, w22, w23, w24, w25, w26, w27, w28, w29, w30, w31, w32, w33, w34, w35, w36, w37, w38, w39, w40, w41, w42, w43, w44, w45, w46, w47, w48, w49, w50, w51, w52, w53, w54, w55, w56, w57, w58, w59, w60, w61, w62, w63])), (dg, .inl (y 1, 32, .inl (zf tO1 13 f)))] := hD
  refine lv_iinc (v := 1) (lv' := [(3, .int 1), (0, .ref h0), (1, .int 3), (2, .int (-1788864368))]) hx hb dX12_keep_30 hl (k := 0) rfl (by decide) (by decide) rfl (fun ls hl => ?_)
  refine lv_goto (tgt := 2) hx hb dX12_keep_33 (by decide) ?_
  refine lv_iload_n hx hb dX12_keep_2 rfl (lv_at hl 0 rfl) ?_
  refine lv_iconst (v := 4) hx hb dX12_keep_3 (by decide) ?_
  refine lv_icmp_ge (tgt := 36) hx hb dX12_keep_4 (by decide) (fun c9 => absurd c9 (by decide)) (fun _ => ?_)
  refine lv_aload_n hx hb dX12_keep_7 rfl (lv_at hl 1 rfl) ?_
  refine va_get (D := D) (ci := 16) (v := .ref dg) (C := RX12) (T := TX12) (N := 64) hx hb hts (by decide +kernel) hown hK hP 0 rfl rfl 16 (by decide) (hts (.fieldLink RX12 43 "SignetRingModel" "digest" "[I") (by decide +kernel)) (fun _ h9 => h9) rfl dX12_keep_8 ?_
  refine lv_iconst (v := 4) hx hb dX12_keep_11 (by decide) ?_
  refine lv_iload_n hx hb dX12_keep_12 rfl (lv_at hl 2 rfl) ?_
  refine lv_imul hx hb dX12_keep_13 ?_
  refine lv_topi (fun v8 ev8 => ?_)
  have ev8 : v8 = 12 := ev8.trans (by decide +kernel)
  subst ev8
  refine lv_iload_n hx hb dX12_keep_14 rfl (lv_at hl 0 rfl) ?_
  refine lv_iadd hx hb dX12_keep_15 ?_
  refine lv_topi (fun v9 ev9 => ?_)
  have ev9 : v9 = 13 := ev9.trans (by decide +kernel)
  subst ev9
  refine lv_iload_n hx hb dX12_keep_16 rfl (lv_at hl 3 rfl) ?_
  refine lv_bipush (v := 24) hx hb dX12_keep_17 (by decide) ?_
  refine lv_bipush (v := 8) hx hb dX12_keep_19 (by decide) ?_
  refine lv_iload_n hx hb dX12_keep_21 rfl (lv_at hl 0 rfl) ?_
  refine lv_imul hx hb dX12_keep_22 ?_
  refine lv_topi (fun v10 ev10 => ?_)
  have ev10 : v10 = 8 := ev10.trans (by decide +kernel)
  subst ev10
  refine lv_isub hx hb dX12_keep_23 ?_
  refine lv_topi (fun v11 ev11 => ?_)
  have ev11 : v11 = 16 := ev11.trans (by decide +kernel)
  subst ev11
  refine lv_iushr (v := zu (-1788864368 : Int32) (16 : Int32)) hx hb dX12_keep_24 rfl ?_
  refine lv_topi (fun v12 ev12 => ?_)
  have ev12 : v12 = 38240 := ev12.trans (by decide +kernel)
  subst ev12
  refine lv_sipush (v := 255) hx hb dX12_keep_25 (by decide) ?_
  refine lv_iand hx hb dX12_keep_28 ?_
  refine lv_topi (fun v13 ev13 => ?_)
  have ev13 : v13 = 96 := ev13.trans (by decide +kernel)
  subst ev13
  refine va_iast hx hb hK hP hD hS 1 1 rfl rfl (by unfold vp_in; decide) dX12_keep_29 (fun H locs hP hD hS => ?_)
  have hP : va_P D vwCl [(h0, .inr (16, [w1, w2, w3, w4, w5, w6, w7, w8, w9, w10, w11, w12, w13, w14, w15, w16, .ref dg, w17, w18, w19, w20, w21, w22, w23, w24, w25, w26, w27, w28, w29, w30, w31, w32, w33, w34, w35, w36, w37, w38, w39, w40, w41, w42, w43, w44, w45, w46, w47, w48, w49, w50, w51, w52, w53, w54, w55, w56, w57, w58, w59, w60, w61, w62, w63])), (dg, .inl (y 1, 32, .inl (upd (zf tO1 13 f) (nI 13).toNatClampNeg (96 : Int32))))] H := hP
  have hD : va_D A [(h0, .inr (16, [w1, w2, w3, w4, w5, w6, w7, w8, w9, w10, w11, w12, w13, w14, w15, w16, .ref dg, w17, w18, w19, w20, w21, w22, w23, w24, w25, w26, w27, w28, w29, w30, w31, w32, w33, w34, w35, w36, w37, w38, w39, w40, w41, w42, w43, w44, w45, w46, w47, w48, w49, w50, w51, w52, w53, w54, w55, w56, w57, w58, w59, w60, w61, w62, w63])), (dg, .inl (y 1, 32, .inl (upd (zf tO1 13 f) (nI 13).toNatClampNeg (96 : Int32))))] := hD
  have u14 : upd (zf tO1 13 f) (nI 13).toNatClampNeg (96 : Int32) = zf tO1 14 f := (zf_st (n := 13) (by decide) (by decide +kernel))
  rw [u14] at hP hD
  have hP : va_P D vwCl [(h0, .inr (16, [w1, w2, w3, w4, w5, w6, w7, w8, w9, w10, w11, w12, w13, w14, w15, w16, .ref dg, w17, w18, w19, w20, w21, w22, w23, w24, w25, w26, w27, w28, w29, w30, w31, w32, w33, w34, w35, w36, w37, w38, w39, w40, w41, w42, w43, w44, w45, w46, w47, w48, w49, w50, w51, w52, w53, w54, w55, w56, w57, w58, w59, w60, w61, w62, w63])), (dg, .inl (y 1, 32, .inl (zf tO1 14 f)))] H := hP
  have hD : va_D A [(h0, .inr (16, [w1, w2, w3, w4, w5, w6, w7, w8, w9, w10, w11, w12, w13, w14, w15, w16, .ref dg, w17, w18, w19, w20, w21, w22, w23, w24, w25, w26, w27, w28, w29, w30, w31, w32, w33, w34, w35, w36, w37, w38, w39, w40, w41, w42, w43, w44, w45, w46, w47, w48, w49, w50, w51, w52, w53, w54, w55, w56, w57, w58, w59, w60, w61, w62, w63])), (dg, .inl (y 1, 32, .inl (zf tO1 14 f)))] := hD
  refine lv_iinc (v := 2) (lv' := [(3, .int 2), (0, .ref h0), (1, .int 3), (2, .int (-1788864368))]) hx hb dX12_keep_30 hl (k := 0) rfl (by decide) (by decide) rfl (fun ls hl => ?_)
  refine lv_goto (tgt := 2) hx hb dX12_keep_33 (by decide) ?_
  refine lv_iload_n hx hb dX12_keep_2 rfl (lv_at hl 0 rfl) ?_
  refine lv_iconst (v := 4) hx hb dX12_keep_3 (by decide) ?_
  refine lv_icmp_ge (tgt := 36) hx hb dX12_keep_4 (by decide) (fun c9 => absurd c9 (by decide)) (fun _ => ?_)
  refine lv_aload_n hx hb dX12_keep_7 rfl (lv_at hl 1 rfl) ?_
  refine va_get (D := D) (ci := 16) (v := .ref dg) (C := RX12) (T := TX12) (N := 64) hx hb hts (by decide +kernel) hown hK hP 0 rfl rfl 16 (by decide) (hts (.fieldLink RX12 43 "SignetRingModel" "digest" "[I") (by decide +kernel)) (fun _ h9 => h9) rfl dX12_keep_8 ?_
  refine lv_iconst (v := 4) hx hb dX12_keep_11 (by decide) ?_
  refine lv_iload_n hx hb dX12_keep_12 rfl (lv_at hl 2 rfl) ?_
  refine lv_imul hx hb dX12_keep_13 ?_
  refine lv_topi (fun v15 ev15 => ?_)
  have ev15 : v15 = 12 := ev15.trans (by decide +kernel)
  subst ev15
  refine lv_iload_n hx hb dX12_keep_14 rfl (lv_at hl 0 rfl) ?_
  refine lv_iadd hx hb dX12_keep_15 ?_
  refine lv_topi (fun v16 ev16 => ?_)
  have ev16 : v16 = 14 := ev16.trans (by decide +kernel)
  subst ev16
  refine lv_iload_n hx hb dX12_keep_16 rfl (lv_at hl 3 rfl) ?_
  refine lv_bipush (v := 24) hx hb dX12_keep_17 (by decide) ?_
  refine lv_bipush (v := 8) hx hb dX12_keep_19 (by decide) ?_
  refine lv_iload_n hx hb dX12_keep_21 rfl (lv_at hl 0 rfl) ?_
  refine lv_imul hx hb dX12_keep_22 ?_
  refine lv_topi (fun v17 ev17 => ?_)
  have ev17 : v17 = 16 := ev17.trans (by decide +kernel)
  subst ev17
  refine lv_isub hx hb dX12_keep_23 ?_
  refine lv_topi (fun v18 ev18 => ?_)
  have ev18 : v18 = 8 := ev18.trans (by decide +kernel)
  subst ev18
  refine lv_iushr (v := zu (-1788864368 : Int32) (8 : Int32)) hx hb dX12_keep_24 rfl ?_
  refine lv_topi (fun v19 ev19 => ?_)
  have ev19 : v19 = 9789464 := ev19.trans (by decide +kernel)
  subst ev19
  refine lv_sipush (v := 255) hx hb dX12_keep_25 (by decide) ?_
  refine lv_iand hx hb dX12_keep_28 ?_
  refine lv_topi (fun v20 ev20 => ?_)
  have ev20 : v20 = 24 := ev20.trans (by decide +kernel)
  subst ev20
  refine va_iast hx hb hK hP hD hS 1 1 rfl rfl (by unfold vp_in; decide) dX12_keep_29 (fun H locs hP hD hS => ?_)
  have hP : va_P D vwCl [(h0, .inr (16, [w1, w2, w3, w4, w5, w6, w7, w8, w9, w10, w11, w12, w13, w14, w15, w16, .ref dg, w17, w18, w19, w20, w21, w22, w23, w24, w25, w26, w27, w28, w29, w30, w31, w32, w33, w34, w35, w36, w37, w38, w39, w40, w41, w42, w43, w44, w45, w46, w47, w48, w49, w50, w51, w52, w53, w54, w55, w56, w57, w58, w59, w60, w61, w62, w63])), (dg, .inl (y 1, 32, .inl (upd (zf tO1 14 f) (nI 14).toNatClampNeg (24 : Int32))))] H := hP
  have hD : va_D A [(h0, .inr (16, [w1, w2, w3, w4, w5, w6, w7, w8, w9, w10, w11, w12, w13, w14, w15, w16, .ref dg, w17, w18, w19, w20, w21, w22, w23, w24, w25, w26, w27, w28, w29, w30, w31, w32, w33, w34, w35, w36, w37, w38, w39, w40, w41, w42, w43, w44, w45, w46, w47, w48, w49, w50, w51, w52, w53, w54, w55, w56, w57, w58, w59, w60, w61, w62, w63])), (dg, .inl (y 1, 32, .inl (upd (zf tO1 14 f) (nI 14).toNatClampNeg (24 : Int32))))] := hD
  have u21 : upd (zf tO1 14 f) (nI 14).toNatClampNeg (24 : Int32) = zf tO1 15 f := (zf_st (n := 14) (by decide) (by decide +kernel))
  rw [u21] at hP hD
  have hP : va_P D vwCl [(h0, .inr (16, [w1, w2, w3, w4, w5, w6, w7, w8, w9, w10, w11, w12, w13, w14, w15, w16, .ref dg, w17, w18, w19, w20, w21, w22, w23, w24, w25, w26, w27, w28, w29, w30, w31, w32, w33, w34, w35, w36, w37, w38, w39, w40, w41, w42, w43, w44, w45, w46, w47, w48, w49, w50, w51, w52, w53, w54, w55, w56, w57, w58, w59, w60, w61, w62, w63])), (dg, .inl (y 1, 32, .inl (zf tO1 15 f)))] H := hP
  have hD : va_D A [(h0, .inr (16, [w1, w2, w3, w4, w5, w6, w7, w8, w9, w10, w11, w12, w13, w14, w15, w16, .ref dg, w17, w18, w19, w20, w21, w22, w23, w24, w25, w26, w27, w28, w29, w30, w31, w32, w33, w34, w35, w36, w37, w38, w39, w40, w41, w42, w43, w44, w45, w46, w47, w48, w49, w50, w51, w52, w53, w54, w55, w56, w57, w58, w59, w60, w61, w62, w63])), (dg, .inl (y 1, 32, .inl (zf tO1 15 f)))] := hD
  refine lv_iinc (v := 3) (lv' := [(3, .int 3), (0, .ref h0), (1, .int 3), (2, .int (-1788864368))]) hx hb dX12_keep_30 hl (k := 0) rfl (by decide) (by decide) rfl (fun ls hl => ?_)
  refine lv_goto (tgt := 2) hx hb dX12_keep_33 (by decide) ?_
  refine lv_iload_n hx hb dX12_keep_2 rfl (lv_at hl 0 rfl) ?_
  refine lv_iconst (v := 4) hx hb dX12_keep_3 (by decide) ?_
  refine lv_icmp_ge (tgt := 36) hx hb dX12_keep_4 (by decide) (fun c9 => absurd c9 (by decide)) (fun _ => ?_)
  refine lv_aload_n hx hb dX12_keep_7 rfl (lv_at hl 1 rfl) ?_
  refine va_get (D := D) (ci := 16) (v := .ref dg) (C := RX12) (T := TX12) (N := 64) hx hb hts (by decide +kernel) hown hK hP 0 rfl rfl 16 (by decide) (hts (.fieldLink RX12 43 "SignetRingModel" "digest" "[I") (by decide +kernel)) (fun _ h9 => h9) rfl dX12_keep_8 ?_
  refine lv_iconst (v := 4) hx hb dX12_keep_11 (by decide) ?_
  refine lv_iload_n hx hb dX12_keep_12 rfl (lv_at hl 2 rfl) ?_
  refine lv_imul hx hb dX12_keep_13 ?_
  refine lv_topi (fun v22 ev22 => ?_)
  have ev22 : v22 = 12 := ev22.trans (by decide +kernel)
  subst ev22
  refine lv_iload_n hx hb dX12_keep_14 rfl (lv_at hl 0 rfl) ?_
  refine lv_iadd hx hb dX12_keep_15 ?_
  refine lv_topi (fun v23 ev23 => ?_)
  have ev23 : v23 = 15 := ev23.trans (by decide +kernel)
  subst ev23
  refine lv_iload_n hx hb dX12_keep_16 rfl (lv_at hl 3 rfl) ?_
  refine lv_bipush (v := 24) hx hb dX12_keep_17 (by decide) ?_
  refine lv_bipush (v := 8) hx hb dX12_keep_19 (by decide) ?_
  refine lv_iload_n hx hb dX12_keep_21 rfl (lv_at hl 0 rfl) ?_
  refine lv_imul hx hb dX12_keep_22 ?_
  refine lv_topi (fun v24 ev24 => ?_)
  have ev24 : v24 = 24 := ev24.trans (by decide +kernel)
  subst ev24
  refine lv_isub hx hb dX12_keep_23 ?_
  refine lv_topi (fun v25 ev25 => ?_)
  have ev25 : v25 = 0 := ev25.trans (by decide +kernel)
  subst ev25
  refine lv_iushr (v := zu (-1788864368 : Int32) (0 : Int32)) hx hb dX12_keep_24 rfl ?_
  refine lv_topi (fun v26 ev26 => ?_)
  have ev26 : v26 = -1788864368 := ev26.trans (by decide +kernel)
  subst ev26
  refine lv_sipush (v := 255) hx hb dX12_keep_25 (by decide) ?_
  refine lv_iand hx hb dX12_keep_28 ?_
  refine lv_topi (fun v27 ev27 => ?_)
  have ev27 : v27 = 144 := ev27.trans (by decide +kernel)
  subst ev27
  refine va_iast hx hb hK hP hD hS 1 1 rfl rfl (by unfold vp_in; decide) dX12_keep_29 (fun H locs hP hD hS => ?_)
  have hP : va_P D vwCl [(h0, .inr (16, [w1, w2, w3, w4, w5, w6, w7, w8, w9, w10, w11, w12, w13, w14, w15, w16, .ref dg, w17, w18, w19, w20, w21, w22, w23, w24, w25, w26, w27, w28, w29, w30, w31, w32, w33, w34, w35, w36, w37, w38, w39, w40, w41, w42, w43, w44, w45, w46, w47, w48, w49, w50, w51, w52, w53, w54, w55, w56, w57, w58, w59, w60, w61, w62, w63])), (dg, .inl (y 1, 32, .inl (upd (zf tO1 15 f) (nI 15).toNatClampNeg (144 : Int32))))] H := hP
  have hD : va_D A [(h0, .inr (16, [w1, w2, w3, w4, w5, w6, w7, w8, w9, w10, w11, w12, w13, w14, w15, w16, .ref dg, w17, w18, w19, w20, w21, w22, w23, w24, w25, w26, w27, w28, w29, w30, w31, w32, w33, w34, w35, w36, w37, w38, w39, w40, w41, w42, w43, w44, w45, w46, w47, w48, w49, w50, w51, w52, w53, w54, w55, w56, w57, w58, w59, w60, w61, w62, w63])), (dg, .inl (y 1, 32, .inl (upd (zf tO1 15 f) (nI 15).toNatClampNeg (144 : Int32))))] := hD
  have u28 : upd (zf tO1 15 f) (nI 15).toNatClampNeg (144 : Int32) = zf tO1 16 f := (zf_st (n := 15) (by decide) (by decide +kernel))
  rw [u28] at hP hD
  have hP : va_P D vwCl [(h0, .inr (16, [w1, w2, w3, w4, w5, w6, w7, w8, w9, w10, w11, w12, w13, w14, w15, w16, .ref dg, w17, w18, w19, w20, w21, w22, w23, w24, w25, w26, w27, w28, w29, w30, w31, w32, w33, w34, w35, w36, w37, w38, w39, w40, w41, w42, w43, w44, w45, w46, w47, w48, w49, w50, w51, w52, w53, w54, w55, w56, w57, w58, w59, w60, w61, w62, w63])), (dg, .inl (y 1, 32, .inl (zf tO1 16 f)))] H := hP
  have hD : va_D A [(h0, .inr (16, [w1, w2, w3, w4, w5, w6, w7, w8, w9, w10, w11, w12, w13, w14, w15, w16, .ref dg, w17, w18, w19, w20, w21, w22, w23, w24, w25, w26, w27, w28, w29, w30, w31, w32, w33, w34, w35, w36, w37, w38, w39, w40, w41, w42, w43, w44, w45, w46, w47, w48, w49, w50, w51, w52, w53, w54, w55, w56, w57, w58, w59, w60, w61, w62, w63])), (dg, .inl (y 1, 32, .inl (zf tO1 16 f)))] := hD
  refine lv_iinc (v := 4) (lv' := [(3, .int 4), (0, .ref h0), (1, .int 3), (2, .int (-1788864368))]) hx hb dX12_keep_30 hl (k := 0) rfl (by decide) (by decide) rfl (fun ls hl => ?_)
  refine lv_goto (tgt := 2) hx hb dX12_keep_33 (by decide) ?_
  refine lv_iload_n hx hb dX12_keep_2 rfl (lv_at hl 0 rfl) ?_
  refine lv_iconst (v := 4) hx hb dX12_keep_3 (by decide) ?_
  refine lv_icmp_ge (tgt := 36) hx hb dX12_keep_4 (by decide) (fun _ => ?_) (fun c9 => absurd (by decide) c9)
  have hP9 := hP.sub (ws' := [(h0, .inr (16, [w1, w2, w3, w4, w5, w6, w7, w8, w9, w10, w11, w12, w13, w14, w15, w16, .ref dg, w17, w18, w19, w20, w21, w22, w23, w24, w25, w26, w27, w28, w29, w30, w31, w32, w33, w34, w35, w36, w37, w38, w39, w40, w41, w42, w43, w44, w45, w46, w47, w48, w49, w50, w51, w52, w53, w54, w55, w56, w57, w58, w59, w60, w61, w62, w63])), (dg, .inl (y 1, 32, .inl (zf tO1 16 f)))]) [0, 1] rfl
  have hD9 := hD.sub (ws' := [(h0, .inr (16, [w1, w2, w3, w4, w5, w6, w7, w8, w9, w10, w11, w12, w13, w14, w15, w16, .ref dg, w17, w18, w19, w20, w21, w22, w23, w24, w25, w26, w27, w28, w29, w30, w31, w32, w33, w34, w35, w36, w37, w38, w39, w40, w41, w42, w43, w44, w45, w46, w47, w48, w49, w50, w51, w52, w53, w54, w55, w56, w57, w58, w59, w60, w61, w62, w63])), (dg, .inl (y 1, 32, .inl (zf tO1 16 f)))]) [0, 1] (by decide) rfl
  refine W.widen (k := 0) (n := 0) (Nat.le_of_ble_eq_true rfl) (Nat.le_of_ble_eq_true rfl) ?_
  exact W.vret hx hb hr (fun t ht hW => ⟨⟨(), rfl, trivial, by rw [ht]; exact hP9, hD9⟩, hS.F ht⟩) hS.2.2 dX12_keep_36
def wz_c_M_keep_1_4 : List Cond := .code yX12_keep cX12_keep 4 none :: ([.fieldLink RX12 43 "SignetRingModel" "digest" "[I"] ++ (wsX120 ++ ([])))
set_option maxHeartbeats 4000000 in
set_option maxRecDepth 100000 in
theorem c_M_keep_1_4 (l : Launch) (D : va_G) (y : Nat → ClassId) (sz : Nat) (h0 : Nat) (dg : Nat) (w1 : Value) (w2 : Value) (w3 : Value) (w4 : Value) (w5 : Value) (w6 : Value) (w7 : Value) (w8 : Value) (w9 : Value) (w10 : Value) (w11 : Value) (w12 : Value) (w13 : Value) (w14 : Value) (w15 : Value) (w16 : Value) (w17 : Value) (w18 : Value) (w19 : Value) (w20 : Value) (w21 : Value) (w22 : Value) (w23 : Value) (w24 : Value) (w25 : Value) (w26 : Value) (w27 : Value) (w28 : Value) (w29 : Value) (w30 : Value) (w31 : Value) (w32 : Value) (w33 : Value) (w34 : Value) (w35 : Value) (w36 : Value) (w37 : Value) (w38 : Value) (w39 : Value) (w40 : Value) (w41 : Value) (w42 : Value) (w43 : Value) (w44 : Value) (w45 : Value) (w46 : Value) (w47 : Value) (w48 : Value) (w49 : Value) (w50 : Value) (w51 : Value) (w52 : Value) (w53 : Value) (w54 : Value) (w55 : Value) (w56 : Value) (w57 : Value) (w58 : Value) (w59 : Value) (w60 : Value) (w61 : Value) (w62 : Value) (w63 : Value) (f : Nat → Int32) : Met l yX12_keep wz_c_M_keep_1_4 ({ frames := 0, cells := 0, slots := 0, locals := 0 }) (va_Pc [.ref h0, .int 4, .int (-1344796919)] (zB D y [(h0, .inr (16, [w1, w2, w3, w4, w5, w6, w7, w8, w9, w10, w11, w12, w13, w14, w15, w16, .ref dg, w17, w18, w19, w20, w21, w22, w23, w24, w25, w26, w27, w28, w29, w30, w31, w32, w33, w34, w35, w36, w37, w38, w39, w40, w41, w42, w43, w44, w45, w46, w47, w48, w49, w50, w51, w52, w53, w54, w55, w56, w57, w58, w59, w60, w61, w62, w63])), (dg, .inl (y 1, 32, .inl (zf tO1 16 f)))] sz [] [] [] [])) (va_Qv (fun _ : Unit => True) (fun _ t => va_P D vwCl [(h0, .inr (16, [w1, w2, w3, w4, w5, w6, w7, w8, w9, w10, w11, w12, w13, w14, w15, w16, .ref dg, w17, w18, w19, w20, w21, w22, w23, w24, w25, w26, w27, w28, w29, w30, w31, w32, w33, w34, w35, w36, w37, w38, w39, w40, w41, w42, w43, w44, w45, w46, w47, w48, w49, w50, w51, w52, w53, w54, w55, w56, w57, w58, w59, w60, w61, w62, w63])), (dg, .inl (y 1, 32, .inl (zf tO1 20 f)))] t.heap ∧ va_D (va_A [(h0, .inr (16, [w1, w2, w3, w4, w5, w6, w7, w8, w9, w10, w11, w12, w13, w14, w15, w16, .ref dg, w17, w18, w19, w20, w21, w22, w23, w24, w25, w26, w27, w28, w29, w30, w31, w32, w33, w34, w35, w36, w37, w38, w39, w40, w41, w42, w43, w44, w45, w46, w47, w48, w49, w50, w51, w52, w53, w54, w55, w56, w57, w58, w59, w60, w61, w62, w63])), (dg, .inl (y 1, 32, .inl (zf tO1 16 f)))] sz) [(h0, .inr (16, [w1, w2, w3, w4, w5, w6, w7, w8, w9, w10, w11, w12, w13, w14, w15, w16, .ref dg, w17, w18, w19, w20, w21, w22, w23, w24, w25, w26, w27, w28, w29, w30, w31, w32, w33, w34, w35, w36, w37, w38, w39, w40, w41, w42, w43, w44, w45, w46, w47, w48, w49, w50, w51, w52, w53, w54, w55, w56, w57, w58, w59, w60, w61, w62, w63])), (dg, .inl (y 1, 32, .inl (zf tO1 20 f)))]) (va_A [(h0, .inr (16, [w1, w2, w3, w4, w5, w6, w7, w8, w9, w10, w11, w12, w13, w14, w15, w16, .ref dg, w17, w18, w19, w20, w21, w22, w23, w24, w25, w26, w27, w28, w29, w30, w31, w32, w33, w34, w35, w36, w37, w38, w39, w40, w41, w42, w43, w44, w45, w46, w47, w48, w49, w50, w51, w52, w53, w54, w55, w56, w57, w58, w59, w60, w61, w62, w63])), (dg, .inl (y 1, 32, .inl (zf tO1 16 f)))] sz)) 0 0 (va_A [(h0, .inr (16, [w1, w2, w3, w4, w5, w6, w7, w8, w9, w10, w11, w12, w13, w14, w15, w16, .ref dg, w17, w18, w19, w20, w21, w22, w23, w24, w25, w26, w27, w28, w29, w30, w31, w32, w33, w34, w35, w36, w37, w38, w39, w40, w41, w42, w43, w44, w45, w46, w47, w48, w49, w50, w51, w52, w53, w54, w55, w56, w57, w58, w59, w60, w61, w62, w63])), (dg, .inl (y 1, 32, .inl (zf tO1 16 f)))] sz) := by
  refine Met.ofW (cc := cX12_keep) (maxL := 4) (ret := none) (by decide) rfl ?_
  intro p e s m args below meth c s₁ B hml hv
  obtain ⟨rfl, hsz, hP, hK, hD0, hN, hE, hO, hT, hG⟩ := hv
  have hx := B.exec
  have hb := B.bytes
  have hr := B.returns
  have hts := atoms_spec (ws := wz_c_M_keep_1_4) B.pre
  have hown : s.vm.findClass RX12 = some m.cls := findClass_of_methodNamed B.named
  have hlocks := B.notSynchronized
  subst hsz
  have hD := hD0.self (sz := s.heap.size)
  generalize hAe : va_A [(h0, .inr (16, [w1, w2, w3, w4, w5, w6, w7, w8, w9, w10, w11, w12, w13, w14, w15, w16, .ref dg, w17, w18, w19, w20, w21, w22, w23, w24, w25, w26, w27, w28, w29, w30, w31, w32, w33, w34, w35, w36, w37, w38, w39, w40, w41, w42, w43, w44, w45, w46, w47, w48, w49, w50, w51, w52, w53, w54, w55, w56, w57, w58, w59, w60, w61, w62, w63])), (dg, .inl (y 1, 32, .inl (zf tO1 16 f)))] s.heap.size = A at hD hE hT hG ⊢
  have hA : ∀ q : Nat, s.heap.size ≤ q → A q := fun q h => by rw [← hAe]; exact Or.inr h
  have hS : va_S A s.heap s.heap [] := va_S.rf
  have hl := lv_entry ([.ref h0, .int 4, .int (-1344796919)]) (n := 4) (Nat.le_of_ble_eq_true rfl)
  rw [lg_entry_eq]
  generalize (lg_sl ([.ref h0, .int 4, .int (-1344796919)]) ++ List.replicate (4 - (lg_sl ([.ref h0, .int 4, .int (-1344796919)])).length) Slot.unset).toArray = ls at hl ⊢
  have hl : lv_has ls 4 [(0, .ref h0), (1, .int 4), (2, .int (-1344796919))] := hl
  refine lv_iconst (v := 0) hx hb dX12_keep_0 (by decide) ?_
  refine lv_istore_n (lv' := [(3, .int 0), (0, .ref h0), (1, .int 4), (2, .int (-1344796919))]) hx hb dX12_keep_1 rfl hl (by decide) rfl (fun ls hl => ?_)
  refine lv_iload_n hx hb dX12_keep_2 rfl (lv_at hl 0 rfl) ?_
  refine lv_iconst (v := 4) hx hb dX12_keep_3 (by decide) ?_
  refine lv_icmp_ge (tgt := 36) hx hb dX12_keep_4 (by decide) (fun c9 => absurd c9 (by decide)) (fun _ => ?_)
  refine lv_aload_n hx hb dX12_keep_7 rfl (lv_at hl 1 rfl) ?_
  refine va_get (D := D) (ci := 16) (v := .ref dg) (C := RX12) (T := TX12) (N := 64) hx hb hts (by decide +kernel) hown hK hP 0 rfl rfl 16 (by decide) (hts (.fieldLink RX12 43 "SignetRingModel" "digest" "[I") (by decide +kernel)) (fun _ h9 => h9) rfl dX12_keep_8 ?_
  refine lv_iconst (v := 4) hx hb dX12_keep_11 (by decide) ?_
  refine lv_iload_n hx hb dX12_keep_12 rfl (lv_at hl 2 rfl) ?_
  refine lv_imul hx hb dX12_keep_13 ?_
  refine lv_topi (fun v1 ev1 => ?_)
  have ev1 : v1 = 16 := ev1.trans (by decide +kernel)
  subst ev1
  refine lv_iload_n hx hb dX12_keep_14 rfl (lv_at hl 0 rfl) ?_
  refine lv_iadd hx hb dX12_keep_15 ?_
  refine lv_topi (fun v2 ev2 => ?_)
  have ev2 : v2 = 16 := ev2.trans (by decide +kernel)
  subst ev2
  refine lv_iload_n hx hb dX12_keep_16 rfl (lv_at hl 3 rfl) ?_
  refine lv_bipush (v := 24) hx hb dX12_keep_17 (by decide) ?_
  refine lv_bipush (v := 8) hx hb dX12_keep_19 (by decide) ?_
  refine lv_iload_n hx hb dX12_keep_21 rfl (lv_at hl 0 rfl) ?_
  refine lv_imul hx hb dX12_keep_22 ?_
  refine lv_topi (fun v3 ev3 => ?_)
  have ev3 : v3 = 0 := ev3.trans (by decide +kernel)
  subst ev3
  refine lv_isub hx hb dX12_keep_23 ?_
  refine lv_topi (fun v4 ev4 => ?_)
  have ev4 : v4 = 24 := ev4.trans (by decide +kernel)
  subst ev4
  refine lv_iushr (v := zu (-1344796919 : Int32) (24 : Int32)) hx hb dX12_keep_24 rfl ?_
  refine lv_topi (fun v5 ev5 => ?_)
  have ev5 : v5 = 175 := ev5.trans (by decide +kernel)
  subst ev5
  refine lv_sipush (v := 255) hx hb dX12_keep_25 (by decide) ?_
  refine lv_iand hx hb dX12_keep_28 ?_
  refine lv_topi (fun v6 ev6 => ?_)
  have ev6 : v6 = 175 := ev6.trans (by decide +kernel)
  subst ev6
  refine va_iast hx hb hK hP hD hS 1 1 rfl rfl (by unfold vp_in; decide) dX12_keep_29 (fun H locs hP hD hS => ?_)
  have hP : va_P D vwCl [(h0, .inr (16, [w1, w2, w3, w4, w5, w6, w7, w8, w9, w10, w11, w12, w13, w14, w15, w16, .ref dg, w17, w18, w19, w20, w21, w22, w23, w24, w25, w26, w27, w28, w29, w30, w31, w32, w33, w34, w35, w36, w37, w38, w39, w40, w41, w42, w43, w44, w45, w46, w47, w48, w49, w50, w51, w52, w53, w54, w55, w56, w57, w58, w59, w60, w61, w62, w63])), (dg, .inl (y 1, 32, .inl (upd (zf tO1 16 f) (nI 16).toNatClampNeg (175 : Int32))))] H := hP
  have hD : va_D A [(h0, .inr (16, [w1, w2, w3, w4, w5, w6, w7, w8, w9, w10, w11, w12, w13, w14, w15, w16, .ref dg, w17, w18, w19, w20, w21, w22, w23, w24, w25, w26, w27, w28, w29, w30, w31, w32, w33, w34, w35, w36, w37, w38, w39, w40, w41, w42, w43, w44, w45, w46, w47, w48, w49, w50, w51, w52, w53, w54, w55, w56, w57, w58, w59, w60, w61, w62, w63])), (dg, .inl (y 1, 32, .inl (upd (zf tO1 16 f) (nI 16).toNatClampNeg (175 : Int32))))] := hD
  have u7 : upd (zf tO1 16 f) (nI 16).toNatClampNeg (175 : Int32) = zf tO1 17 f := (zf_st (n := 16) (by decide) (by decide +kernel))
  rw [u7] at hP hD
  have hP : va_P D vwCl [(h0, .inr (16, [w1, w2, w3, w4, w5, w6, w7, w8, w9, w10, w11, w12, w13, w14, w15, w16, .ref dg, w17, w18, w19, w20, w21, w22, w23, w24, w25, w26, w27, w28, w29, w30, w31, w32, w33, w34, w35, w36, w37, w38, w39, w40, w41, w42, w43, w44, w45, w46, w47, w48, w49, w50, w51, w52, w53, w54, w55, w56, w57, w58, w59, w60, w61, w62, w63])), (dg, .inl (y 1, 32, .inl (zf tO1 17 f)))] H := hP
  have hD : va_D A [(h0, .inr (16, [w1, w2, w3, w4, w5, w6, w7, w8, w9, w10, w11, w12, w13, w14, w15, w16, .ref dg, w17, w18, w19, w20, w21, w22, w23, w24, w25, w26, w27, w28, w29, w30, w31, w32, w33, w34, w35, w36, w37, w38, w39, w40, w41, w42, w43, w44, w45, w46, w47, w48, w49, w50, w51, w52, w53, w54, w55, w56, w57, w58, w59, w60, w61, w62, w63])), (dg, .inl (y 1, 32, .inl (zf tO1 17 f)))] := hD
  refine lv_iinc (v := 1) (lv' := [(3, .int 1), (0, .ref h0), (1, .int 4), (2, .int (-1344796919))]) hx hb dX12_keep_30 hl (k := 0) rfl (by decide) (by decide) rfl (fun ls hl => ?_)
  refine lv_goto (tgt := 2) hx hb dX12_keep_33 (by decide) ?_
  refine lv_iload_n hx hb dX12_keep_2 rfl (lv_at hl 0 rfl) ?_
  refine lv_iconst (v := 4) hx hb dX12_keep_3 (by decide) ?_
  refine lv_icmp_ge (tgt := 36) hx hb dX12_keep_4 (by decide) (fun c9 => absurd c9 (by decide)) (fun _ => ?_)
  refine lv_aload_n hx hb dX12_keep_7 rfl (lv_at hl 1 rfl) ?_
  refine va_get (D := D) (ci := 16) (v := .ref dg) (C := RX12) (T := TX12) (N := 64) hx hb hts (by decide +kernel) hown hK hP 0 rfl rfl 16 (by decide) (hts (.fieldLink RX12 43 "SignetRingModel" "digest" "[I") (by decide +kernel)) (fun _ h9 => h9) rfl dX12_keep_8 ?_
  refine lv_iconst (v := 4) hx hb dX12_keep_11 (by decide) ?_
  refine lv_iload_n hx hb dX12_keep_12 rfl (lv_at hl 2 rfl) ?_
  refine lv_imul hx hb dX12_keep_13 ?_
  refine lv_topi (fun v8 ev8 => ?_)
  have ev8 : v8 = 16 := ev8.trans (by decide +kernel)
  subst ev8
  refine lv_iload_n hx hb dX12_keep_14 rfl (lv_at hl 0 rfl) ?_
  refine lv_iadd hx hb dX12_keep_15 ?_
  refine lv_topi (fun v9 ev9 => ?_)
  have ev9 : v9 = 17 := ev9.trans (by decide +kernel)
  subst ev9
  refine lv_iload_n hx hb dX12_keep_16 rfl (lv_at hl 3 rfl) ?_
  refine lv_bipush (v := 24) hx hb dX12_keep_17 (by decide) ?_
  refine lv_bipush (v := 8) hx hb dX12_keep_19 (by decide) ?_
  refine lv_iload_n hx hb dX12_keep_21 rfl (lv_at hl 0 rfl) ?_
  refine lv_imul hx hb dX12_keep_22 ?_
  refine lv_topi (fun v10 ev10 => ?_)
  have ev10 : v10 = 8 := ev10.trans (by decide +kernel)
  subst ev10
  refine lv_isub hx hb dX12_keep_23 ?_
  refine lv_topi (fun v11 ev11 => ?_)
  have ev11 : v11 = 16 := ev11.trans (by decide +kernel)
  subst ev11
  refine lv_iushr (v := zu (-1344796919 : Int32) (16 : Int32)) hx hb dX12_keep_24 rfl ?_
  refine lv_topi (fun v12 ev12 => ?_)
  have ev12 : v12 = 45016 := ev12.trans (by decide +kernel)
  subst ev12
  refine lv_sipush (v := 255) hx hb dX12_keep_25 (by decide) ?_
  refine lv_iand hx hb dX12_keep_28 ?_
  refine lv_topi (fun v13 ev13 => ?_)
  have ev13 : v13 = 216 := ev13.trans (by decide +kernel)
  subst ev13
  refine va_iast hx hb hK hP hD hS 1 1 rfl rfl (by unfold vp_in; decide) dX12_keep_29 (fun H locs hP hD hS => ?_)
  have hP : va_P D vwCl [(h0, .inr (16, [w1, w2, w3, w4, w5, w6, w7, w8, w9, w10, w11, w12, w13, w14, w15, w16, .ref dg, w17, w18, w19, w20, w21, w22, w23, w24, w25, w26, w27, w28, w29, w30, w31, w32, w33, w34, w35, w36, w37, w38, w39, w40, w41, w42, w43, w44, w45, w46, w47, w48, w49, w50, w51, w52, w53, w54, w55, w56, w57, w58, w59, w60, w61, w62, w63])), (dg, .inl (y 1, 32, .inl (upd (zf tO1 17 f) (nI 17).toNatClampNeg (216 : Int32))))] H := hP
  have hD : va_D A [(h0, .inr (16, [w1, w2, w3, w4, w5, w6, w7, w8, w9, w10, w11, w12, w13, w14, w15, w16, .ref dg, w17, w18, w19, w20, w21, w22, w23, w24, w25, w26, w27, w28, w29, w30, w31, w32, w33, w34, w35, w36, w37, w38, w39, w40, w41, w42, w43, w44, w45, w46, w47, w48, w49, w50, w51, w52, w53, w54, w55, w56, w57, w58, w59, w60, w61, w62, w63])), (dg, .inl (y 1, 32, .inl (upd (zf tO1 17 f) (nI 17).toNatClampNeg (216 : Int32))))] := hD
  have u14 : upd (zf tO1 17 f) (nI 17).toNatClampNeg (216 : Int32) = zf tO1 18 f := (zf_st (n := 17) (by decide) (by decide +kernel))
  rw [u14] at hP hD
  have hP : va_P D vwCl [(h0, .inr (16, [w1, w2, w3, w4, w5, w6, w7, w8, w9, w10, w11, w12, w13, w14, w15, w16, .ref dg, w17, w18, w19, w20, w21, w22, w23, w24, w25, w26, w27, w28, w29, w30, w31, w32, w33, w34, w35, w36, w37, w38, w39, w40, w41, w42, w43, w44, w45, w46, w47, w48, w49, w50, w51, w52, w53, w54, w55, w56, w57, w58, w59, w60, w61, w62, w63])), (dg, .inl (y 1, 32, .inl (zf tO1 18 f)))] H := hP
  have hD : va_D A [(h0, .inr (16, [w1, w2, w3, w4, w5, w6, w7, w8, w9, w10, w11, w12, w13, w14, w15, w16, .ref dg, w17, w18, w19, w20, w21, w22, w23, w24, w25, w26, w27, w28, w29, w30, w31, w32, w33, w34, w35, w36, w37, w38, w39, w40, w41, w42, w43, w44, w45, w46, w47, w48, w49, w50, w51, w52, w53, w54, w55, w56, w57, w58, w59, w60, w61, w62, w63])), (dg, .inl (y 1, 32, .inl (zf tO1 18 f)))] := hD
  refine lv_iinc (v := 2) (lv' := [(3, .int 2), (0, .ref h0), (1, .int 4), (2, .int (-1344796919))]) hx hb dX12_keep_30 hl (k := 0) rfl (by decide) (by decide) rfl (fun ls hl => ?_)
  refine lv_goto (tgt := 2) hx hb dX12_keep_33 (by decide) ?_
  refine lv_iload_n hx hb dX12_keep_2 rfl (lv_at hl 0 rfl) ?_
  refine lv_iconst (v := 4) hx hb dX12_keep_3 (by decide) ?_
  refine lv_icmp_ge (tgt := 36) hx hb dX12_keep_4 (by decide) (fun c9 => absurd c9 (by decide)) (fun _ => ?_)
  refine lv_aload_n hx hb dX12_keep_7 rfl (lv_at hl 1 rfl) ?_
  refine va_get (D := D) (ci := 16) (v := .ref dg) (C := RX12) (T := TX12) (N := 64) hx hb hts (by decide +kernel) hown hK hP 0 rfl rfl 16 (by decide) (hts (.fieldLink RX12 43 "SignetRingModel" "digest" "[I") (by decide +kernel)) (fun _ h9 => h9) rfl dX12_keep_8 ?_
  refine lv_iconst (v := 4) hx hb dX12_keep_11 (by decide) ?_
  refine lv_iload_n hx hb dX12_keep_12 rfl (lv_at hl 2 rfl) ?_
  refine lv_imul hx hb dX12_keep_13 ?_
  refine lv_topi (fun v15 ev15 => ?_)
  have ev15 : v15 = 16 := ev15.trans (by decide +kernel)
  subst ev15
  refine lv_iload_n hx hb dX12_keep_14 rfl (lv_at hl 0 rfl) ?_
  refine lv_iadd hx hb dX12_keep_15 ?_
  refine lv_topi (fun v16 ev16 => ?_)
  have ev16 : v16 = 18 := ev16.trans (by decide +kernel)
  subst ev16
  refine lv_iload_n hx hb dX12_keep_16 rfl (lv_at hl 3 rfl) ?_
  refine lv_bipush (v := 24) hx hb dX12_keep_17 (by decide) ?_
  refine lv_bipush (v := 8) hx hb dX12_keep_19 (by decide) ?_
  refine lv_iload_n hx hb dX12_keep_21 rfl (lv_at hl 0 rfl) ?_
  refine lv_imul hx hb dX12_keep_22 ?_
  refine lv_topi (fun v17 ev17 => ?_)
  have ev17 : v17 = 16 := ev17.trans (by decide +kernel)
  subst ev17
  refine lv_isub hx hb dX12_keep_23 ?_
  refine lv_topi (fun v18 ev18 => ?_)
  have ev18 : v18 = 8 := ev18.trans (by decide +kernel)
  subst ev18
  refine lv_iushr (v := zu (-1344796919 : Int32) (8 : Int32)) hx hb dX12_keep_24 rfl ?_
  refine lv_topi (fun v19 ev19 => ?_)
  have ev19 : v19 = 11524103 := ev19.trans (by decide +kernel)
  subst ev19
  refine lv_sipush (v := 255) hx hb dX12_keep_25 (by decide) ?_
  refine lv_iand hx hb dX12_keep_28 ?_
  refine lv_topi (fun v20 ev20 => ?_)
  have ev20 : v20 = 7 := ev20.trans (by decide +kernel)
  subst ev20
  refine va_iast hx hb hK hP hD hS 1 1 rfl rfl (by unfold vp_in; decide) dX12_keep_29 (fun H locs hP hD hS => ?_)
  have hP : va_P D vwCl [(h0, .inr (16, [w1, w2, w3, w4, w5, w6, w7, w8, w9, w10, w11, w12, w13, w14, w15, w16, .ref dg, w17, w18, w19, w20, w21, w22, w23, w24, w25, w26, w27, w28, w29, w30, w31, w32, w33, w34, w35, w36, w37, w38, w39, w40, w41, w42, w43, w44, w45, w46, w47, w48, w49, w50, w51, w52, w53, w54, w55, w56, w57, w58, w59, w60, w61, w62, w63])), (dg, .inl (y 1, 32, .inl (upd (zf tO1 18 f) (nI 18).toNatClampNeg (7 : Int32))))] H := hP
  have hD : va_D A [(h0, .inr (16, [w1, w2, w3, w4, w5, w6, w7, w8, w9, w10, w11, w12, w13, w14, w15, w16, .ref dg, w17, w18, w19, w20, w21, w22, w23, w24, w25, w26, w27, w28, w29, w30, w31, w32, w33, w34, w35, w36, w37, w38, w39, w40, w41, w42, w43, w44, w45, w46, w47, w48, w49, w50, w51, w52, w53, w54, w55, w56, w57, w58, w59, w60, w61, w62, w63])), (dg, .inl (y 1, 32, .inl (upd (zf tO1 18 f) (nI 18).toNatClampNeg (7 : Int32))))] := hD
  have u21 : upd (zf tO1 18 f) (nI 18).toNatClampNeg (7 : Int32) = zf tO1 19 f := (zf_st (n := 18) (by decide) (by decide +kernel))
  rw [u21] at hP hD
  have hP : va_P D vwCl [(h0, .inr (16, [w1, w2, w3, w4, w5, w6, w7, w8, w9, w10, w11, w12, w13, w14, w15, w16, .ref dg, w17, w18, w19, w20, w21, w22, w23, w24, w25, w26, w27, w28, w29, w30, w31, w32, w33, w34, w35, w36, w37, w38, w39, w40, w41, w42, w43, w44, w45, w46, w47, w48, w49, w50, w51, w52, w53, w54, w55, w56, w57, w58, w59, w60, w61, w62, w63])), (dg, .inl (y 1, 32, .inl (zf tO1 19 f)))] H := hP
  have hD : va_D A [(h0, .inr (16, [w1, w2, w3, w4, w5, w6, w7, w8, w9, w10, w11, w12, w13, w14, w15, w16, .ref dg, w17, w18, w19, w20, w21, w22, w23, w24, w25, w26, w27, w28, w29, w30, w31, w32, w33, w34, w35, w36, w37, w38, w39, w40, w41, w42, w43, w44, w45, w46, w47, w48, w49, w50, w51, w52, w53, w54, w55, w56, w57, w58, w59, w60, w61, w62, w63])), (dg, .inl (y 1, 32, .inl (zf tO1 19 f)))] := hD
  refine lv_iinc (v := 3) (lv' := [(3, .int 3), (0, .ref h0), (1, .int 4), (2, .int (-1344796919))]) hx hb dX12_keep_30 hl (k := 0) rfl (by decide) (by decide) rfl (fun ls hl => ?_)
  refine lv_goto (tgt := 2) hx hb dX12_keep_33 (by decide) ?_
  refine lv_iload_n hx hb dX12_keep_2 rfl (lv_at hl 0 rfl) ?_
  refine lv_iconst (v := 4) hx hb dX12_keep_3 (by decide) ?_
  refine lv_icmp_ge (tgt := 36) hx hb dX12_keep_4 (by decide) (fun c9 => absurd c9 (by decide)) (fun _ => ?_)
  refine lv_aload_n hx hb dX12_keep_7 rfl (lv_at hl 1 rfl) ?_
  refine va_get (D := D) (ci := 16) (v := .ref dg) (C := RX12) (T := TX12) (N := 64) hx hb hts (by decide +kernel) hown hK hP 0 rfl rfl 16 (by decide) (hts (.fieldLink RX12 43 "SignetRingModel" "digest" "[I") (by decide +kernel)) (fun _ h9 => h9) rfl dX12_keep_8 ?_
  refine lv_iconst (v := 4) hx hb dX12_keep_11 (by decide) ?_
  refine lv_iload_n hx hb dX12_keep_12 rfl (lv_at hl 2 rfl) ?_
  refine lv_imul hx hb dX12_keep_13 ?_
  refine lv_topi (fun v22 ev22 => ?_)
  have ev22 : v22 = 16 := ev22.trans (by decide +kernel)
  subst ev22
  refine lv_iload_n hx hb dX12_keep_14 rfl (lv_at hl 0 rfl) ?_
  refine lv_iadd hx hb dX12_keep_15 ?_
  refine lv_topi (fun v23 ev23 => ?_)
  have ev23 : v23 = 19 := ev23.trans (by decide +kernel)
  subst ev23
  refine lv_iload_n hx hb dX12_keep_16 rfl (lv_at hl 3 rfl) ?_
  refine lv_bipush (v := 24) hx hb dX12_keep_17 (by decide) ?_
  refine lv_bipush (v := 8) hx hb dX12_keep_19 (by decide) ?_
  refine lv_iload_n hx hb dX12_keep_21 rfl (lv_at hl 0 rfl) ?_
  refine lv_imul hx hb dX12_keep_22 ?_
  refine lv_topi (fun v24 ev24 => ?_)
  have ev24 : v24 = 24 := ev24.trans (by decide +kernel)
  subst ev24
  refine lv_isub hx hb dX12_keep_23 ?_
  refine lv_topi (fun v25 ev25 => ?_)
  have ev25 : v25 = 0 := ev25.trans (by decide +kernel)
  subst ev25
  refine lv_iushr (v := zu (-1344796919 : Int32) (0 : Int32)) hx hb dX12_keep_24 rfl ?_
  refine lv_topi (fun v26 ev26 => ?_)
  have ev26 : v26 = -1344796919 := ev26.trans (by decide +kernel)
  subst ev26
  refine lv_sipush (v := 255) hx hb dX12_keep_25 (by decide) ?_
  refine lv_iand hx hb dX12_keep_28 ?_
  refine lv_topi (fun v27 ev27 => ?_)
  have ev27 : v27 = 9 := ev27.trans (by decide +kernel)
  subst ev27
  refine va_iast hx hb hK hP hD hS 1 1 rfl rfl (by unfold vp_in; decide) dX12_keep_29 (fun H locs hP hD hS => ?_)
  have hP : va_P D vwCl [(h0, .inr (16, [w1, w2, w3, w4, w5, w6, w7, w8, w9, w10, w11, w12, w13, w14, w15, w16, .ref dg, w17, w18, w19, w20, w21, w22, w23, w24, w25, w26, w27, w28, w29, w30, w31, w32, w33, w34, w35, w36, w37, w38, w39, w40, w41, w42, w43, w44, w45, w46, w47, w48, w49, w50, w51, w52, w53, w54, w55, w56, w57, w58, w59, w60, w61, w62, w63])), (dg, .inl (y 1, 32, .inl (upd (zf tO1 19 f) (nI 19).toNatClampNeg (9 : Int32))))] H := hP
  have hD : va_D A [(h0, .inr (16, [w1, w2, w3, w4, w5, w6, w7, w8, w9, w10, w11, w12, w13, w14, w15, w16, .ref dg, w17, w18, w19, w20, w21, w22, w23, w24, w25, w26, w27, w28, w29, w30, w31, w32, w33, w34, w35, w36, w37, w38, w39, w40, w41, w42, w43, w44, w45, w46, w47, w48, w49, w50, w51, w52, w53, w54, w55, w56, w57, w58, w59, w60, w61, w62, w63])), (dg, .inl (y 1, 32, .inl (upd (zf tO1 19 f) (nI 19).toNatClampNeg (9 : Int32))))] := hD
  have u28 : upd (zf tO1 19 f) (nI 19).toNatClampNeg (9 : Int32) = zf tO1 20 f := (zf_st (n := 19) (by decide) (by decide +kernel))
  rw [u28] at hP hD
  have hP : va_P D vwCl [(h0, .inr (16, [w1, w2, w3, w4, w5, w6, w7, w8, w9, w10, w11, w12, w13, w14, w15, w16, .ref dg, w17, w18, w19, w20, w21, w22, w23, w24, w25, w26, w27, w28, w29, w30, w31, w32, w33, w34, w35, w36, w37, w38, w39, w40, w41, w42, w43, w44, w45, w46, w47, w48, w49, w50, w51, w52, w53, w54, w55, w56, w57, w58, w59, w60, w61, w62, w63])), (dg, .inl (y 1, 32, .inl (zf tO1 20 f)))] H := hP
  have hD : va_D A [(h0, .inr (16, [w1, w2, w3, w4, w5, w6, w7, w8, w9, w10, w11, w12, w13, w14, w15, w16, .ref dg, w17, w18, w19, w20, w21, w22, w23, w24, w25, w26, w27, w28, w29, w30, w31, w32, w33, w34, w35, w36, w37, w38, w39, w40, w41, w42, w43, w44, w45, w46, w47, w48, w49, w50, w51, w52, w53, w54, w55, w56, w57, w58, w59, w60, w61, w62, w63])), (dg, .inl (y 1, 32, .inl (zf tO1 20 f)))] := hD
  refine lv_iinc (v := 4) (lv' := [(3, .int 4), (0, .ref h0), (1, .int 4), (2, .int (-1344796919))]) hx hb dX12_keep_30 hl (k := 0) rfl (by decide) (by decide) rfl (fun ls hl => ?_)
  refine lv_goto (tgt := 2) hx hb dX12_keep_33 (by decide) ?_
  refine lv_iload_n hx hb dX12_keep_2 rfl (lv_at hl 0 rfl) ?_
  refine lv_iconst (v := 4) hx hb dX12_keep_3 (by decide) ?_
  refine lv_icmp_ge (tgt := 36) hx hb dX12_keep_4 (by decide) (fun _ => ?_) (fun c9 => absurd (by decide) c9)
  have hP9 := hP.sub (ws' := [(h0, .inr (16, [w1, w2, w3, w4, w5, w6, w7, w8, w9, w10, w11, w12, w13, w14, w15, w16, .ref dg, w17, w18, w19, w20, w21, w22, w23, w24, w25, w26, w27, w28, w29, w30, w31, w32, w33, w34, w35, w36, w37, w38, w39, w40, w41, w42, w43, w44, w45, w46, w47, w48, w49, w50, w51, w52, w53, w54, w55, w56, w57, w58, w59, w60, w61, w62, w63])), (dg, .inl (y 1, 32, .inl (zf tO1 20 f)))]) [0, 1] rfl
  have hD9 := hD.sub (ws' := [(h0, .inr (16, [w1, w2, w3, w4, w5, w6, w7, w8, w9, w10, w11, w12, w13, w14, w15, w16, .ref dg, w17, w18, w19, w20, w21, w22, w23, w24, w25, w26, w27, w28, w29, w30, w31, w32, w33, w34, w35, w36, w37, w38, w39, w40, w41, w42, w43, w44, w45, w46, w47, w48, w49, w50, w51, w52, w53, w54, w55, w56, w57, w58, w59, w60, w61, w62, w63])), (dg, .inl (y 1, 32, .inl (zf tO1 20 f)))]) [0, 1] (by decide) rfl
  refine W.widen (k := 0) (n := 0) (Nat.le_of_ble_eq_true rfl) (Nat.le_of_ble_eq_true rfl) ?_
  exact W.vret hx hb hr (fun t ht hW => ⟨⟨(), rfl, trivial, by rw [ht]; exact hP9, hD9⟩, hS.F ht⟩) hS.2.2 dX12_keep_36
def wz_c_M_keep_2_0 : List Cond := .code yX12_keep cX12_keep 4 none :: ([.fieldLink RX12 43 "SignetRingModel" "digest" "[I"] ++ (wsX120 ++ ([])))
set_option maxHeartbeats 4000000 in
set_option maxRecDepth 100000 in
theorem c_M_keep_2_0 (l : Launch) (D : va_G) (y : Nat → ClassId) (sz : Nat) (h0 : Nat) (dg : Nat) (w1 : Value) (w2 : Value) (w3 : Value) (w4 : Value) (w5 : Value) (w6 : Value) (w7 : Value) (w8 : Value) (w9 : Value) (w10 : Value) (w11 : Value) (w12 : Value) (w13 : Value) (w14 : Value) (w15 : Value) (w16 : Value) (w17 : Value) (w18 : Value) (w19 : Value) (w20 : Value) (w21 : Value) (w22 : Value) (w23 : Value) (w24 : Value) (w25 : Value) (w26 : Value) (w27 : Value) (w28 : Value) (w29 : Value) (w30 : Value) (w31 : Value) (w32 : Value) (w33 : Value) (w34 : Value) (w35 : Value) (w36 : Value) (w37 : Value) (w38 : Value) (w39 : Value) (w40 : Value) (w41 : Value) (w42 : Value) (w43 : Value) (w44 : Value) (w45 : Value) (w46 : Value) (w47 : Value) (w48 : Value) (w49 : Value) (w50 : Value) (w51 : Value) (w52 : Value) (w53 : Value) (w54 : Value) (w55 : Value) (w56 : Value) (w57 : Value) (w58 : Value) (w59 : Value) (w60 : Value) (w61 : Value) (w62 : Value) (w63 : Value) (f : Nat → Int32) : Met l yX12_keep wz_c_M_keep_2_0 ({ frames := 0, cells := 0, slots := 0, locals := 0 }) (va_Pc [.ref h0, .int 0, .int (-474954686)] (zB D y [(h0, .inr (16, [w1, w2, w3, w4, w5, w6, w7, w8, w9, w10, w11, w12, w13, w14, w15, w16, .ref dg, w17, w18, w19, w20, w21, w22, w23, w24, w25, w26, w27, w28, w29, w30, w31, w32, w33, w34, w35, w36, w37, w38, w39, w40, w41, w42, w43, w44, w45, w46, w47, w48, w49, w50, w51, w52, w53, w54, w55, w56, w57, w58, w59, w60, w61, w62, w63])), (dg, .inl (y 1, 32, .inl (zf tO2 0 f)))] sz [] [] [] [])) (va_Qv (fun _ : Unit => True) (fun _ t => va_P D vwCl [(h0, .inr (16, [w1, w2, w3, w4, w5, w6, w7, w8, w9, w10, w11, w12, w13, w14, w15, w16, .ref dg, w17, w18, w19, w20, w21, w22, w23, w24, w25, w26, w27, w28, w29, w30, w31, w32, w33, w34, w35, w36, w37, w38, w39, w40, w41, w42, w43, w44, w45, w46, w47, w48, w49, w50, w51, w52, w53, w54, w55, w56, w57, w58, w59, w60, w61, w62, w63])), (dg, .inl (y 1, 32, .inl (zf tO2 4 f)))] t.heap ∧ va_D (va_A [(h0, .inr (16, [w1, w2, w3, w4, w5, w6, w7, w8, w9, w10, w11, w12, w13, w14, w15, w16, .ref dg, w17, w18, w19, w20, w21, w22, w23, w24, w25, w26, w27, w28, w29, w30, w31, w32, w33, w34, w35, w36, w37, w38, w39, w40, w41, w42, w43, w44, w45, w46, w47, w48, w49, w50, w51, w52, w53, w54, w55, w56, w57, w58, w59, w60, w61, w62, w63])), (dg, .inl (y 1, 32, .inl (zf tO2 0 f)))] sz) [(h0, .inr (16, [w1, w2, w3, w4, w5, w6, w7, w8, w9, w10, w11, w12, w13, w14, w15, w16, .ref dg, w17, w18, w19, w20, w21, w22, w23, w24, w25, w26, w27, w28, w29, w30, w31, w32, w33, w34, w35, w36, w37, w38, w39, w40, w41, w42, w43, w44, w45, w46, w47, w48, w49, w50, w51, w52, w53, w54, w55, w56, w57, w58, w59, w60, w61, w62, w63])), (dg, .inl (y 1, 32, .inl (zf tO2 4 f)))]) (va_A [(h0, .inr (16, [w1, w2, w3, w4, w5, w6, w7, w8, w9, w10, w11, w12, w13, w14, w15, w16, .ref dg, w17, w18, w19, w20, w21, w22, w23, w24, w25, w26, w27, w28, w29, w30, w31, w32, w33, w34, w35, w36, w37, w38, w39, w40, w41, w42, w43, w44, w45, w46, w47, w48, w49, w50, w51, w52, w53, w54, w55, w56, w57, w58, w59, w60, w61, w62, w63])), (dg, .inl (y 1, 32, .inl (zf tO2 0 f)))] sz)) 0 0 (va_A [(h0, .inr (16, [w1, w2, w3, w4, w5, w6, w7, w8, w9, w10, w11, w12, w13, w14, w15, w16, .ref dg, w17, w18, w19, w20, w21, w22, w23, w24, w25, w26, w27, w28, w29, w30, w31, w32, w33, w34, w35, w36, w37, w38, w39, w40, w41, w42, w43, w44, w45, w46, w47, w48, w49, w50, w51, w52, w53, w54, w55, w56, w57, w58, w59, w60, w61, w62, w63])), (dg, .inl (y 1, 32, .inl (zf tO2 0 f)))] sz) := by
  refine Met.ofW (cc := cX12_keep) (maxL := 4) (ret := none) (by decide) rfl ?_
  intro p e s m args below meth c s₁ B hml hv
  obtain ⟨rfl, hsz, hP, hK, hD0, hN, hE, hO, hT, hG⟩ := hv
  have hx := B.exec
  have hb := B.bytes
  have hr := B.returns
  have hts := atoms_spec (ws := wz_c_M_keep_2_0) B.pre
  have hown : s.vm.findClass RX12 = some m.cls := findClass_of_methodNamed B.named
  have hlocks := B.notSynchronized
  subst hsz
  have hD := hD0.self (sz := s.heap.size)
  generalize hAe : va_A [(h0, .inr (16, [w1, w2, w3, w4, w5, w6, w7, w8, w9, w10, w11, w12, w13, w14, w15, w16, .ref dg, w17, w18, w19, w20, w21, w22, w23, w24, w25, w26, w27, w28, w29, w30, w31, w32, w33, w34, w35, w36, w37, w38, w39, w40, w41, w42, w43, w44, w45, w46, w47, w48, w49, w50, w51, w52, w53, w54, w55, w56, w57, w58, w59, w60, w61, w62, w63])), (dg, .inl (y 1, 32, .inl (zf tO2 0 f)))] s.heap.size = A at hD hE hT hG ⊢
  have hA : ∀ q : Nat, s.heap.size ≤ q → A q := fun q h => by rw [← hAe]; exact Or.inr h
  have hS : va_S A s.heap s.heap [] := va_S.rf
  have hl := lv_entry ([.ref h0, .int 0, .int (-474954686)]) (n := 4) (Nat.le_of_ble_eq_true rfl)
  rw [lg_entry_eq]
  generalize (lg_sl ([.ref h0, .int 0, .int (-474954686)]) ++ List.replicate (4 - (lg_sl ([.ref h0, .int 0, .int (-474954686)])).length) Slot.unset).toArray = ls at hl ⊢
  have hl : lv_has ls 4 [(0, .ref h0), (1, .int 0), (2, .int (-474954686))] := hl
  refine lv_iconst (v := 0) hx hb dX12_keep_0 (by decide) ?_
  refine lv_istore_n (lv' := [(3, .int 0), (0, .ref h0), (1, .int 0), (2, .int (-474954686))]) hx hb dX12_keep_1 rfl hl (by decide) rfl (fun ls hl => ?_)
  refine lv_iload_n hx hb dX12_keep_2 rfl (lv_at hl 0 rfl) ?_
  refine lv_iconst (v := 4) hx hb dX12_keep_3 (by decide) ?_
  refine lv_icmp_ge (tgt := 36) hx hb dX12_keep_4 (by decide) (fun c9 => absurd c9 (by decide)) (fun _ => ?_)
  refine lv_aload_n hx hb dX12_keep_7 rfl (lv_at hl 1 rfl) ?_
  refine va_get (D := D) (ci := 16) (v := .ref dg) (C := RX12) (T := TX12) (N := 64) hx hb hts (by decide +kernel) hown hK hP 0 rfl rfl 16 (by decide) (hts (.fieldLink RX12 43 "SignetRingModel" "digest" "[I") (by decide +kernel)) (fun _ h9 => h9) rfl dX12_keep_8 ?_
  refine lv_iconst (v := 4) hx hb dX12_keep_11 (by decide) ?_
  refine lv_iload_n hx hb dX12_keep_12 rfl (lv_at hl 2 rfl) ?_
  refine lv_imul hx hb dX12_keep_13 ?_
  refine lv_topi (fun v1 ev1 => ?_)
  have ev1 : v1 = 0 := ev1.trans (by decide +kernel)
  subst ev1
  refine lv_iload_n hx hb dX12_keep_14 rfl (lv_at hl 0 rfl) ?_
  refine lv_iadd hx hb dX12_keep_15 ?_
  refine lv_topi (fun v2 ev2 => ?_)
  have ev2 : v2 = 0 := ev2.trans (by decide +kernel)
  subst ev2
  refine lv_iload_n hx hb dX12_keep_16 rfl (lv_at hl 3 rfl) ?_
  refine lv_bipush (v := 24) hx hb dX12_keep_17 (by decide) ?_
  refine lv_bipush (v := 8) hx hb dX12_keep_19 (by decide) ?_
  refine lv_iload_n hx hb dX12_keep_21 rfl (lv_at hl 0 rfl) ?_
  refine lv_imul hx hb dX12_keep_22 ?_
  refine lv_topi (fun v3 ev3 => ?_)
  have ev3 : v3 = 0 := ev3.trans (by decide +kernel)
  subst ev3
  refine lv_isub hx hb dX12_keep_23 ?_
  refine lv_topi (fun v4 ev4 => ?_)
  have ev4 : v4 = 24 := ev4.trans (by decide +kernel)
  subst ev4
  refine lv_iushr (v := zu (-474954686 : Int32) (24 : Int32)) hx hb dX12_keep_24 rfl ?_
  refine lv_topi (fun v5 ev5 => ?_)
  have ev5 : v5 = 227 := ev5.trans (by decide +kernel)
  subst ev5
  refine lv_sipush (v := 255) hx hb dX12_keep_25 (by decide) ?_
  refine lv_iand hx hb dX12_keep_28 ?_
  refine lv_topi (fun v6 ev6 => ?_)
  have ev6 : v6 = 227 := ev6.trans (by decide +kernel)
  subst ev6
  refine va_iast hx hb hK hP hD hS 1 1 rfl rfl (by unfold vp_in; decide) dX12_keep_29 (fun H locs hP hD hS => ?_)
  have hP : va_P D vwCl [(h0, .inr (16, [w1, w2, w3, w4, w5, w6, w7, w8, w9, w10, w11, w12, w13, w14, w15, w16, .ref dg, w17, w18, w19, w20, w21, w22, w23, w24, w25, w26, w27, w28, w29, w30, w31, w32, w33, w34, w35, w36, w37, w38, w39, w40, w41, w42, w43, w44, w45, w46, w47, w48, w49, w50, w51, w52, w53, w54, w55, w56, w57, w58, w59, w60, w61, w62, w63])), (dg, .inl (y 1, 32, .inl (upd (zf tO2 0 f) (nI 0).toNatClampNeg (227 : Int32))))] H := hP
  have hD : va_D A [(h0, .inr (16, [w1, w2, w3, w4, w5, w6, w7, w8, w9, w10, w11, w12, w13, w14, w15, w16, .ref dg, w17, w18, w19, w20, w21, w22, w23, w24, w25, w26, w27, w28, w29, w30, w31, w32, w33, w34, w35, w36, w37, w38, w39, w40, w41, w42, w43, w44, w45, w46, w47, w48, w49, w50, w51, w52, w53, w54, w55, w56, w57, w58, w59, w60, w61, w62, w63])), (dg, .inl (y 1, 32, .inl (upd (zf tO2 0 f) (nI 0).toNatClampNeg (227 : Int32))))] := hD
  have u7 : upd (zf tO2 0 f) (nI 0).toNatClampNeg (227 : Int32) = zf tO2 1 f := (zf_st (n := 0) (by decide) (by decide +kernel))
  rw [u7] at hP hD
  have hP : va_P D vwCl [(h0, .inr (16, [w1, w2, w3, w4, w5, w6, w7, w8, w9, w10, w11, w12, w13, w14, w15, w16, .ref dg, w17, w18, w19, w20, w21, w22, w23, w24, w25, w26, w27, w28, w29, w30, w31, w32, w33, w34, w35, w36, w37, w38, w39, w40, w41, w42, w43, w44, w45, w46, w47, w48, w49, w50, w51, w52, w53, w54, w55, w56, w57, w58, w59, w60, w61, w62, w63])), (dg, .inl (y 1, 32, .inl (zf tO2 1 f)))] H := hP
  have hD : va_D A [(h0, .inr (16, [w1, w2, w3, w4, w5, w6, w7, w8, w9, w10, w11, w12, w13, w14, w15, w16, .ref dg, w17, w18, w19, w20, w21, w22, w23, w24, w25, w26, w27, w28, w29, w30, w31, w32, w33, w34, w35, w36, w37, w38, w39, w40, w41, w42, w43, w44, w45, w46, w47, w48, w49, w50, w51, w52, w53, w54, w55, w56, w57, w58, w59, w60, w61, w62, w63])), (dg, .inl (y 1, 32, .inl (zf tO2 1 f)))] := hD
  refine lv_iinc (v := 1) (lv' := [(3, .int 1), (0, .ref h0), (1, .int 0), (2, .int (-474954686))]) hx hb dX12_keep_30 hl (k := 0) rfl (by decide) (by decide) rfl (fun ls hl => ?_)
  refine lv_goto (tgt := 2) hx hb dX12_keep_33 (by decide) ?_
  refine lv_iload_n hx hb dX12_keep_2 rfl (lv_at hl 0 rfl) ?_
  refine lv_iconst (v := 4) hx hb dX12_keep_3 (by decide) ?_
  refine lv_icmp_ge (tgt := 36) hx hb dX12_keep_4 (by decide) (fun c9 => absurd c9 (by decide)) (fun _ => ?_)
  refine lv_aload_n hx hb dX12_keep_7 rfl (lv_at hl 1 rfl) ?_
  refine va_get (D := D) (ci := 16) (v := .ref dg) (C := RX12) (T := TX12) (N := 64) hx hb hts (by decide +kernel) hown hK hP 0 rfl rfl 16 (by decide) (hts (.fieldLink RX12 43 "SignetRingModel" "digest" "[I") (by decide +kernel)) (fun _ h9 => h9) rfl dX12_keep_8 ?_
  refine lv_iconst (v := 4) hx hb dX12_keep_11 (by decide) ?_
  refine lv_iload_n hx hb dX12_keep_12 rfl (lv_at hl 2 rfl) ?_
  refine lv_imul hx hb dX12_keep_13 ?_
  refine lv_topi (fun v8 ev8 => ?_)
  have ev8 : v8 = 0 := ev8.trans (by decide +kernel)
  subst ev8
  refine lv_iload_n hx hb dX12_keep_14 rfl (lv_at hl 0 rfl) ?_
  refine lv_iadd hx hb dX12_keep_15 ?_
  refine lv_topi (fun v9 ev9 => ?_)
  have ev9 : v9 = 1 := ev9.trans (by decide +kernel)
  subst ev9
  refine lv_iload_n hx hb dX12_keep_16 rfl (lv_at hl 3 rfl) ?_
  refine lv_bipush (v := 24) hx hb dX12_keep_17 (by decide) ?_
  refine lv_bipush (v := 8) hx hb dX12_keep_19 (by decide) ?_
  refine lv_iload_n hx hb dX12_keep_21 rfl (lv_at hl 0 rfl) ?_
  refine lv_imul hx hb dX12_keep_22 ?_
  refine lv_topi (fun v10 ev10 => ?_)
  have ev10 : v10 = 8 := ev10.trans (by decide +kernel)
  subst ev10
  refine lv_isub hx hb dX12_keep_23 ?_
  refine lv_topi (fun v11 ev11 => ?_)
  have ev11 : v11 = 16 := ev11.trans (by decide +kernel)
  subst ev11
  refine lv_iushr (v := zu (-474954686 : Int32) (16 : Int32)) hx hb dX12_keep_24 rfl ?_
  refine lv_topi (fun v12 ev12 => ?_)
  have ev12 : v12 = 58288 := ev12.trans (by decide +kernel)
  subst ev12
  refine lv_sipush (v := 255) hx hb dX12_keep_25 (by decide) ?_
  refine lv_iand hx hb dX12_keep_28 ?_
  refine lv_topi (fun v13 ev13 => ?_)
  have ev13 : v13 = 176 := ev13.trans (by decide +kernel)
  subst ev13
  refine va_iast hx hb hK hP hD hS 1 1 rfl rfl (by unfold vp_in; decide) dX12_keep_29 (fun H locs hP hD hS => ?_)
  have hP : va_P D vwCl [(h0, .inr (16, [w1, w2, w3, w4, w5, w6, w7, w8, w9, w10, w11, w12, w13, w14, w15, w16, .ref dg, w17, w18, w19, w20, w21, w22, w23, w24, w25, w26, w27, w28, w29, w30, w31, w32, w33, w34, w35, w36, w37, w38, w39, w40, w41, w42, w43, w44, w45, w46, w47, w48, w49, w50, w51, w52, w53, w54, w55, w56, w57, w58, w59, w60, w61, w62, w63])), (dg, .inl (y 1, 32, .inl (upd (zf tO2 1 f) (nI 1).toNatClampNeg (176 : Int32))))] H := hP
  have hD : va_D A [(h0, .inr (16, [w1, w2, w3, w4, w5, w6, w7, w8, w9, w10, w11, w12, w13, w14, w15, w16, .ref dg, w17, w18, w19, w20, w21, w22, w23, w24, w25, w26, w27, w28, w29, w30, w31, w32, w33, w34, w35, w36, w37, w38, w39, w40, w41, w42, w43, w44, w45, w46, w47, w48, w49, w50, w51, w52, w53, w54, w55, w56, w57, w58, w59, w60, w61, w62, w63])), (dg, .inl (y 1, 32, .inl (upd (zf tO2 1 f) (nI 1).toNatClampNeg (176 : Int32))))] := hD
  have u14 : upd (zf tO2 1 f) (nI 1).toNatClampNeg (176 : Int32) = zf tO2 2 f := (zf_st (n := 1) (by decide) (by decide +kernel))
  rw [u14] at hP hD
  have hP : va_P D vwCl [(h0, .inr (16, [w1, w2, w3, w4, w5, w6, w7, w8, w9, w10, w11, w12, w13, w14, w15, w16, .ref dg, w17, w18, w19, w20, w21, w22, w23, w24, w25, w26, w27, w28, w29, w30, w31, w32, w33, w34, w35, w36, w37, w38, w39, w40, w41, w42, w43, w44, w45, w46, w47, w48, w49, w50, w51, w52, w53, w54, w55, w56, w57, w58, w59, w60, w61, w62, w63])), (dg, .inl (y 1, 32, .inl (zf tO2 2 f)))] H := hP
  have hD : va_D A [(h0, .inr (16, [w1, w2, w3, w4, w5, w6, w7, w8, w9, w10, w11, w12, w13, w14, w15, w16, .ref dg, w17, w18, w19, w20, w21, w22, w23, w24, w25, w26, w27, w28, w29, w30, w31, w32, w33, w34, w35, w36, w37, w38, w39, w40, w41, w42, w43, w44, w45, w46, w47, w48, w49, w50, w51, w52, w53, w54, w55, w56, w57, w58, w59, w60, w61, w62, w63])), (dg, .inl (y 1, 32, .inl (zf tO2 2 f)))] := hD
  refine lv_iinc (v := 2) (lv' := [(3, .int 2), (0, .ref h0), (1, .int 0), (2, .int (-474954686))]) hx hb dX12_keep_30 hl (k := 0) rfl (by decide) (by decide) rfl (fun ls hl => ?_)
  refine lv_goto (tgt := 2) hx hb dX12_keep_33 (by decide) ?_
  refine lv_iload_n hx hb dX12_keep_2 rfl (lv_at hl 0 rfl) ?_
  refine lv_iconst (v := 4) hx hb dX12_keep_3 (by decide) ?_
  refine lv_icmp_ge (tgt := 36) hx hb dX12_keep_4 (by decide) (fun c9 => absurd c9 (by decide)) (fun _ => ?_)
  refine lv_aload_n hx hb dX12_keep_7 rfl (lv_at hl 1 rfl) ?_
  refine va_get (D := D) (ci := 16) (v := .ref dg) (C := RX12) (T := TX12) (N := 64) hx hb hts (by decide +kernel) hown hK hP 0 rfl rfl 16 (by decide) (hts (.fieldLink RX12 43 "SignetRingModel" "digest" "[I") (by decide +kernel)) (fun _ h9 => h9) rfl dX12_keep_8 ?_
  refine lv_iconst (v := 4) hx hb dX12_keep_11 (by decide) ?_
  refine lv_iload_n hx hb dX12_keep_12 rfl (lv_at hl 2 rfl) ?_
  refine lv_imul hx hb dX12_keep_13 ?_
  refine lv_topi (fun v15 ev15 => ?_)
  have ev15 : v15 = 0 := ev15.trans (by decide +kernel)
  subst ev15
  refine lv_iload_n hx hb dX12_keep_14 rfl (lv_at hl 0 rfl) ?_
  refine lv_iadd hx hb dX12_keep_15 ?_
  refine lv_topi (fun v16 ev16 => ?_)
  have ev16 : v16 = 2 := ev16.trans (by decide +kernel)
  subst ev16
  refine lv_iload_n hx hb dX12_keep_16 rfl (lv_at hl 3 rfl) ?_
  refine lv_bipush (v := 24) hx hb dX12_keep_17 (by decide) ?_
  refine lv_bipush (v := 8) hx hb dX12_keep_19 (by decide) ?_
  refine lv_iload_n hx hb dX12_keep_21 rfl (lv_at hl 0 rfl) ?_
  refine lv_imul hx hb dX12_keep_22 ?_
  refine lv_topi (fun v17 ev17 => ?_)
  have ev17 : v17 = 16 := ev17.trans (by decide +kernel)
  subst ev17
  refine lv_isub hx hb dX12_keep_23 ?_
  refine lv_topi (fun v18 ev18 => ?_)
  have ev18 : v18 = 8 := ev18.trans (by decide +kernel)
  subst ev18
  refine lv_iushr (v := zu (-474954686 : Int32) (8 : Int32)) hx hb dX12_keep_24 rfl ?_
  refine lv_topi (fun v19 ev19 => ?_)
  have ev19 : v19 = 14921924 := ev19.trans (by decide +kernel)
  subst ev19
  refine lv_sipush (v := 255) hx hb dX12_keep_25 (by decide) ?_
  refine lv_iand hx hb dX12_keep_28 ?_
  refine lv_topi (fun v20 ev20 => ?_)
  have ev20 : v20 = 196 := ev20.trans (by decide +kernel)
  subst ev20
  refine va_iast hx hb hK hP hD hS 1 1 rfl rfl (by unfold vp_in; decide) dX12_keep_29 (fun H locs hP hD hS => ?_)
  have hP : va_P D vwCl [(h0, .inr (16, [w1, w2, w3, w4, w5, w6, w7, w8, w9, w10, w11, w12, w13, w14, w15, w16, .ref dg, w17, w18, w19, w20, w21, w22, w23, w24, w25, w26, w27, w28, w29, w30, w31, w32, w33, w34, w35, w36, w37, w38, w39, w40, w41, w42, w43, w44, w45, w46, w47, w48, w49, w50, w51, w52, w53, w54, w55, w56, w57, w58, w59, w60, w61, w62, w63])), (dg, .inl (y 1, 32, .inl (upd (zf tO2 2 f) (nI 2).toNatClampNeg (196 : Int32))))] H := hP
  have hD : va_D A [(h0, .inr (16, [w1, w2, w3, w4, w5, w6, w7, w8, w9, w10, w11, w12, w13, w14, w15, w16, .ref dg, w17, w18, w19, w20, w21, w22, w23, w24, w25, w26, w27, w28, w29, w30, w31, w32, w33, w34, w35, w36, w37, w38, w39, w40, w41, w42, w43, w44, w45, w46, w47, w48, w49, w50, w51, w52, w53, w54, w55, w56, w57, w58, w59, w60, w61, w62, w63])), (dg, .inl (y 1, 32, .inl (upd (zf tO2 2 f) (nI 2).toNatClampNeg (196 : Int32))))] := hD
  have u21 : upd (zf tO2 2 f) (nI 2).toNatClampNeg (196 : Int32) = zf tO2 3 f := (zf_st (n := 2) (by decide) (by decide +kernel))
  rw [u21] at hP hD
  have hP : va_P D vwCl [(h0, .inr (16, [w1, w2, w3, w4, w5, w6, w7, w8, w9, w10, w11, w12, w13, w14, w15, w16, .ref dg, w17, w18, w19, w20, w21, w22, w23, w24, w25, w26, w27, w28, w29, w30, w31, w32, w33, w34, w35, w36, w37, w38, w39, w40, w41, w42, w43, w44, w45, w46, w47, w48, w49, w50, w51, w52, w53, w54, w55, w56, w57, w58, w59, w60, w61, w62, w63])), (dg, .inl (y 1, 32, .inl (zf tO2 3 f)))] H := hP
  have hD : va_D A [(h0, .inr (16, [w1, w2, w3, w4, w5, w6, w7, w8, w9, w10, w11, w12, w13, w14, w15, w16, .ref dg, w17, w18, w19, w20, w21, w22, w23, w24, w25, w26, w27, w28, w29, w30, w31, w32, w33, w34, w35, w36, w37, w38, w39, w40, w41, w42, w43, w44, w45, w46, w47, w48, w49, w50, w51, w52, w53, w54, w55, w56, w57, w58, w59, w60, w61, w62, w63])), (dg, .inl (y 1, 32, .inl (zf tO2 3 f)))] := hD
  refine lv_iinc (v := 3) (lv' := [(3, .int 3), (0, .ref h0), (1, .int 0), (2, .int (-474954686))]) hx hb dX12_keep_30 hl (k := 0) rfl (by decide) (by decide) rfl (fun ls hl => ?_)
  refine lv_goto (tgt := 2) hx hb dX12_keep_33 (by decide) ?_
  refine lv_iload_n hx hb dX12_keep_2 rfl (lv_at hl 0 rfl) ?_
  refine lv_iconst (v := 4) hx hb dX12_keep_3 (by decide) ?_
  refine lv_icmp_ge (tgt := 36) hx hb dX12_keep_4 (by decide) (fun c9 => absurd c9 (by decide)) (fun _ => ?_)
  refine lv_aload_n hx hb dX12_keep_7 rfl (lv_at hl 1 rfl) ?_
  refine va_get (D := D) (ci := 16) (v := .ref dg) (C := RX12) (T := TX12) (N := 64) hx hb hts (by decide +kernel) hown hK hP 0 rfl rfl 16 (by decide) (hts (.fieldLink RX12 43 "SignetRingModel" "digest" "[I") (by decide +kernel)) (fun _ h9 => h9) rfl dX12_keep_8 ?_
  refine lv_iconst (v := 4) hx hb dX12_keep_11 (by decide) ?_
  refine lv_iload_n hx hb dX12_keep_12 rfl (lv_at hl 2 rfl) ?_
  refine lv_imul hx hb dX12_keep_13 ?_
  refine lv_topi (fun v22 ev22 => ?_)
  have ev22 : v22 = 0 := ev22.trans (by decide +kernel)
  subst ev22
  refine lv_iload_n hx hb dX12_keep_14 rfl (lv_at hl 0 rfl) ?_
  refine lv_iadd hx hb dX12_keep_15 ?_
  refine lv_topi (fun v23 ev23 => ?_)
  have ev23 : v23 = 3 := ev23.trans (by decide +kernel)
  subst ev23
  refine lv_iload_n hx hb dX12_keep_16 rfl (lv_at hl 3 rfl) ?_
  refine lv_bipush (v := 24) hx hb dX12_keep_17 (by decide) ?_
  refine lv_bipush (v := 8) hx hb dX12_keep_19 (by decide) ?_
  refine lv_iload_n hx hb dX12_keep_21 rfl (lv_at hl 0 rfl) ?_
  refine lv_imul hx hb dX12_keep_22 ?_
  refine lv_topi (fun v24 ev24 => ?_)
  have ev24 : v24 = 24 := ev24.trans (by decide +kernel)
  subst ev24
  refine lv_isub hx hb dX12_keep_23 ?_
  refine lv_topi (fun v25 ev25 => ?_)
  have ev25 : v25 = 0 := ev25.trans (by decide +kernel)
  subst ev25
  refine lv_iushr (v := zu (-474954686 : Int32) (0 : Int32)) hx hb dX12_keep_24 rfl ?_
  refine lv_topi (fun v26 ev26 => ?_)
  have ev26 : v26 = -474954686 := ev26.trans (by decide +kernel)
  subst ev26
  refine lv_sipush (v := 255) hx hb dX12_keep_25 (by decide) ?_
  refine lv_iand hx hb dX12_keep_28 ?_
  refine lv_topi (fun v27 ev27 => ?_)
  have ev27 : v27 = 66 := ev27.trans (by decide +kernel)
  subst ev27
  refine va_iast hx hb hK hP hD hS 1 1 rfl rfl (by unfold vp_in; decide) dX12_keep_29 (fun H locs hP hD hS => ?_)
  have hP : va_P D vwCl [(h0, .inr (16, [w1, w2, w3, w4, w5, w6, w7, w8, w9, w10, w11, w12, w13, w14, w15, w16, .ref dg, w17, w18, w19, w20, w21, w22, w23, w24, w25, w26, w27, w28, w29, w30, w31, w32, w33, w34, w35, w36, w37, w38, w39, w40, w41, w42, w43, w44, w45, w46, w47, w48, w49, w50, w51, w52, w53, w54, w55, w56, w57, w58, w59, w60, w61, w62, w63])), (dg, .inl (y 1, 32, .inl (upd (zf tO2 3 f) (nI 3).toNatClampNeg (66 : Int32))))] H := hP
  have hD : va_D A [(h0, .inr (16, [w1, w2, w3, w4, w5, w6, w7, w8, w9, w10, w11, w12, w13, w14, w15, w16, .ref dg, w17, w18, w19, w20, w21, w22, w23, w24, w25, w26, w27, w28, w29, w30, w31, w32, w33, w34, w35, w36, w37, w38, w39, w40, w41, w42, w43, w44, w45, w46, w47, w48, w49, w50, w51, w52, w53, w54, w55, w56, w57, w58, w59, w60, w61, w62, w63])), (dg, .inl (y 1, 32, .inl (upd (zf tO2 3 f) (nI 3).toNatClampNeg (66 : Int32))))] := hD
  have u28 : upd (zf tO2 3 f) (nI 3).toNatClampNeg (66 : Int32) = zf tO2 4 f := (zf_st (n := 3) (by decide) (by decide +kernel))
  rw [u28] at hP hD
  have hP : va_P D vwCl [(h0, .inr (16, [w1, w2, w3, w4, w5, w6, w7, w8, w9, w10, w11, w12, w13, w14, w15, w16, .ref dg, w17, w18, w19, w20, w21, w22, w23, w24, w25, w26, w27, w28, w29, w30, w31, w32, w33, w34, w35, w36, w37, w38, w39, w40, w41, w42, w43, w44, w45, w46, w47, w48, w49, w50, w51, w52, w53, w54, w55, w56, w57, w58, w59, w60, w61, w62, w63])), (dg, .inl (y 1, 32, .inl (zf tO2 4 f)))] H := hP
  have hD : va_D A [(h0, .inr (16, [w1, w2, w3, w4, w5, w6, w7, w8, w9, w10, w11, w12, w13, w14, w15, w16, .ref dg, w17, w18, w19, w20, w21, w22, w23, w24, w25, w26, w27, w28, w29, w30, w31, w32, w33, w34, w35, w36, w37, w38, w39, w40, w41, w42, w43, w44, w45, w46, w47, w48, w49, w50, w51, w52, w53, w54, w55, w56, w57, w58, w59, w60, w61, w62, w63])), (dg, .inl (y 1, 32, .inl (zf tO2 4 f)))] := hD
  refine lv_iinc (v := 4) (lv' := [(3, .int 4), (0, .ref h0), (1, .int 0), (2, .int (-474954686))]) hx hb dX12_keep_30 hl (k := 0) rfl (by decide) (by decide) rfl (fun ls hl => ?_)
  refine lv_goto (tgt := 2) hx hb dX12_keep_33 (by decide) ?_
  refine lv_iload_n hx hb dX12_keep_2 rfl (lv_at hl 0 rfl) ?_
  refine lv_iconst (v := 4) hx hb dX12_keep_3 (by decide) ?_
  refine lv_icmp_ge (tgt := 36) hx hb dX12_keep_4 (by decide) (fun _ => ?_) (fun c9 => absurd (by decide) c9)
  have hP9 := hP.sub (ws' := [(h0, .inr (16, [w1, w2, w3, w4, w5, w6, w7, w8, w9, w10, w11, w12, w13, w14, w15, w16, .ref dg, w17, w18, w19, w20, w21, w22, w23, w24, w25, w26, w27, w28, w29, w30, w31, w32, w33, w34, w35, w36, w37, w38, w39, w40, w41, w42, w43, w44, w45, w46, w47, w48, w49, w50, w51, w52, w53, w54, w55, w56, w57, w58, w59, w60, w61, w62, w63])), (dg, .inl (y 1, 32, .inl (zf tO2 4 f)))]) [0, 1] rfl
  have hD9 := hD.sub (ws' := [(h0, .inr (16, [w1, w2, w3, w4, w5, w6, w7, w8, w9, w10, w11, w12, w13, w14, w15, w16, .ref dg, w17, w18, w19, w20, w21, w22, w23, w24, w25, w26, w27, w28, w29, w30, w31, w32, w33, w34, w35, w36, w37, w38, w39, w40, w41, w42, w43, w44, w45, w46, w47, w48, w49, w50, w51, w52, w53, w54, w55, w56, w57, w58, w59, w60, w61, w62, w63])), (dg, .inl (y 1, 32, .inl (zf tO2 4 f)))]) [0, 1] (by decide) rfl
  refine W.widen (k := 0) (n := 0) (Nat.le_of_ble_eq_true rfl) (Nat.le_of_ble_eq_true rfl) ?_
  exact W.vret hx hb hr (fun t ht hW => ⟨⟨(), rfl, trivial, by rw [ht]; exact hP9, hD9⟩, hS.F ht⟩) hS.2.2 dX12_keep_36
def wz_c_M_keep_2_1 : List Cond := .code yX12_keep cX12_keep 4 none :: ([.fieldLink RX12 43 "SignetRingModel" "digest" "[I"] ++ (wsX120 ++ ([])))
set_option maxHeartbeats 4000000 in
set_option maxRecDepth 100000 in
theorem c_M_keep_2_1 (l : Launch) (D : va_G) (y : Nat → ClassId) (sz : Nat) (h0 : Nat) (dg : Nat) (w1 : Value) (w2 : Value) (w3 : Value) (w4 : Value) (w5 : Value) (w6 : Value) (w7 : Value) (w8 : Value) (w9 : Value) (w10 : Value) (w11 : Value) (w12 : Value) (w13 : Value) (w14 : Value) (w15 : Value) (w16 : Value) (w17 : Value) (w18 : Value) (w19 : Value) (w20 : Value) (w21 : Value) (w22 : Value) (w23 : Value) (w24 : Value) (w25 : Value) (w26 : Value) (w27 : Value) (w28 : Value) (w29 : Value) (w30 : Value) (w31 : Value) (w32 : Value) (w33 : Value) (w34 : Value) (w35 : Value) (w36 : Value) (w37 : Value) (w38 : Value) (w39 : Value) (w40 : Value) (w41 : Value) (w42 : Value) (w43 : Value) (w44 : Value) (w45 : Value) (w46 : Value) (w47 : Value) (w48 : Value) (w49 : Value) (w50 : Value) (w51 : Value) (w52 : Value) (w53 : Value) (w54 : Value) (w55 : Value) (w56 : Value) (w57 : Value) (w58 : Value) (w59 : Value) (w60 : Value) (w61 : Value) (w62 : Value) (w63 : Value) (f : Nat → Int32) : Met l yX12_keep wz_c_M_keep_2_1 ({ frames := 0, cells := 0, slots := 0, locals := 0 }) (va_Pc [.ref h0, .int 1, .int (-1728308204)] (zB D y [(h0, .inr (16, [w1, w2, w3, w4, w5, w6, w7, w8, w9, w10, w11, w12, w13, w14, w15, w16, .ref dg, w17, w18, w19, w20, w21, w22, w23, w24, w25, w26, w27, w28, w29, w30, w31, w32, w33, w34, w35, w36, w37, w38, w39, w40, w41, w42, w43, w44, w45, w46, w47, w48, w49, w50, w51, w52, w53, w54, w55, w56, w57, w58, w59, w60, w61, w62, w63])), (dg, .inl (y 1, 32, .inl (zf tO2 4 f)))] sz [] [] [] [])) (va_Qv (fun _ : Unit => True) (fun _ t => va_P D vwCl [(h0, .inr (16, [w1, w2, w3, w4, w5, w6, w7, w8, w9, w10, w11, w12, w13, w14, w15, w16, .ref dg, w17, w18, w19, w20, w21, w22, w23, w24, w25, w26, w27, w28, w29, w30, w31, w32, w33, w34, w35, w36, w37, w38, w39, w40, w41, w42, w43, w44, w45, w46, w47, w48, w49, w50, w51, w52, w53, w54, w55, w56, w57, w58, w59, w60, w61, w62, w63])), (dg, .inl (y 1, 32, .inl (zf tO2 8 f)))] t.heap ∧ va_D (va_A [(h0, .inr (16, [w1, w2, w3, w4, w5, w6, w7, w8, w9, w10, w11, w12, w13, w14, w15, w16, .ref dg, w17, w18, w19, w20, w21, w22, w23, w24, w25, w26, w27, w28, w29, w30, w31, w32, w33, w34, w35, w36, w37, w38, w39, w40, w41, w42, w43, w44, w45, w46, w47, w48, w49, w50, w51, w52, w53, w54, w55, w56, w57, w58, w59, w60, w61, w62, w63])), (dg, .inl (y 1, 32, .inl (zf tO2 4 f)))] sz) [(h0, .inr (16, [w1, w2, w3, w4, w5, w6, w7, w8, w9, w10, w11, w12, w13, w14, w15, w16, .ref dg, w17, w18, w19, w20, w21, w22, w23, w24, w25, w26, w27, w28, w29, w30, w31, w32, w33, w34, w35, w36, w37, w38, w39, w40, w41, w42, w43, w44, w45, w46, w47, w48, w49, w50, w51, w52, w53, w54, w55, w56, w57, w58, w59, w60, w61, w62, w63])), (dg, .inl (y 1, 32, .inl (zf tO2 8 f)))]) (va_A [(h0, .inr (16, [w1, w2, w3, w4, w5, w6, w7, w8, w9, w10, w11, w12, w13, w14, w15, w16, .ref dg, w17, w18, w19, w20, w21, w22, w23, w24, w25, w26, w27, w28, w29, w30, w31, w32, w33, w34, w35, w36, w37, w38, w39, w40, w41, w42, w43, w44, w45, w46, w47, w48, w49, w50, w51, w52, w53, w54, w55, w56, w57, w58, w59, w60, w61, w62, w63])), (dg, .inl (y 1, 32, .inl (zf tO2 4 f)))] sz)) 0 0 (va_A [(h0, .inr (16, [w1, w2, w3, w4, w5, w6, w7, w8, w9, w10, w11, w12, w13, w14, w15, w16, .ref dg, w17, w18, w19, w20, w21, w22, w23, w24, w25, w26, w27, w28, w29, w30, w31, w32, w33, w34, w35, w36, w37, w38, w39, w40, w41, w42, w43, w44, w45, w46, w47, w48, w49, w50, w51, w52, w53, w54, w55, w56, w57, w58, w59, w60, w61, w62, w63])), (dg, .inl (y 1, 32, .inl (zf tO2 4 f)))] sz) := by
  refine Met.ofW (cc := cX12_keep) (maxL := 4) (ret := none) (by decide) rfl ?_
  intro p e s m args below meth c s₁ B hml hv
  obtain ⟨rfl, hsz, hP, hK, hD0, hN, hE, hO, hT, hG⟩ := hv
  have hx := B.exec
  have hb := B.bytes
  have hr := B.returns
  have hts := atoms_spec (ws := wz_c_M_keep_2_1) B.pre
  have hown : s.vm.findClass RX12 = some m.cls := findClass_of_methodNamed B.named
  have hlocks := B.notSynchronized
  subst hsz
  have hD := hD0.self (sz := s.heap.size)
  generalize hAe : va_A [(h0, .inr (16, [w1, w2, w3, w4, w5, w6, w7, w8, w9, w10, w11, w12, w13, w14, w15, w16, .ref dg, w17, w18, w19, w20, w21, w22, w23, w24, w25, w26, w27, w28, w29, w30, w31, w32, w33, w34, w35, w36, w37, w38, w39, w40, w41, w42, w43, w44, w45, w46, w47, w48, w49, w50, w51, w52, w53, w54, w55, w56, w57, w58, w59, w60, w61, w62, w63])), (dg, .inl (y 1, 32, .inl (zf tO2 4 f)))] s.heap.size = A at hD hE hT hG ⊢
  have hA : ∀ q : Nat, s.heap.size ≤ q → A q := fun q h => by rw [← hAe]; exact Or.inr h
  have hS : va_S A s.heap s.heap [] := va_S.rf
  have hl := lv_entry ([.ref h0, .int 1, .int (-1728308204)]) (n := 4) (Nat.le_of_ble_eq_true rfl)
  rw [lg_entry_eq]
  generalize (lg_sl ([.ref h0, .int 1, .int (-1728308204)]) ++ List.replicate (4 - (lg_sl ([.ref h0, .int 1, .int (-1728308204)])).length) Slot.unset).toArray = ls at hl ⊢
  have hl : lv_has ls 4 [(0, .ref h0), (1, .int 1), (2, .int (-1728308204))] := hl
  refine lv_iconst (v := 0) hx hb dX12_keep_0 (by decide) ?_
  refine lv_istore_n (lv' := [(3, .int 0), (0, .ref h0), (1, .int 1), (2, .int (-1728308204))]) hx hb dX12_keep_1 rfl hl (by decide) rfl (fun ls hl => ?_)
  refine lv_iload_n hx hb dX12_keep_2 rfl (lv_at hl 0 rfl) ?_
  refine lv_iconst (v := 4) hx hb dX12_keep_3 (by decide) ?_
  refine lv_icmp_ge (tgt := 36) hx hb dX12_keep_4 (by decide) (fun c9 => absurd c9 (by decide)) (fun _ => ?_)
  refine lv_aload_n hx hb dX12_keep_7 rfl (lv_at hl 1 rfl) ?_
  refine va_get (D := D) (ci := 16) (v := .ref dg) (C := RX12) (T := TX12) (N := 64) hx hb hts (by decide +kernel) hown hK hP 0 rfl rfl 16 (by decide) (hts (.fieldLink RX12 43 "SignetRingModel" "digest" "[I") (by decide +kernel)) (fun _ h9 => h9) rfl dX12_keep_8 ?_
  refine lv_iconst (v := 4) hx hb dX12_keep_11 (by decide) ?_
  refine lv_iload_n hx hb dX12_keep_12 rfl (lv_at hl 2 rfl) ?_
  refine lv_imul hx hb dX12_keep_13 ?_
  refine lv_topi (fun v1 ev1 => ?_)
  have ev1 : v1 = 4 := ev1.trans (by decide +kernel)
  subst ev1
  refine lv_iload_n hx hb dX12_keep_14 rfl (lv_at hl 0 rfl) ?_
  refine lv_iadd hx hb dX12_keep_15 ?_
  refine lv_topi (fun v2 ev2 => ?_)
  have ev2 : v2 = 4 := ev2.trans (by decide +kernel)
  subst ev2
  refine lv_iload_n hx hb dX12_keep_16 rfl (lv_at hl 3 rfl) ?_
  refine lv_bipush (v := 24) hx hb dX12_keep_17 (by decide) ?_
  refine lv_bipush (v := 8) hx hb dX12_keep_19 (by decide) ?_
  refine lv_iload_n hx hb dX12_keep_21 rfl (lv_at hl 0 rfl) ?_
  refine lv_imul hx hb dX12_keep_22 ?_
  refine lv_topi (fun v3 ev3 => ?_)
  have ev3 : v3 = 0 := ev3.trans (by decide +kernel)
  subst ev3
  refine lv_isub hx hb dX12_keep_23 ?_
  refine lv_topi (fun v4 ev4 => ?_)
  have ev4 : v4 = 24 := ev4.trans (by decide +kernel)
  subst ev4
  refine lv_iushr (v := zu (-1728308204 : Int32) (24 : Int32)) hx hb dX12_keep_24 rfl ?_
  refine lv_topi (fun v5 ev5 => ?_)
  have ev5 : v5 = 152 := ev5.trans (by decide +kernel)
  subst ev5
  refine lv_sipush (v := 255) hx hb dX12_keep_25 (by decide) ?_
  refine lv_iand hx hb dX12_keep_28 ?_
  refine lv_topi (fun v6 ev6 => ?_)
  have ev6 : v6 = 152 := ev6.trans (by decide +kernel)
  subst ev6
  refine va_iast hx hb hK hP hD hS 1 1 rfl rfl (by unfold vp_in; decide) dX12_keep_29 (fun H locs hP hD hS => ?_)
  have hP : va_P D vwCl [(h0, .inr (16, [w1, w2, w3, w4, w5, w6, w7, w8, w9, w10, w11, w12, w13, w14, w15, w16, .ref dg, w17, w18, w19, w20, w21, w22, w23, w24, w25, w26, w27, w28, w29, w30, w31, w32, w33, w34, w35, w36, w37, w38, w39, w40, w41, w42, w43, w44, w45, w46, w47, w48, w49, w50, w51, w52, w53, w54, w55, w56, w57, w58, w59, w60, w61, w62, w63])), (dg, .inl (y 1, 32, .inl (upd (zf tO2 4 f) (nI 4).toNatClampNeg (152 : Int32))))] H := hP
  have hD : va_D A [(h0, .inr (16, [w1, w2, w3, w4, w5, w6, w7, w8, w9, w10, w11, w12, w13, w14, w15, w16, .ref dg, w17, w18, w19, w20, w21, w22, w23, w24, w25, w26, w27, w28, w29, w30, w31, w32, w33, w34, w35, w36, w37, w38, w39, w40, w41, w42, w43, w44, w45, w46, w47, w48, w49, w50, w51, w52, w53, w54, w55, w56, w57, w58, w59, w60, w61, w62, w63])), (dg, .inl (y 1, 32, .inl (upd (zf tO2 4 f) (nI 4).toNatClampNeg (152 : Int32))))] := hD
  have u7 : upd (zf tO2 4 f) (nI 4).toNatClampNeg (152 : Int32) = zf tO2 5 f := (zf_st (n := 4) (by decide) (by decide +kernel))
  rw [u7] at hP hD
  have hP : va_P D vwCl [(h0, .inr (16, [w1, w2, w3, w4, w5, w6, w7, w8, w9, w10, w11, w12, w13, w14, w15, w16, .ref dg, w17, w18, w19, w20, w21, w22, w23, w24, w25, w26, w27, w28, w29, w30, w31, w32, w33, w34, w35, w36, w37, w38, w39, w40, w41, w42, w43, w44, w45, w46, w47, w48, w49, w50, w51, w52, w53, w54, w55, w56, w57, w58, w59, w60, w61, w62, w63])), (dg, .inl (y 1, 32, .inl (zf tO2 5 f)))] H := hP
  have hD : va_D A [(h0, .inr (16, [w1, w2, w3, w4, w5, w6, w7, w8, w9, w10, w11, w12, w13, w14, w15, w16, .ref dg, w17, w18, w19, w20, w21, w22, w23, w24, w25, w26, w27, w28, w29, w30, w31, w32, w33, w34, w35, w36, w37, w38, w39, w40, w41, w42, w43, w44, w45, w46, w47, w48, w49, w50, w51, w52, w53, w54, w55, w56, w57, w58, w59, w60, w61, w62, w63])), (dg, .inl (y 1, 32, .inl (zf tO2 5 f)))] := hD
  refine lv_iinc (v := 1) (lv' := [(3, .int 1), (0, .ref h0), (1, .int 1), (2, .int (-1728308204))]) hx hb dX12_keep_30 hl (k := 0) rfl (by decide) (by decide) rfl (fun ls hl => ?_)
  refine lv_goto (tgt := 2) hx hb dX12_keep_33 (by decide) ?_
  refine lv_iload_n hx hb dX12_keep_2 rfl (lv_at hl 0 rfl) ?_
  refine lv_iconst (v := 4) hx hb dX12_keep_3 (by decide) ?_
  refine lv_icmp_ge (tgt := 36) hx hb dX12_keep_4 (by decide) (fun c9 => absurd c9 (by decide)) (fun _ => ?_)
  refine lv_aload_n hx hb dX12_keep_7 rfl (lv_at hl 1 rfl) ?_
  refine va_get (D := D) (ci := 16) (v := .ref dg) (C := RX12) (T := TX12) (N := 64) hx hb hts (by decide +kernel) hown hK hP 0 rfl rfl 16 (by decide) (hts (.fieldLink RX12 43 "SignetRingModel" "digest" "[I") (by decide +kernel)) (fun _ h9 => h9) rfl dX12_keep_8 ?_
  refine lv_iconst (v := 4) hx hb dX12_keep_11 (by decide) ?_
  refine lv_iload_n hx hb dX12_keep_12 rfl (lv_at hl 2 rfl) ?_
  refine lv_imul hx hb dX12_keep_13 ?_
  refine lv_topi (fun v8 ev8 => ?_)
  have ev8 : v8 = 4 := ev8.trans (by decide +kernel)
  subst ev8
  refine lv_iload_n hx hb dX12_keep_14 rfl (lv_at hl 0 rfl) ?_
  refine lv_iadd hx hb dX12_keep_15 ?_
  refine lv_topi (fun v9 ev9 => ?_)
  have ev9 : v9 = 5 := ev9.trans (by decide +kernel)
  subst ev9
  refine lv_iload_n hx hb dX12_keep_16 rfl (lv_at hl 3 rfl) ?_
  refine lv_bipush (v := 24) hx hb dX12_keep_17 (by decide) ?_
  refine lv_bipush (v := 8) hx hb dX12_keep_19 (by decide) ?_
  refine lv_iload_n hx hb dX12_keep_21 rfl (lv_at hl 0 rfl) ?_
  refine lv_imul hx hb dX12_keep_22 ?_
  refine lv_topi (fun v10 ev10 => ?_)
  have ev10 : v10 = 8 := ev10.trans (by decide +kernel)
  subst ev10
  refine lv_isub hx hb dX12_keep_23 ?_
  refine lv_topi (fun v11 ev11 => ?_)
  have ev11 : v11 = 16 := ev11.trans (by decide +kernel)
  subst ev11
  refine lv_iushr (v := zu (-1728308204 : Int32) (16 : Int32)) hx hb dX12_keep_24 rfl ?_
  refine lv_topi (fun v12 ev12 => ?_)
  have ev12 : v12 = 39164 := ev12.trans (by decide +kernel)
  subst ev12
  refine lv_sipush (v := 255) hx hb dX12_keep_25 (by decide) ?_
  refine lv_iand hx hb dX12_keep_28 ?_
  refine lv_topi (fun v13 ev13 => ?_)
  have ev13 : v13 = 252 := ev13.trans (by decide +kernel)
  subst ev13
  refine va_iast hx hb hK hP hD hS 1 1 rfl rfl (by unfold vp_in; decide) dX12_keep_29 (fun H locs hP hD hS => ?_)
  have hP : va_P D vwCl [(h0, .inr (16, [w1, w2, w3, w4, w5, w6, w7, w8, w9, w10, w11, w12, w13, w14, w15, w16, .ref dg, w17, w18, w19, w20, w21, w22, w23, w24, w25, w26, w27, w28, w29, w30, w31, w32, w33, w34, w35, w36, w37, w38, w39, w40, w41, w42, w43, w44, w45, w46, w47, w48, w49, w50, w51, w52, w53, w54, w55, w56, w57, w58, w59, w60, w61, w62, w63])), (dg, .inl (y 1, 32, .inl (upd (zf tO2 5 f) (nI 5).toNatClampNeg (252 : Int32))))] H := hP
  have hD : va_D A [(h0, .inr (16, [w1, w2, w3, w4, w5, w6, w7, w8, w9, w10, w11, w12, w13, w14, w15, w16, .ref dg, w17, w18, w19, w20, w21, w22, w23, w24, w25, w26, w27, w28, w29, w30, w31, w32, w33, w34, w35, w36, w37, w38, w39, w40, w41, w42, w43, w44, w45, w46, w47, w48, w49, w50, w51, w52, w53, w54, w55, w56, w57, w58, w59, w60, w61, w62, w63])), (dg, .inl (y 1, 32, .inl (upd (zf tO2 5 f) (nI 5).toNatClampNeg (252 : Int32))))] := hD
  have u14 : upd (zf tO2 5 f) (nI 5).toNatClampNeg (252 : Int32) = zf tO2 6 f := (zf_st (n := 5) (by decide) (by decide +kernel))
  rw [u14] at hP hD
  have hP : va_P D vwCl [(h0, .inr (16, [w1, w2, w3, w4, w5, w6, w7, w8, w9, w10, w11, w12, w13, w14, w15, w16, .ref dg, w17, w18, w19, w20, w21, w22, w23, w24, w25, w26, w27, w28, w29, w30, w31, w32, w33, w34, w35, w36, w37, w38, w39, w40, w41, w42, w43, w44, w45, w46, w47, w48, w49, w50, w51, w52, w53, w54, w55, w56, w57, w58, w59, w60, w61, w62, w63])), (dg, .inl (y 1, 32, .inl (zf tO2 6 f)))] H := hP
  have hD : va_D A [(h0, .inr (16, [w1, w2, w3, w4, w5, w6, w7, w8, w9, w10, w11, w12, w13, w14, w15, w16, .ref dg, w17, w18, w19, w20, w21, w22, w23, w24, w25, w26, w27, w28, w29, w30, w31, w32, w33, w34, w35, w36, w37, w38, w39, w40, w41, w42, w43, w44, w45, w46, w47, w48, w49, w50, w51, w52, w53, w54, w55, w56, w57, w58, w59, w60, w61, w62, w63])), (dg, .inl (y 1, 32, .inl (zf tO2 6 f)))] := hD
  refine lv_iinc (v := 2) (lv' := [(3, .int 2), (0, .ref h0), (1, .int 1), (2, .int (-1728308204))]) hx hb dX12_keep_30 hl (k := 0) rfl (by decide) (by decide) rfl (fun ls hl => ?_)
  refine lv_goto (tgt := 2) hx hb dX12_keep_33 (by decide) ?_
  refine lv_iload_n hx hb dX12_keep_2 rfl (lv_at hl 0 rfl) ?_
  refine lv_iconst (v := 4) hx hb dX12_keep_3 (by decide) ?_
  refine lv_icmp_ge (tgt := 36) hx hb dX12_keep_4 (by decide) (fun c9 => absurd c9 (by decide)) (fun _ => ?_)
  refine lv_aload_n hx hb dX12_keep_7 rfl (lv_at hl 1 rfl) ?_
  refine va_get (D := D) (ci := 16) (v := .ref dg) (C := RX12) (T := TX12) (N := 64) hx hb hts (by decide +kernel) hown hK hP 0 rfl rfl 16 (by decide) (hts (.fieldLink RX12 43 "SignetRingModel" "digest" "[I") (by decide +kernel)) (fun _ h9 => h9) rfl dX12_keep_8 ?_
  refine lv_iconst (v := 4) hx hb dX12_keep_11 (by decide) ?_
  refine lv_iload_n hx hb dX12_keep_12 rfl (lv_at hl 2 rfl) ?_
  refine lv_imul hx hb dX12_keep_13 ?_
  refine lv_topi (fun v15 ev15 => ?_)
  have ev15 : v15 = 4 := ev15.trans (by decide +kernel)
  subst ev15
  refine lv_iload_n hx hb dX12_keep_14 rfl (lv_at hl 0 rfl) ?_
  refine lv_iadd hx hb dX12_keep_15 ?_
  refine lv_topi (fun v16 ev16 => ?_)
  have ev16 : v16 = 6 := ev16.trans (by decide +kernel)
  subst ev16
  refine lv_iload_n hx hb dX12_keep_16 rfl (lv_at hl 3 rfl) ?_
  refine lv_bipush (v := 24) hx hb dX12_keep_17 (by decide) ?_
  refine lv_bipush (v := 8) hx hb dX12_keep_19 (by decide) ?_
  refine lv_iload_n hx hb dX12_keep_21 rfl (lv_at hl 0 rfl) ?_
  refine lv_imul hx hb dX12_keep_22 ?_
  refine lv_topi (fun v17 ev17 => ?_)
  have ev17 : v17 = 16 := ev17.trans (by decide +kernel)
  subst ev17
  refine lv_isub hx hb dX12_keep_23 ?_
  refine lv_topi (fun v18 ev18 => ?_)
  have ev18 : v18 = 8 := ev18.trans (by decide +kernel)
  subst ev18
  refine lv_iushr (v := zu (-1728308204 : Int32) (8 : Int32)) hx hb dX12_keep_24 rfl ?_
  refine lv_topi (fun v19 ev19 => ?_)
  have ev19 : v19 = 10026012 := ev19.trans (by decide +kernel)
  subst ev19
  refine lv_sipush (v := 255) hx hb dX12_keep_25 (by decide) ?_
  refine lv_iand hx hb dX12_keep_28 ?_
  refine lv_topi (fun v20 ev20 => ?_)
  have ev20 : v20 = 28 := ev20.trans (by decide +kernel)
  subst ev20
  refine va_iast hx hb hK hP hD hS 1 1 rfl rfl (by unfold vp_in; decide) dX12_keep_29 (fun H locs hP hD hS => ?_)
  have hP : va_P D vwCl [(h0, .inr (16, [w1, w2, w3, w4, w5, w6, w7, w8, w9, w10, w11, w12, w13, w14, w15, w16, .ref dg, w17, w18, w19, w20, w21, w22, w23, w24, w25, w26, w27, w28, w29, w30, w31, w32, w33, w34, w35, w36, w37, w38, w39, w40, w41, w42, w43, w44, w45, w46, w47, w48, w49, w50, w51, w52, w53, w54, w55, w56, w57, w58, w59, w60, w61, w62, w63])), (dg, .inl (y 1, 32, .inl (upd (zf tO2 6 f) (nI 6).toNatClampNeg (28 : Int32))))] H := hP
  have hD : va_D A [(h0, .inr (16, [w1, w2, w3, w4, w5, w6, w7, w8, w9, w10, w11, w12, w13, w14, w15, w16, .ref dg, w17, w18, w19, w20, w21, w22, w23, w24, w25, w26, w27, w28, w29, w30, w31, w32, w33, w34, w35, w36, w37, w38, w39, w40, w41, w42, w43, w44, w45, w46, w47, w48, w49, w50, w51, w52, w53, w54, w55, w56, w57, w58, w59, w60, w61, w62, w63])), (dg, .inl (y 1, 32, .inl (upd (zf tO2 6 f) (nI 6).toNatClampNeg (28 : Int32))))] := hD
  have u21 : upd (zf tO2 6 f) (nI 6).toNatClampNeg (28 : Int32) = zf tO2 7 f := (zf_st (n := 6) (by decide) (by decide +kernel))
  rw [u21] at hP hD
  have hP : va_P D vwCl [(h0, .inr (16, [w1, w2, w3, w4, w5, w6, w7, w8, w9, w10, w11, w12, w13, w14, w15, w16, .ref dg, w17, w18, w19, w20, w21, w22, w23, w24, w25, w26, w27, w28, w29, w30, w31, w32, w33, w34, w35, w36, w37, w38, w39, w40, w41, w42, w43, w44, w45, w46, w47, w48, w49, w50, w51, w52, w53, w54, w55, w56, w57, w58, w59, w60, w61, w62, w63])), (dg, .inl (y 1, 32, .inl (zf tO2 7 f)))] H := hP
  have hD : va_D A [(h0, .inr (16, [w1, w2, w3, w4, w5, w6, w7, w8, w9, w10, w11, w12, w13, w14, w15, w16, .ref dg, w17, w18, w19, w20, w21, w22, w23, w24, w25, w26, w27, w28, w29, w30, w31, w32, w33, w34, w35, w36, w37, w38, w39, w40, w41, w42, w43, w44, w45, w46, w47, w48, w49, w50, w51, w52, w53, w54, w55, w56, w57, w58, w59, w60, w61, w62, w63])), (dg, .inl (y 1, 32, .inl (zf tO2 7 f)))] := hD
  refine lv_iinc (v := 3) (lv' := [(3, .int 3), (0, .ref h0), (1, .int 1), (2, .int (-1728308204))]) hx hb dX12_keep_30 hl (k := 0) rfl (by decide) (by decide) rfl (fun ls hl => ?_)
  refine lv_goto (tgt := 2) hx hb dX12_keep_33 (by decide) ?_
  refine lv_iload_n hx hb dX12_keep_2 rfl (lv_at hl 0 rfl) ?_
  refine lv_iconst (v := 4) hx hb dX12_keep_3 (by decide) ?_
  refine lv_icmp_ge (tgt := 36) hx hb dX12_keep_4 (by decide) (fun c9 => absurd c9 (by decide)) (fun _ => ?_)
  refine lv_aload_n hx hb dX12_keep_7 rfl (lv_at hl 1 rfl) ?_
  refine va_get (D := D) (ci := 16) (v := .ref dg) (C := RX12) (T := TX12) (N := 64) hx hb hts (by decide +kernel) hown hK hP 0 rfl rfl 16 (by decide) (hts (.fieldLink RX12 43 "SignetRingModel" "digest" "[I") (by decide +kernel)) (fun _ h9 => h9) rfl dX12_keep_8 ?_
  refine lv_iconst (v := 4) hx hb dX12_keep_11 (by decide) ?_
  refine lv_iload_n hx hb dX12_keep_12 rfl (lv_at hl 2 rfl) ?_
  refine lv_imul hx hb dX12_keep_13 ?_
  refine lv_topi (fun v22 ev22 => ?_)
  have ev22 : v22 = 4 := ev22.trans (by decide +kernel)
  subst ev22
  refine lv_iload_n hx hb dX12_keep_14 rfl (lv_at hl 0 rfl) ?_
  refine lv_iadd hx hb dX12_keep_15 ?_
  refine lv_topi (fun v23 ev23 => ?_)
  have ev23 : v23 = 7 := ev23.trans (by decide +kernel)
  subst ev23
  refine lv_iload_n hx hb dX12_keep_16 rfl (lv_at hl 3 rfl) ?_
  refine lv_bipush (v := 24) hx hb dX12_keep_17 (by decide) ?_
  refine lv_bipush (v := 8) hx hb dX12_keep_19 (by decide) ?_
  refine lv_iload_n hx hb dX12_keep_21 rfl (lv_at hl 0 rfl) ?_
  refine lv_imul hx hb dX12_keep_22 ?_
  refine lv_topi (fun v24 ev24 => ?_)
  have ev24 : v24 = 24 := ev24.trans (by decide +kernel)
  subst ev24
  refine lv_isub hx hb dX12_keep_23 ?_
  refine lv_topi (fun v25 ev25 => ?_)
  have ev25 : v25 = 0 := ev25.trans (by decide +kernel)
  subst ev25
  refine lv_iushr (v := zu (-1728308204 : Int32) (0 : Int32)) hx hb dX12_keep_24 rfl ?_
  refine lv_topi (fun v26 ev26 => ?_)
  have ev26 : v26 = -1728308204 := ev26.trans (by decide +kernel)
  subst ev26
  refine lv_sipush (v := 255) hx hb dX12_keep_25 (by decide) ?_
  refine lv_iand hx hb dX12_keep_28 ?_
  refine lv_topi (fun v27 ev27 => ?_)
  have ev27 : v27 = 20 := ev27.trans (by decide +kernel)
  subst ev27
  refine va_iast hx hb hK hP hD hS 1 1 rfl rfl (by unfold vp_in; decide) dX12_keep_29 (fun H locs hP hD hS => ?_)
  have hP : va_P D vwCl [(h0, .inr (16, [w1, w2, w3, w4, w5, w6, w7, w8, w9, w10, w11, w12, w13, w14, w15, w16, .ref dg, w17, w18, w19, w20, w21, w22, w23, w24, w25, w26, w27, w28, w29, w30, w31, w32, w33, w34, w35, w36, w37, w38, w39, w40, w41, w42, w43, w44, w45, w46, w47, w48, w49, w50, w51, w52, w53, w54, w55, w56, w57, w58, w59, w60, w61, w62, w63])), (dg, .inl (y 1, 32, .inl (upd (zf tO2 7 f) (nI 7).toNatClampNeg (20 : Int32))))] H := hP
  have hD : va_D A [(h0, .inr (16, [w1, w2, w3, w4, w5, w6, w7, w8, w9, w10, w11, w12, w13, w14, w15, w16, .ref dg, w17, w18, w19, w20, w21, w22, w23, w24, w25, w26, w27, w28, w29, w30, w31, w32, w33, w34, w35, w36, w37, w38, w39, w40, w41, w42, w43, w44, w45, w46, w47, w48, w49, w50, w51, w52, w53, w54, w55, w56, w57, w58, w59, w60, w61, w62, w63])), (dg, .inl (y 1, 32, .inl (upd (zf tO2 7 f) (nI 7).toNatClampNeg (20 : Int32))))] := hD
  have u28 : upd (zf tO2 7 f) (nI 7).toNatClampNeg (20 : Int32) = zf tO2 8 f := (zf_st (n := 7) (by decide) (by decide +kernel))
  rw [u28] at hP hD
  have hP : va_P D vwCl [(h0, .inr (16, [w1, w2, w3, w4, w5, w6, w7, w8, w9, w10, w11, w12, w13, w14, w15, w16, .ref dg, w17, w18, w19, w20, w21, w22, w23, w24, w25, w26, w27, w28, w29, w30, w31, w32, w33, w34, w35, w36, w37, w38, w39, w40, w41, w42, w43, w44, w45, w46, w47, w48, w49, w50, w51, w52, w53, w54, w55, w56, w57, w58, w59, w60, w61, w62, w63])), (dg, .inl (y 1, 32, .inl (zf tO2 8 f)))] H := hP
  have hD : va_D A [(h0, .inr (16, [w1, w2, w3, w4, w5, w6, w7, w8, w9, w10, w11, w12, w13, w14, w15, w16, .ref dg, w17, w18, w19, w20, w21, w22, w23, w24, w25, w26, w27, w28, w29, w30, w31, w32, w33, w34, w35, w36, w37, w38, w39, w40, w41, w42, w43, w44, w45, w46, w47, w48, w49, w50, w51, w52, w53, w54, w55, w56, w57, w58, w59, w60, w61, w62, w63])), (dg, .inl (y 1, 32, .inl (zf tO2 8 f)))] := hD
  refine lv_iinc (v := 4) (lv' := [(3, .int 4), (0, .ref h0), (1, .int 1), (2, .int (-1728308204))]) hx hb dX12_keep_30 hl (k := 0) rfl (by decide) (by decide) rfl (fun ls hl => ?_)
  refine lv_goto (tgt := 2) hx hb dX12_keep_33 (by decide) ?_
  refine lv_iload_n hx hb dX12_keep_2 rfl (lv_at hl 0 rfl) ?_
  refine lv_iconst (v := 4) hx hb dX12_keep_3 (by decide) ?_
  refine lv_icmp_ge (tgt := 36) hx hb dX12_keep_4 (by decide) (fun _ => ?_) (fun c9 => absurd (by decide) c9)
  have hP9 := hP.sub (ws' := [(h0, .inr (16, [w1, w2, w3, w4, w5, w6, w7, w8, w9, w10, w11, w12, w13, w14, w15, w16, .ref dg, w17, w18, w19, w20, w21, w22, w23, w24, w25, w26, w27, w28, w29, w30, w31, w32, w33, w34, w35, w36, w37, w38, w39, w40, w41, w42, w43, w44, w45, w46, w47, w48, w49, w50, w51, w52, w53, w54, w55, w56, w57, w58, w59, w60, w61, w62, w63])), (dg, .inl (y 1, 32, .inl (zf tO2 8 f)))]) [0, 1] rfl
  have hD9 := hD.sub (ws' := [(h0, .inr (16, [w1, w2, w3, w4, w5, w6, w7, w8, w9, w10, w11, w12, w13, w14, w15, w16, .ref dg, w17, w18, w19, w20, w21, w22, w23, w24, w25, w26, w27, w28, w29, w30, w31, w32, w33, w34, w35, w36, w37, w38, w39, w40, w41, w42, w43, w44, w45, w46, w47, w48, w49, w50, w51, w52, w53, w54, w55, w56, w57, w58, w59, w60, w61, w62, w63])), (dg, .inl (y 1, 32, .inl (zf tO2 8 f)))]) [0, 1] (by decide) rfl
  refine W.widen (k := 0) (n := 0) (Nat.le_of_ble_eq_true rfl) (Nat.le_of_ble_eq_true rfl) ?_
  exact W.vret hx hb hr (fun t ht hW => ⟨⟨(), rfl, trivial, by rw [ht]; exact hP9, hD9⟩, hS.F ht⟩) hS.2.2 dX12_keep_36
def wz_c_M_keep_2_2 : List Cond := .code yX12_keep cX12_keep 4 none :: ([.fieldLink RX12 43 "SignetRingModel" "digest" "[I"] ++ (wsX120 ++ ([])))
set_option maxHeartbeats 4000000 in
set_option maxRecDepth 100000 in
theorem c_M_keep_2_2 (l : Launch) (D : va_G) (y : Nat → ClassId) (sz : Nat) (h0 : Nat) (dg : Nat) (w1 : Value) (w2 : Value) (w3 : Value) (w4 : Value) (w5 : Value) (w6 : Value) (w7 : Value) (w8 : Value) (w9 : Value) (w10 : Value) (w11 : Value) (w12 : Value) (w13 : Value) (w14 : Value) (w15 : Value) (w16 : Value) (w17 : Value) (w18 : Value) (w19 : Value) (w20 : Value) (w21 : Value) (w22 : Value) (w23 : Value) (w24 : Value) (w25 : Value) (w26 : Value) (w27 : Value) (w28 : Value) (w29 : Value) (w30 : Value) (w31 : Value) (w32 : Value) (w33 : Value) (w34 : Value) (w35 : Value) (w36 : Value) (w37 : Value) (w38 : Value) (w39 : Value) (w40 : Value) (w41 : Value) (w42 : Value) (w43 : Value) (w44 : Value) (w45 : Value) (w46 : Value) (w47 : Value) (w48 : Value) (w49 : Value) (w50 : Value) (w51 : Value) (w52 : Value) (w53 : Value) (w54 : Value) (w55 : Value) (w56 : Value) (w57 : Value) (w58 : Value) (w59 : Value) (w60 : Value) (w61 : Value) (w62 : Value) (w63 : Value) (f : Nat → Int32) : Met l yX12_keep wz_c_M_keep_2_2 ({ frames := 0, cells := 0, slots := 0, locals := 0 }) (va_Pc [.ref h0, .int 2, .int (-1694763832)] (zB D y [(h0, .inr (16, [w1, w2, w3, w4, w5, w6, w7, w8, w9, w10, w11, w12, w13, w14, w15, w16, .ref dg, w17, w18, w19, w20, w21, w22, w23, w24, w25, w26, w27, w28, w29, w30, w31, w32, w33, w34, w35, w36, w37, w38, w39, w40, w41, w42, w43, w44, w45, w46, w47, w48, w49, w50, w51, w52, w53, w54, w55, w56, w57, w58, w59, w60, w61, w62, w63])), (dg, .inl (y 1, 32, .inl (zf tO2 8 f)))] sz [] [] [] [])) (va_Qv (fun _ : Unit => True) (fun _ t => va_P D vwCl [(h0, .inr (16, [w1, w2, w3, w4, w5, w6, w7, w8, w9, w10, w11, w12, w13, w14, w15, w16, .ref dg, w17, w18, w19, w20, w21, w22, w23, w24, w25, w26, w27, w28, w29, w30, w31, w32, w33, w34, w35, w36, w37, w38, w39, w40, w41, w42, w43, w44, w45, w46, w47, w48, w49, w50, w51, w52, w53, w54, w55, w56, w57, w58, w59, w60, w61, w62, w63])), (dg, .inl (y 1, 32, .inl (zf tO2 12 f)))] t.heap ∧ va_D (va_A [(h0, .inr (16, [w1, w2, w3, w4, w5, w6, w7, w8, w9, w10, w11, w12, w13, w14, w15, w16, .ref dg, w17, w18, w19, w20, w21, w22, w23, w24, w25, w26, w27, w28, w29, w30, w31, w32, w33, w34, w35, w36, w37, w38, w39, w40, w41, w42, w43, w44, w45, w46, w47, w48, w49, w50, w51, w52, w53, w54, w55, w56, w57, w58, w59, w60, w61, w62, w63])), (dg, .inl (y 1, 32, .inl (zf tO2 8 f)))] sz) [(h0, .inr (16, [w1, w2, w3, w4, w5, w6, w7, w8, w9, w10, w11, w12, w13, w14, w15, w16, .ref dg, w17, w18, w19, w20, w21, w22, w23, w24, w25, w26, w27, w28, w29, w30, w31, w32, w33, w34, w35, w36, w37, w38, w39, w40, w41, w42, w43, w44, w45, w46, w47, w48, w49, w50, w51, w52, w53, w54, w55, w56, w57, w58, w59, w60, w61, w62, w63])), (dg, .inl (y 1, 32, .inl (zf tO2 12 f)))]) (va_A [(h0, .inr (16, [w1, w2, w3, w4, w5, w6, w7, w8, w9, w10, w11, w12, w13, w14, w15, w16, .ref dg, w17, w18, w19, w20, w21, w22, w23, w24, w25, w26, w27, w28, w29, w30, w31, w32, w33, w34, w35, w36, w37, w38, w39, w40, w41, w42, w43, w44, w45, w46, w47, w48, w49, w50, w51, w52, w53, w54, w55, w56, w57, w58, w59, w60, w61, w62, w63])), (dg, .inl (y 1, 32, .inl (zf tO2 8 f)))] sz)) 0 0 (va_A [(h0, .inr (16, [w1, w2, w3, w4, w5, w6, w7, w8, w9, w10, w11, w12, w13, w14, w15, w16, .ref dg, w17, w18, w19, w20, w21, w22, w23, w24, w25, w26, w27, w28, w29, w30, w31, w32, w33, w34, w35, w36, w37, w38, w39, w40, w41, w42, w43, w44, w45, w46, w47, w48, w49, w50, w51, w52, w53, w54, w55, w56, w57, w58, w59, w60, w61, w62, w63])), (dg, .inl (y 1, 32, .inl (zf tO2 8 f)))] sz) := by
  refine Met.ofW (cc := cX12_keep) (maxL := 4) (ret := none) (by decide) rfl ?_
  intro p e s m args below meth c s₁ B hml hv
  obtain ⟨rfl, hsz, hP, hK, hD0, hN, hE, hO, hT, hG⟩ := hv
  have hx := B.exec
  have hb := B.bytes
  have hr := B.returns
  have hts := atoms_spec (ws := wz_c_M_keep_2_2) B.pre
  have hown : s.vm.findClass RX12 = some m.cls := findClass_of_methodNamed B.named
  have hlocks := B.notSynchronized
  subst hsz
  have hD := hD0.self (sz := s.heap.size)
  generalize hAe : va_A [(h0, .inr (16, [w1, w2, w3, w4, w5, w6, w7, w8, w9, w10, w11, w12, w13, w14, w15, w16, .ref dg, w17, w18, w19, w20, w21, w22, w23, w24, w25, w26, w27, w28, w29, w30, w31, w32, w33, w34, w35, w36, w37, w38, w39, w40, w41, w42, w43, w44, w45, w46, w47, w48, w49, w50, w51, w52, w53, w54, w55, w56, w57, w58, w59, w60, w61, w62, w63])), (dg, .inl (y 1, 32, .inl (zf tO2 8 f)))] s.heap.size = A at hD hE hT hG ⊢
  have hA : ∀ q : Nat, s.heap.size ≤ q → A q := fun q h => by rw [← hAe]; exact Or.inr h
  have hS : va_S A s.heap s.heap [] := va_S.rf
  have hl := lv_entry ([.ref h0, .int 2, .int (-1694763832)]) (n := 4) (Nat.le_of_ble_eq_true rfl)
  rw [lg_entry_eq]
  generalize (lg_sl ([.ref h0, .int 2, .int (-1694763832)]) ++ List.replicate (4 - (lg_sl ([.ref h0, .int 2, .int (-1694763832)])).length) Slot.unset).toArray = ls at hl ⊢
  have hl : lv_has ls 4 [(0, .ref h0), (1, .int 2), (2, .int (-1694763832))] := hl
  refine lv_iconst (v := 0) hx hb dX12_keep_0 (by decide) ?_
  refine lv_istore_n (lv' := [(3, .int 0), (0, .ref h0), (1, .int 2), (2, .int (-1694763832))]) hx hb dX12_keep_1 rfl hl (by decide) rfl (fun ls hl => ?_)
  refine lv_iload_n hx hb dX12_keep_2 rfl (lv_at hl 0 rfl) ?_
  refine lv_iconst (v := 4) hx hb dX12_keep_3 (by decide) ?_
  refine lv_icmp_ge (tgt := 36) hx hb dX12_keep_4 (by decide) (fun c9 => absurd c9 (by decide)) (fun _ => ?_)
  refine lv_aload_n hx hb dX12_keep_7 rfl (lv_at hl 1 rfl) ?_
  refine va_get (D := D) (ci := 16) (v := .ref dg) (C := RX12) (T := TX12) (N := 64) hx hb hts (by decide +kernel) hown hK hP 0 rfl rfl 16 (by decide) (hts (.fieldLink RX12 43 "SignetRingModel" "digest" "[I") (by decide +kernel)) (fun _ h9 => h9) rfl dX12_keep_8 ?_
  refine lv_iconst (v := 4) hx hb dX12_keep_11 (by decide) ?_
  refine lv_iload_n hx hb dX12_keep_12 rfl (lv_at hl 2 rfl) ?_
  refine lv_imul hx hb dX12_keep_13 ?_
  refine lv_topi (fun v1 ev1 => ?_)
  have ev1 : v1 = 8 := ev1.trans (by decide +kernel)
  subst ev1
  refine lv_iload_n hx hb dX12_keep_14 rfl (lv_at hl 0 rfl) ?_
  refine lv_iadd hx hb dX12_keep_15 ?_
  refine lv_topi (fun v2 ev2 => ?_)
  have ev2 : v2 = 8 := ev2.trans (by decide +kernel)
  subst ev2
  refine lv_iload_n hx hb dX12_keep_16 rfl (lv_at hl 3 rfl) ?_
  refine lv_bipush (v := 24) hx hb dX12_keep_17 (by decide) ?_
  refine lv_bipush (v := 8) hx hb dX12_keep_19 (by decide) ?_
  refine lv_iload_n hx hb dX12_keep_21 rfl (lv_at hl 0 rfl) ?_
  refine lv_imul hx hb dX12_keep_22 ?_
  refine lv_topi (fun v3 ev3 => ?_)
  have ev3 : v3 = 0 := ev3.trans (by decide +kernel)
  subst ev3
  refine lv_isub hx hb dX12_keep_23 ?_
  refine lv_topi (fun v4 ev4 => ?_)
  have ev4 : v4 = 24 := ev4.trans (by decide +kernel)
  subst ev4
  refine lv_iushr (v := zu (-1694763832 : Int32) (24 : Int32)) hx hb dX12_keep_24 rfl ?_
  refine lv_topi (fun v5 ev5 => ?_)
  have ev5 : v5 = 154 := ev5.trans (by decide +kernel)
  subst ev5
  refine lv_sipush (v := 255) hx hb dX12_keep_25 (by decide) ?_
  refine lv_iand hx hb dX12_keep_28 ?_
  refine lv_topi (fun v6 ev6 => ?_)
  have ev6 : v6 = 154 := ev6.trans (by decide +kernel)
  subst ev6
  refine va_iast hx hb hK hP hD hS 1 1 rfl rfl (by unfold vp_in; decide) dX12_keep_29 (fun H locs hP hD hS => ?_)
  have hP : va_P D vwCl [(h0, .inr (16, [w1, w2, w3, w4, w5, w6, w7, w8, w9, w10, w11, w12, w13, w14, w15, w16, .ref dg, w17, w18, w19, w20, w21, w22, w23, w24, w25, w26, w27, w28, w29, w30, w31, w32, w33, w34, w35, w36, w37, w38, w39, w40, w41, w42, w43, w44, w45, w46, w47, w48, w49, w50, w51, w52, w53, w54, w55, w56, w57, w58, w59, w60, w61, w62, w63])), (dg, .inl (y 1, 32, .inl (upd (zf tO2 8 f) (nI 8).toNatClampNeg (154 : Int32))))] H := hP
  have hD : va_D A [(h0, .inr (16, [w1, w2, w3, w4, w5, w6, w7, w8, w9, w10, w11, w12, w13, w14, w15, w16, .ref dg, w17, w18, w19, w20, w21, w22, w23, w24, w25, w26, w27, w28, w29, w30, w31, w32, w33, w34, w35, w36, w37, w38, w39, w40, w41, w42, w43, w44, w45, w46, w47, w48, w49, w50, w51, w52, w53, w54, w55, w56, w57, w58, w59, w60, w61, w62, w63])), (dg, .inl (y 1, 32, .inl (upd (zf tO2 8 f) (nI 8).toNatClampNeg (154 : Int32))))] := hD
  have u7 : upd (zf tO2 8 f) (nI 8).toNatClampNeg (154 : Int32) = zf tO2 9 f := (zf_st (n := 8) (by decide) (by decide +kernel))
  rw [u7] at hP hD
  have hP : va_P D vwCl [(h0, .inr (16, [w1, w2, w3, w4, w5, w6, w7, w8, w9, w10, w11, w12, w13, w14, w15, w16, .ref dg, w17, w18, w19, w20, w21, w22, w23, w24, w25, w26, w27, w28, w29, w30, w31, w32, w33, w34, w35, w36, w37, w38, w39, w40, w41, w42, w43, w44, w45, w46, w47, w48, w49, w50, w51, w52, w53, w54, w55, w56, w57, w58, w59, w60, w61, w62, w63])), (dg, .inl (y 1, 32, .inl (zf tO2 9 f)))] H := hP
  have hD : va_D A [(h0, .inr (16, [w1, w2, w3, w4, w5, w6, w7, w8, w9, w10, w11, w12, w13, w14, w15, w16, .ref dg, w17, w18, w19, w20, w21, w22, w23, w24, w25, w26, w27, w28, w29, w30, w31, w32, w33, w34, w35, w36, w37, w38, w39, w40, w41, w42, w43, w44, w45, w46, w47, w48, w49, w50, w51, w52, w53, w54, w55, w56, w57, w58, w59, w60, w61, w62, w63])), (dg, .inl (y 1, 32, .inl (zf tO2 9 f)))] := hD
  refine lv_iinc (v := 1) (lv' := [(3, .int 1), (0, .ref h0), (1, .int 2), (2, .int (-1694763832))]) hx hb dX12_keep_30 hl (k := 0) rfl (by decide) (by decide) rfl (fun ls hl => ?_)
  refine lv_goto (tgt := 2) hx hb dX12_keep_33 (by decide) ?_
  refine lv_iload_n hx hb dX12_keep_2 rfl (lv_at hl 0 rfl) ?_
  refine lv_iconst (v := 4) hx hb dX12_keep_3 (by decide) ?_
  refine lv_icmp_ge (tgt := 36) hx hb dX12_keep_4 (by decide) (fun c9 => absurd c9 (by decide)) (fun _ => ?_)
  refine lv_aload_n hx hb dX12_keep_7 rfl (lv_at hl 1 rfl) ?_
  refine va_get (D := D) (ci := 16) (v := .ref dg) (C := RX12) (T := TX12) (N := 64) hx hb hts (by decide +kernel) hown hK hP 0 rfl rfl 16 (by decide) (hts (.fieldLink RX12 43 "SignetRingModel" "digest" "[I") (by decide +kernel)) (fun _ h9 => h9) rfl dX12_keep_8 ?_
  refine lv_iconst (v := 4) hx hb dX12_keep_11 (by decide) ?_
  refine lv_iload_n hx hb dX12_keep_12 rfl (lv_at hl 2 rfl) ?_
  refine lv_imul hx hb dX12_keep_13 ?_
  refine lv_topi (fun v8 ev8 => ?_)
  have ev8 : v8 = 8 := ev8.trans (by decide +kernel)
  subst ev8
  refine lv_iload_n hx hb dX12_keep_14 rfl (lv_at hl 0 rfl) ?_
  refine lv_iadd hx hb dX12_keep_15 ?_
  refine lv_topi (fun v9 ev9 => ?_)
  have ev9 : v9 = 9 := ev9.trans (by decide +kernel)
  subst ev9
  refine lv_iload_n hx hb dX12_keep_16 rfl (lv_at hl 3 rfl) ?_
  refine lv_bipush (v := 24) hx hb dX12_keep_17 (by decide) ?_
  refine lv_bipush (v := 8) hx hb dX12_keep_19 (by decide) ?_
  refine lv_iload_n hx hb dX12_keep_21 rfl (lv_at hl 0 rfl) ?_
  refine lv_imul hx hb dX12_keep_22 ?_
  refine lv_topi (fun v10 ev10 => ?_)
  have ev10 : v10 = 8 := ev10.trans (by decide +kernel)
  subst ev10
  refine lv_isub hx hb dX12_keep_23 ?_
  refine lv_topi (fun v11 ev11 => ?_)
  have ev11 : v11 = 16 := ev11.trans (by decide +kernel)
  subst ev11
  refine lv_iushr (v := zu (-1694763832 : Int32) (16 : Int32)) hx hb dX12_keep_24 rfl ?_
  refine lv_topi (fun v12 ev12 => ?_)
  have ev12 : v12 = 39675 := ev12.trans (by decide +kernel)
  subst ev12
  refine lv_sipush (v := 255) hx hb dX12_keep_25 (by decide) ?_
  refine lv_iand hx hb dX12_keep_28 ?_
  refine lv_topi (fun v13 ev13 => ?_)
  have ev13 : v13 = 251 := ev13.trans (by decide +kernel)
  subst ev13
  refine va_iast hx hb hK hP hD hS 1 1 rfl rfl (by unfold vp_in; decide) dX12_keep_29 (fun H locs hP hD hS => ?_)
  have hP : va_P D vwCl [(h0, .inr (16, [w1, w2, w3, w4, w5, w6, w7, w8, w9, w10, w11, w12, w13, w14, w15, w16, .ref dg, w17, w18, w19, w20, w21, w22, w23, w24, w25, w26, w27, w28, w29, w30, w31, w32, w33, w34, w35, w36, w37, w38, w39, w40, w41, w42, w43, w44, w45, w46, w47, w48, w49, w50, w51, w52, w53, w54, w55, w56, w57, w58, w59, w60, w61, w62, w63])), (dg, .inl (y 1, 32, .inl (upd (zf tO2 9 f) (nI 9).toNatClampNeg (251 : Int32))))] H := hP
  have hD : va_D A [(h0, .inr (16, [w1, w2, w3, w4, w5, w6, w7, w8, w9, w10, w11, w12, w13, w14, w15, w16, .ref dg, w17, w18, w19, w20, w21, w22, w23, w24, w25, w26, w27, w28, w29, w30, w31, w32, w33, w34, w35, w36, w37, w38, w39, w40, w41, w42, w43, w44, w45, w46, w47, w48, w49, w50, w51, w52, w53, w54, w55, w56, w57, w58, w59, w60, w61, w62, w63])), (dg, .inl (y 1, 32, .inl (upd (zf tO2 9 f) (nI 9).toNatClampNeg (251 : Int32))))] := hD
  have u14 : upd (zf tO2 9 f) (nI 9).toNatClampNeg (251 : Int32) = zf tO2 10 f := (zf_st (n := 9) (by decide) (by decide +kernel))
  rw [u14] at hP hD
  have hP : va_P D vwCl [(h0, .inr (16, [w1, w2, w3, w4, w5, w6, w7, w8, w9, w10, w11, w12, w13, w14, w15, w16, .ref dg, w17, w18, w19, w20, w21, w22, w23, w24, w25, w26, w27, w28, w29, w30, w31, w32, w33, w34, w35, w36, w37, w38, w39, w40, w41, w42, w43, w44, w45, w46, w47, w48, w49, w50, w51, w52, w53, w54, w55, w56, w57, w58, w59, w60, w61, w62, w63])), (dg, .inl (y 1, 32, .inl (zf tO2 10 f)))] H := hP
  have hD : va_D A [(h0, .inr (16, [w1, w2, w3, w4, w5, w6, w7, w8, w9, w10, w11, w12, w13, w14, w15, w16, .ref dg, w17, w18, w19, w20, w21, w22, w23, w24, w25, w26, w27, w28, w29, w30, w31, w32, w33, w34, w35, w36, w37, w38, w39, w40, w41, w42, w43, w44, w45, w46, w47, w48, w49, w50, w51, w52, w53, w54, w55, w56, w57, w58, w59, w60, w61, w62, w63])), (dg, .inl (y 1, 32, .inl (zf tO2 10 f)))] := hD
  refine lv_iinc (v := 2) (lv' := [(3, .int 2), (0, .ref h0), (1, .int 2), (2, .int (-1694763832))]) hx hb dX12_keep_30 hl (k := 0) rfl (by decide) (by decide) rfl (fun ls hl => ?_)
  refine lv_goto (tgt := 2) hx hb dX12_keep_33 (by decide) ?_
  refine lv_iload_n hx hb dX12_keep_2 rfl (lv_at hl 0 rfl) ?_
  refine lv_iconst (v := 4) hx hb dX12_keep_3 (by decide) ?_
  refine lv_icmp_ge (tgt := 36) hx hb dX12_keep_4 (by decide) (fun c9 => absurd c9 (by decide)) (fun _ => ?_)
  refine lv_aload_n hx hb dX12_keep_7 rfl (lv_at hl 1 rfl) ?_
  refine va_get (D := D) (ci := 16) (v := .ref dg) (C := RX12) (T := TX12) (N := 64) hx hb hts (by decide +kernel) hown hK hP 0 rfl rfl 16 (by decide) (hts (.fieldLink RX12 43 "SignetRingModel" "digest" "[I") (by decide +kernel)) (fun _ h9 => h9) rfl dX12_keep_8 ?_
  refine lv_iconst (v := 4) hx hb dX12_keep_11 (by decide) ?_
  refine lv_iload_n hx hb dX12_keep_12 rfl (lv_at hl 2 rfl) ?_
  refine lv_imul hx hb dX12_keep_13 ?_
  refine lv_topi (fun v15 ev15 => ?_)
  have ev15 : v15 = 8 := ev15.trans (by decide +kernel)
  subst ev15
  refine lv_iload_n hx hb dX12_keep_14 rfl (lv_at hl 0 rfl) ?_
  refine lv_iadd hx hb dX12_keep_15 ?_
  refine lv_topi (fun v16 ev16 => ?_)
  have ev16 : v16 = 10 := ev16.trans (by decide +kernel)
  subst ev16
  refine lv_iload_n hx hb dX12_keep_16 rfl (lv_at hl 3 rfl) ?_
  refine lv_bipush (v := 24) hx hb dX12_keep_17 (by decide) ?_
  refine lv_bipush (v := 8) hx hb dX12_keep_19 (by decide) ?_
  refine lv_iload_n hx hb dX12_keep_21 rfl (lv_at hl 0 rfl) ?_
  refine lv_imul hx hb dX12_keep_22 ?_
  refine lv_topi (fun v17 ev17 => ?_)
  have ev17 : v17 = 16 := ev17.trans (by decide +kernel)
  subst ev17
  refine lv_isub hx hb dX12_keep_23 ?_
  refine lv_topi (fun v18 ev18 => ?_)
  have ev18 : v18 = 8 := ev18.trans (by decide +kernel)
  subst ev18
  refine lv_iushr (v := zu (-1694763832 : Int32) (8 : Int32)) hx hb dX12_keep_24 rfl ?_
  refine lv_topi (fun v19 ev19 => ?_)
  have ev19 : v19 = 10157044 := ev19.trans (by decide +kernel)
  subst ev19
  refine lv_sipush (v := 255) hx hb dX12_keep_25 (by decide) ?_
  refine lv_iand hx hb dX12_keep_28 ?_
  refine lv_topi (fun v20 ev20 => ?_)
  have ev20 : v20 = 244 := ev20.trans (by decide +kernel)
  subst ev20
  refine va_iast hx hb hK hP hD hS 1 1 rfl rfl (by unfold vp_in; decide) dX12_keep_29 (fun H locs hP hD hS => ?_)
  have hP : va_P D vwCl [(h0, .inr (16, [w1, w2, w3, w4, w5, w6, w7, w8, w9, w10, w11, w12, w13, w14, w15, w16, .ref dg, w17, w18, w19, w20, w21, w22, w23, w24, w25, w26, w27, w28, w29, w30, w31, w32, w33, w34, w35, w36, w37, w38, w39, w40, w41, w42, w43, w44, w45, w46, w47, w48, w49, w50, w51, w52, w53, w54, w55, w56, w57, w58, w59, w60, w61, w62, w63])), (dg, .inl (y 1, 32, .inl (upd (zf tO2 10 f) (nI 10).toNatClampNeg (244 : Int32))))] H := hP
  have hD : va_D A [(h0, .inr (16, [w1, w2, w3, w4, w5, w6, w7, w8, w9, w10, w11, w12, w13, w14, w15, w16, .ref dg, w17, w18, w19, w20, w21, w22, w23, w24, w25, w26, w27, w28, w29, w30, w31, w32, w33, w34, w35, w36, w37, w38, w39, w40, w41, w42, w43, w44, w45, w46, w47, w48, w49, w50, w51, w52, w53, w54, w55, w56, w57, w58, w59, w60, w61, w62, w63])), (dg, .inl (y 1, 32, .inl (upd (zf tO2 10 f) (nI 10).toNatClampNeg (244 : Int32))))] := hD
  have u21 : upd (zf tO2 10 f) (nI 10).toNatClampNeg (244 : Int32) = zf tO2 11 f := (zf_st (n := 10) (by decide) (by decide +kernel))
  rw [u21] at hP hD
  have hP : va_P D vwCl [(h0, .inr (16, [w1, w2, w3, w4, w5, w6, w7, w8, w9, w10, w11, w12, w13, w14, w15, w16, .ref dg, w17, w18, w19, w20, w21, w22, w23, w24, w25, w26, w27, w28, w29, w30, w31, w32, w33, w34, w35, w36, w37, w38, w39, w40, w41, w42, w43, w44, w45, w46, w47, w48, w49, w50, w51, w52, w53, w54, w55, w56, w57, w58, w59, w60, w61, w62, w63])), (dg, .inl (y 1, 32, .inl (zf tO2 11 f)))] H := hP
  have hD : va_D A [(h0, .inr (16, [w1, w2, w3, w4, w5, w6, w7, w8, w9, w10, w11, w12, w13, w14, w15, w16, .ref dg, w17, w18, w19, w20, w21, w22, w23, w24, w25, w26, w27, w28, w29, w30, w31, w32, w33, w34, w35, w36, w37, w38, w39, w40, w41, w42, w43, w44, w45, w46, w47, w48, w49, w50, w51, w52, w53, w54, w55, w56, w57, w58, w59, w60, w61, w62, w63])), (dg, .inl (y 1, 32, .inl (zf tO2 11 f)))] := hD
  refine lv_iinc (v := 3) (lv' := [(3, .int 3), (0, .ref h0), (1, .int 2), (2, .int (-1694763832))]) hx hb dX12_keep_30 hl (k := 0) rfl (by decide) (by decide) rfl (fun ls hl => ?_)
  refine lv_goto (tgt := 2) hx hb dX12_keep_33 (by decide) ?_
  refine lv_iload_n hx hb dX12_keep_2 rfl (lv_at hl 0 rfl) ?_
  refine lv_iconst (v := 4) hx hb dX12_keep_3 (by decide) ?_
  refine lv_icmp_ge (tgt := 36) hx hb dX12_keep_4 (by decide) (fun c9 => absurd c9 (by decide)) (fun _ => ?_)
  refine lv_aload_n hx hb dX12_keep_7 rfl (lv_at hl 1 rfl) ?_
  refine va_get (D := D) (ci := 16) (v := .ref dg) (C := RX12) (T := TX12) (N := 64) hx hb hts (by decide +kernel) hown hK hP 0 rfl rfl 16 (by decide) (hts (.fieldLink RX12 43 "SignetRingModel" "digest" "[I") (by decide +kernel)) (fun _ h9 => h9) rfl dX12_keep_8 ?_
  refine lv_iconst (v := 4) hx hb dX12_keep_11 (by decide) ?_
  refine lv_iload_n hx hb dX12_keep_12 rfl (lv_at hl 2 rfl) ?_
  refine lv_imul hx hb dX12_keep_13 ?_
  refine lv_topi (fun v22 ev22 => ?_)
  have ev22 : v22 = 8 := ev22.trans (by decide +kernel)
  subst ev22
  refine lv_iload_n hx hb dX12_keep_14 rfl (lv_at hl 0 rfl) ?_
  refine lv_iadd hx hb dX12_keep_15 ?_
  refine lv_topi (fun v23 ev23 => ?_)
  have ev23 : v23 = 11 := ev23.trans (by decide +kernel)
  subst ev23
  refine lv_iload_n hx hb dX12_keep_16 rfl (lv_at hl 3 rfl) ?_
  refine lv_bipush (v := 24) hx hb dX12_keep_17 (by decide) ?_
  refine lv_bipush (v := 8) hx hb dX12_keep_19 (by decide) ?_
  refine lv_iload_n hx hb dX12_keep_21 rfl (lv_at hl 0 rfl) ?_
  refine lv_imul hx hb dX12_keep_22 ?_
  refine lv_topi (fun v24 ev24 => ?_)
  have ev24 : v24 = 24 := ev24.trans (by decide +kernel)
  subst ev24
  refine lv_isub hx hb dX12_keep_23 ?_
  refine lv_topi (fun v25 ev25 => ?_)
  have ev25 : v25 = 0 := ev25.trans (by decide +kernel)
  subst ev25
  refine lv_iushr (v := zu (-1694763832 : Int32) (0 : Int32)) hx hb dX12_keep_24 rfl ?_
  refine lv_topi (fun v26 ev26 => ?_)
  have ev26 : v26 = -1694763832 := ev26.trans (by decide +kernel)
  subst ev26
  refine lv_sipush (v := 255) hx hb dX12_keep_25 (by decide) ?_
  refine lv_iand hx hb dX12_keep_28 ?_
  refine lv_topi (fun v27 ev27 => ?_)
  have ev27 : v27 = 200 := ev27.trans (by decide +kernel)
  subst ev27
  refine va_iast hx hb hK hP hD hS 1 1 rfl rfl (by unfold vp_in; decide) dX12_keep_29 (fun H locs hP hD hS => ?_)
  have hP : va_P D vwCl [(h0, .inr (16, [w1, w2, w3, w4, w5, w6, w7, w8, w9, w10, w11, w12, w13, w14, w15, w16, .ref dg, w17, w18, w19, w20, w21, w22, w23, w24, w25, w26, w27, w28, w29, w30, w31, w32, w33, w34, w35, w36, w37, w38, w39, w40, w41, w42, w43, w44, w45, w46, w47, w48, w49, w50, w51, w52, w53, w54, w55, w56, w57, w58, w59, w60, w61, w62, w63])), (dg, .inl (y 1, 32, .inl (upd (zf tO2 11 f) (nI 11).toNatClampNeg (200 : Int32))))] H := hP
  have hD : va_D A [(h0, .inr (16, [w1, w2, w3, w4, w5, w6, w7, w8, w9, w10, w11, w12, w13, w14, w15, w16, .ref dg, w17, w18, w19, w20, w21, w22, w23, w24, w25, w26, w27, w28, w29, w30, w31, w32, w33, w34, w35, w36, w37, w38, w39, w40, w41, w42, w43, w44, w45, w46, w47, w48, w49, w50, w51, w52, w53, w54, w55, w56, w57, w58, w59, w60, w61, w62, w63])), (dg, .inl (y 1, 32, .inl (upd (zf tO2 11 f) (nI 11).toNatClampNeg (200 : Int32))))] := hD
  have u28 : upd (zf tO2 11 f) (nI 11).toNatClampNeg (200 : Int32) = zf tO2 12 f := (zf_st (n := 11) (by decide) (by decide +kernel))
  rw [u28] at hP hD
  have hP : va_P D vwCl [(h0, .inr (16, [w1, w2, w3, w4, w5, w6, w7, w8, w9, w10, w11, w12, w13, w14, w15, w16, .ref dg, w17, w18, w19, w20, w21, w22, w23, w24, w25, w26, w27, w28, w29, w30, w31, w32, w33, w34, w35, w36, w37, w38, w39, w40, w41, w42, w43, w44, w45, w46, w47, w48, w49, w50, w51, w52, w53, w54, w55, w56, w57, w58, w59, w60, w61, w62, w63])), (dg, .inl (y 1, 32, .inl (zf tO2 12 f)))] H := hP
  have hD : va_D A [(h0, .inr (16, [w1, w2, w3, w4, w5, w6, w7, w8, w9, w10, w11, w12, w13, w14, w15, w16, .ref dg, w17, w18, w19, w20, w21, w22, w23, w24, w25, w26, w27, w28, w29, w30, w31, w32, w33, w34, w35, w36, w37, w38, w39, w40, w41, w42, w43, w44, w45, w46, w47, w48, w49, w50, w51, w52, w53, w54, w55, w56, w57, w58, w59, w60, w61, w62, w63])), (dg, .inl (y 1, 32, .inl (zf tO2 12 f)))] := hD
  refine lv_iinc (v := 4) (lv' := [(3, .int 4), (0, .ref h0), (1, .int 2), (2, .int (-1694763832))]) hx hb dX12_keep_30 hl (k := 0) rfl (by decide) (by decide) rfl (fun ls hl => ?_)
  refine lv_goto (tgt := 2) hx hb dX12_keep_33 (by decide) ?_
  refine lv_iload_n hx hb dX12_keep_2 rfl (lv_at hl 0 rfl) ?_
  refine lv_iconst (v := 4) hx hb dX12_keep_3 (by decide) ?_
  refine lv_icmp_ge (tgt := 36) hx hb dX12_keep_4 (by decide) (fun _ => ?_) (fun c9 => absurd (by decide) c9)
  have hP9 := hP.sub (ws' := [(h0, .inr (16, [w1, w2, w3, w4, w5, w6, w7, w8, w9, w10, w11, w12, w13, w14, w15, w16, .ref dg, w17, w18, w19, w20, w21, w22, w23, w24, w25, w26, w27, w28, w29, w30, w31, w32, w33, w34, w35, w36, w37, w38, w39, w40, w41, w42, w43, w44, w45, w46, w47, w48, w49, w50, w51, w52, w53, w54, w55, w56, w57, w58, w59, w60, w61, w62, w63])), (dg, .inl (y 1, 32, .inl (zf tO2 12 f)))]) [0, 1] rfl
  have hD9 := hD.sub (ws' := [(h0, .inr (16, [w1, w2, w3, w4, w5, w6, w7, w8, w9, w10, w11, w12, w13, w14, w15, w16, .ref dg, w17, w18, w19, w20, w21, w22, w23, w24, w25, w26, w27, w28, w29, w30, w31, w32, w33, w34, w35, w36, w37, w38, w39, w40, w41, w42, w43, w44, w45, w46, w47, w48, w49, w50, w51, w52, w53, w54, w55, w56, w57, w58, w59, w60, w61, w62, w63])), (dg, .inl (y 1, 32, .inl (zf tO2 12 f)))]) [0, 1] (by decide) rfl
  refine W.widen (k := 0) (n := 0) (Nat.le_of_ble_eq_true rfl) (Nat.le_of_ble_eq_true rfl) ?_
  exact W.vret hx hb hr (fun t ht hW => ⟨⟨(), rfl, trivial, by rw [ht]; exact hP9, hD9⟩, hS.F ht⟩) hS.2.2 dX12_keep_36
def wz_c_M_keep_2_3 : List Cond := .code yX12_keep cX12_keep 4 none :: ([.fieldLink RX12 43 "SignetRingModel" "digest" "[I"] ++ (wsX120 ++ ([])))
set_option maxHeartbeats 4000000 in
set_option maxRecDepth 100000 in
theorem c_M_keep_2_3 (l : Launch) (D : va_G) (y : Nat → ClassId) (sz : Nat) (h0 : Nat) (dg : Nat) (w1 : Value) (w2 : Value) (w3 : Value) (w4 : Value) (w5 : Value) (w6 : Value) (w7 : Value) (w8 : Value) (w9 : Value) (w10 : Value) (w11 : Value) (w12 : Value) (w13 : Value) (w14 : Value) (w15 : Value) (w16 : Value) (w17 : Value) (w18 : Value) (w19 : Value) (w20 : Value) (w21 : Value) (w22 : Value) (w23 : Value) (w24 : Value) (w25 : Value) (w26 : Value) (w27 : Value) (w28 : Value) (w29 : Value) (w30 : Value) (w31 : Value) (w32 : Value) (w33 : Value) (w34 : Value) (w35 : Value) (w36 : Value) (w37 : Value) (w38 : Value) (w39 : Value) (w40 : Value) (w41 : Value) (w42 : Value) (w43 : Value) (w44 : Value) (w45 : Value) (w46 : Value) (w47 : Value) (w48 : Value) (w49 : Value) (w50 : Value) (w51 : Value) (w52 : Value) (w53 : Value) (w54 : Value) (w55 : Value) (w56 : Value) (w57 : Value) (w58 : Value) (w59 : Value) (w60 : Value) (w61 : Value) (w62 : Value) (w63 : Value) (f : Nat → Int32) : Met l yX12_keep wz_c_M_keep_2_3 ({ frames := 0, cells := 0, slots := 0, locals := 0 }) (va_Pc [.ref h0, .int 3, .int (-1720731356)] (zB D y [(h0, .inr (16, [w1, w2, w3, w4, w5, w6, w7, w8, w9, w10, w11, w12, w13, w14, w15, w16, .ref dg, w17, w18, w19, w20, w21, w22, w23, w24, w25, w26, w27, w28, w29, w30, w31, w32, w33, w34, w35, w36, w37, w38, w39, w40, w41, w42, w43, w44, w45, w46, w47, w48, w49, w50, w51, w52, w53, w54, w55, w56, w57, w58, w59, w60, w61, w62, w63])), (dg, .inl (y 1, 32, .inl (zf tO2 12 f)))] sz [] [] [] [])) (va_Qv (fun _ : Unit => True) (fun _ t => va_P D vwCl [(h0, .inr (16, [w1, w2, w3, w4, w5, w6, w7, w8, w9, w10, w11, w12, w13, w14, w15, w16, .ref dg, w17, w18, w19, w20, w21, w22, w23, w24, w25, w26, w27, w28, w29, w30, w31, w32, w33, w34, w35, w36, w37, w38, w39, w40, w41, w42, w43, w44, w45, w46, w47, w48, w49, w50, w51, w52, w53, w54, w55, w56, w57, w58, w59, w60, w61, w62, w63])), (dg, .inl (y 1, 32, .inl (zf tO2 16 f)))] t.heap ∧ va_D (va_A [(h0, .inr (16, [w1, w2, w3, w4, w5, w6, w7, w8, w9, w10, w11, w12, w13, w14, w15, w16, .ref dg, w17, w18, w19, w20, w21, w22, w23, w24, w25, w26, w27, w28, w29, w30, w31, w32, w33, w34, w35, w36, w37, w38, w39, w40, w41, w42, w43, w44, w45, w46, w47, w48, w49, w50, w51, w52, w53, w54, w55, w56, w57, w58, w59, w60, w61, w62, w63])), (dg, .inl (y 1, 32, .inl (zf tO2 12 f)))] sz) [(h0, .inr (16, [w1, w2, w3, w4, w5, w6, w7, w8, w9, w10, w11, w12, w13, w14, w15, w16, .ref dg, w17, w18, w19, w20, w21, w22, w23, w24, w25, w26, w27, w28, w29, w30, w31, w32, w33, w34, w35, w36, w37, w38, w39, w40, w41, w42, w43, w44, w45, w46, w47, w48, w49, w50, w51, w52, w53, w54, w55, w56, w57, w58, w59, w60, w61, w62, w63])), (dg, .inl (y 1, 32, .inl (zf tO2 16 f)))]) (va_A [(h0, .inr (16, [w1, w2, w3, w4, w5, w6, w7, w8, w9, w10, w11, w12, w13, w14, w15, w16, .ref dg, w17, w18, w19, w20, w21, w22, w23, w24, w25, w26, w27, w28, w29, w30, w31, w32, w33, w34, w35, w36, w37, w38, w39, w40, w41, w42, w43, w44, w45, w46, w47, w48, w49, w50, w51, w52, w53, w54, w55, w56, w57, w58, w59, w60, w61, w62, w63])), (dg, .inl (y 1, 32, .inl (zf tO2 12 f)))] sz)) 0 0 (va_A [(h0, .inr (16, [w1, w2, w3, w4, w5, w6, w7, w8, w9, w10, w11, w12, w13, w14, w15, w16, .ref dg, w17, w18, w19, w20, w21, w22, w23, w24, w25, w26, w27, w28, w29, w30, w31, w32, w33, w34, w35, w36, w37, w38, w39, w40, w41, w42, w43, w44, w45, w46, w47, w48, w49, w50, w51, w52, w53, w54, w55, w56, w57, w58, w59, w60, w61, w62, w63])), (dg, .inl (y 1, 32, .inl (zf tO2 12 f)))] sz) := by
  refine Met.ofW (cc := cX12_keep) (maxL := 4) (ret := none) (by decide) rfl ?_
  intro p e s m args below meth c s₁ B hml hv
  obtain ⟨rfl, hsz, hP, hK, hD0, hN, hE, hO, hT, hG⟩ := hv
  have hx := B.exec
  have hb := B.bytes
  have hr := B.returns
  have hts := atoms_spec (ws := wz_c_M_keep_2_3) B.pre
  have hown : s.vm.findClass RX12 = some m.cls := findClass_of_methodNamed B.named
  have hlocks := B.notSynchronized
  subst hsz
  have hD := hD0.self (sz := s.heap.size)
  generalize hAe : va_A [(h0, .inr (16, [w1, w2, w3, w4, w5, w6, w7, w8, w9, w10, w11, w12, w13, w14, w15, w16, .ref dg, w17, w18, w19, w20, w21, w22, w23, w24, w25, w26, w27, w28, w29, w30, w31, w32, w33, w34, w35, w36, w37, w38, w39, w40, w41, w42, w43, w44, w45, w46, w47, w48, w49, w50, w51, w52, w53, w54, w55, w56, w57, w58, w59, w60, w61, w62, w63])), (dg, .inl (y 1, 32, .inl (zf tO2 12 f)))] s.heap.size = A at hD hE hT hG ⊢
  have hA : ∀ q : Nat, s.heap.size ≤ q → A q := fun q h => by rw [← hAe]; exact Or.inr h
  have hS : va_S A s.heap s.heap [] := va_S.rf
  have hl := lv_entry ([.ref h0, .int 3, .int (-1720731356)]) (n := 4) (Nat.le_of_ble_eq_true rfl)
  rw [lg_entry_eq]
  generalize (lg_sl ([.ref h0, .int 3, .int (-1720731356)]) ++ List.replicate (4 - (lg_sl ([.ref h0, .int 3, .int (-1720731356)])).length) Slot.unset).toArray = ls at hl ⊢
  have hl : lv_has ls 4 [(0, .ref h0), (1, .int 3), (2, .int (-1720731356))] := hl
  refine lv_iconst (v := 0) hx hb dX12_keep_0 (by decide) ?_
  refine lv_istore_n (lv' := [(3, .int 0), (0, .ref h0), (1, .int 3), (2, .int (-1720731356))]) hx hb dX12_keep_1 rfl hl (by decide) rfl (fun ls hl => ?_)
  refine lv_iload_n hx hb dX12_keep_2 rfl (lv_at hl 0 rfl) ?_
  refine lv_iconst (v := 4) hx hb dX12_keep_3 (by decide) ?_
  refine lv_icmp_ge (tgt := 36) hx hb dX12_keep_4 (by decide) (fun c9 => absurd c9 (by decide)) (fun _ => ?_)
  refine lv_aload_n hx hb dX12_keep_7 rfl (lv_at hl 1 rfl) ?_
  refine va_get (D := D) (ci := 16) (v := .ref dg) (C := RX12) (T := TX12) (N := 64) hx hb hts (by decide +kernel) hown hK hP 0 rfl rfl 16 (by decide) (hts (.fieldLink RX12 43 "SignetRingModel" "digest" "[I") (by decide +kernel)) (fun _ h9 => h9) rfl dX12_keep_8 ?_
  refine lv_iconst (v := 4) hx hb dX12_keep_11 (by decide) ?_
  refine lv_iload_n hx hb dX12_keep_12 rfl (lv_at hl 2 rfl) ?_
  refine lv_imul hx hb dX12_keep_13 ?_
  refine lv_topi (fun v1 ev1 => ?_)
  have ev1 : v1 = 12 := ev1.trans (by decide +kernel)
  subst ev1
  refine lv_iload_n hx hb dX12_keep_14 rfl (lv_at hl 0 rfl) ?_
  refine lv_iadd hx hb dX12_keep_15 ?_
  refine lv_topi (fun v2 ev2 => ?_)
  have ev2 : v2 = 12 := ev2.trans (by decide +kernel)
  subst ev2
  refine lv_iload_n hx hb dX12_keep_16 rfl (lv_at hl 3 rfl) ?_
  refine lv_bipush (v := 24) hx hb dX12_keep_17 (by decide) ?_
  refine lv_bipush (v := 8) hx hb dX12_keep_19 (by decide) ?_
  refine lv_iload_n hx hb dX12_keep_21 rfl (lv_at hl 0 rfl) ?_
  refine lv_imul hx hb dX12_keep_22 ?_
  refine lv_topi (fun v3 ev3 => ?_)
  have ev3 : v3 = 0 := ev3.trans (by decide +kernel)
  subst ev3
  refine lv_isub hx hb dX12_keep_23 ?_
  refine lv_topi (fun v4 ev4 => ?_)
  have ev4 : v4 = 24 := ev4.trans (by decide +kernel)
  subst ev4
  refine lv_iushr (v := zu (-1720731356 : Int32) (24 : Int32)) hx hb dX12_keep_24 rfl ?_
  refine lv_topi (fun v5 ev5 => ?_)
  have ev5 : v5 = 153 := ev5.trans (by decide +kernel)
  subst ev5
  refine lv_sipush (v := 255) hx hb dX12_keep_25 (by decide) ?_
  refine lv_iand hx hb dX12_keep_28 ?_
  refine lv_topi (fun v6 ev6 => ?_)
  have ev6 : v6 = 153 := ev6.trans (by decide +kernel)
  subst ev6
  refine va_iast hx hb hK hP hD hS 1 1 rfl rfl (by unfold vp_in; decide) dX12_keep_29 (fun H locs hP hD hS => ?_)
  have hP : va_P D vwCl [(h0, .inr (16, [w1, w2, w3, w4, w5, w6, w7, w8, w9, w10, w11, w12, w13, w14, w15, w16, .ref dg, w17, w18, w19, w20, w21, w22, w23, w24, w25, w26, w27, w28, w29, w30, w31, w32, w33, w34, w35, w36, w37, w38, w39, w40, w41, w42, w43, w44, w45, w46, w47, w48, w49, w50, w51, w52, w53, w54, w55, w56, w57, w58, w59, w60, w61, w62, w63])), (dg, .inl (y 1, 32, .inl (upd (zf tO2 12 f) (nI 12).toNatClampNeg (153 : Int32))))] H := hP
  have hD : va_D A [(h0, .inr (16, [w1, w2, w3, w4, w5, w6, w7, w8, w9, w10, w11, w12, w13, w14, w15, w16, .ref dg, w17, w18, w19, w20, w21, w22, w23, w24, w25, w26, w27, w28, w29, w30, w31, w32, w33, w34, w35, w36, w37, w38, w39, w40, w41, w42, w43, w44, w45, w46, w47, w48, w49, w50, w51, w52, w53, w54, w55, w56, w57, w58, w59, w60, w61, w62, w63])), (dg, .inl (y 1, 32, .inl (upd (zf tO2 12 f) (nI 12).toNatClampNeg (153 : Int32))))] := hD
  have u7 : upd (zf tO2 12 f) (nI 12).toNatClampNeg (153 : Int32) = zf tO2 13 f := (zf_st (n := 12) (by decide) (by decide +kernel))
  rw [u7] at hP hD
  have hP : va_P D vwCl [(h0, .inr (16, [w1, w2, w3, w4, w5, w6, w7, w8, w9, w10, w11, w12, w13, w14, w15, w16, .ref dg, w17, w18, w19, w20, w21, w22, w23, w24, w25, w26, w27, w28, w29, w30, w31, w32, w33, w34, w35, w36, w37, w38, w39, w40, w41, w42, w43, w44, w45, w46, w47, w48, w49, w50, w51, w52, w53, w54, w55, w56, w57, w58, w59, w60, w61, w62, w63])), (dg, .inl (y 1, 32, .inl (zf tO2 13 f)))] H := hP
  have hD : va_D A [(h0, .inr (16, [w1, w2, w3, w4, w5, w6, w7, w8, w9, w10, w11, w12, w13, w14, w15, w16, .ref dg, w17, w18, w19, w20, w21, w22, w23, w24, w25, w26, w27, w28, w29, w30, w31, w32, w33, w34, w35, w36, w37, w38, w39, w40, w41, w42, w43, w44, w45, w46, w47, w48, w49, w50, w51, w52, w53, w54, w55, w56, w57, w58, w59, w60, w61, w62, w63])), (dg, .inl (y 1, 32, .inl (zf tO2 13 f)))] := hD
  refine lv_iinc (v := 1) (lv' := [(3, .int 1), (0, .ref h0), (1, .int 3), (2, .int (-1720731356))]) hx hb dX12_keep_30 hl (k := 0) rfl (by decide) (by decide) rfl (fun ls hl => ?_)
  refine lv_goto (tgt := 2) hx hb dX12_keep_33 (by decide) ?_
  refine lv_iload_n hx hb dX12_keep_2 rfl (lv_at hl 0 rfl) ?_
  refine lv_iconst (v := 4) hx hb dX12_keep_3 (by decide) ?_
  refine lv_icmp_ge (tgt := 36) hx hb dX12_keep_4 (by decide) (fun c9 => absurd c9 (by decide)) (fun _ => ?_)
  refine lv_aload_n hx hb dX12_keep_7 rfl (lv_at hl 1 rfl) ?_
  refine va_get (D := D) (ci := 16) (v := .ref dg) (C := RX12) (T := TX12) (N := 64) hx hb hts (by decide +kernel) hown hK hP 0 rfl rfl 16 (by decide) (hts (.fieldLink RX12 43 "SignetRingModel" "digest" "[I") (by decide +kernel)) (fun _ h9 => h9) rfl dX12_keep_8 ?_
  refine lv_iconst (v := 4) hx hb dX12_keep_11 (by decide) ?_
  refine lv_iload_n hx hb dX12_keep_12 rfl (lv_at hl 2 rfl) ?_
  refine lv_imul hx hb dX12_keep_13 ?_
  refine lv_topi (fun v8 ev8 => ?_)
  have ev8 : v8 = 12 := ev8.trans (by decide +kernel)
  subst ev8
  refine lv_iload_n hx hb dX12_keep_14 rfl (lv_at hl 0 rfl) ?_
  refine lv_iadd hx hb dX12_keep_15 ?_
  refine lv_topi (fun v9 ev9 => ?_)
  have ev9 : v9 = 13 := ev9.trans (by decide +kernel)
  subst ev9
  refine lv_iload_n hx hb dX12_keep_16 rfl (lv_at hl 3 rfl) ?_
  refine lv_bipush (v := 24) hx hb dX12_keep_17 (by decide) ?_
  refine lv_bipush (v := 8) hx hb dX12_keep_19 (by decide) ?_
  refine lv_iload_n hx hb dX12_keep_21 rfl (lv_at hl 0 rfl) ?_
  refine lv_imul hx hb dX12_keep_22 ?_
  refine lv_topi (fun v10 ev10 => ?_)
  have ev10 : v10 = 8 := ev10.trans (by decide +kernel)
  subst ev10
  refine lv_isub hx hb dX12_keep_23 ?_
  refine lv_topi (fun v11 ev11 => ?_)
  have ev11 : v11 = 16 := ev11.trans (by decide +kernel)
  subst ev11
  refine lv_iushr (v := zu (-1720731356 : Int32) (16 : Int32)) hx hb dX12_keep_24 rfl ?_
  refine lv_topi (fun v12 ev12 => ?_)
  have ev12 : v12 = 39279 := ev12.trans (by decide +kernel)
  subst ev12
  refine lv_sipush (v := 255) hx hb dX12_keep_25 (by decide) ?_
  refine lv_iand hx hb dX12_keep_28 ?_
  refine lv_topi (fun v13 ev13 => ?_)
  have ev13 : v13 = 111 := ev13.trans (by decide +kernel)
  subst ev13
  refine va_iast hx hb hK hP hD hS 1 1 rfl rfl (by unfold vp_in; decide) dX12_keep_29 (fun H locs hP hD hS => ?_)
  have hP : va_P D vwCl [(h0, .inr (16, [w1, w2, w3, w4, w5, w6, w7, w8, w9, w10, w11, w12, w13, w14, w15, w16, .ref dg, w17, w18, w19, w20, w21, w22, w23, w24, w25, w26, w27, w28, w29, w30, w31, w32, w33, w34, w35, w36, w37, w38, w39, w40, w41, w42, w43, w44, w45, w46, w47, w48, w49, w50, w51, w52, w53, w54, w55, w56, w57, w58, w59, w60, w61, w62, w63])), (dg, .inl (y 1, 32, .inl (upd (zf tO2 13 f) (nI 13).toNatClampNeg (111 : Int32))))] H := hP
  have hD : va_D A [(h0, .inr (16, [w1, w2, w3, w4, w5, w6, w7, w8, w9, w10, w11, w12, w13, w14, w15, w16, .ref dg, w17, w18, w19, w20, w21, w22, w23, w24, w25, w26, w27, w28, w29, w30, w31, w32, w33, w34, w35, w36, w37, w38, w39, w40, w41, w42, w43, w44, w45, w46, w47, w48, w49, w50, w51, w52, w53, w54, w55, w56, w57, w58, w59, w60, w61, w62, w63])), (dg, .inl (y 1, 32, .inl (upd (zf tO2 13 f) (nI 13).toNatClampNeg (111 : Int32))))] := hD
  have u14 : upd (zf tO2 13 f) (nI 13).toNatClampNeg (111 : Int32) = zf tO2 14 f := (zf_st (n := 13) (by decide) (by decide +kernel))
  rw [u14] at hP hD
  have hP : va_P D vwCl [(h0, .inr (16, [w1, w2, w3, w4, w5, w6, w7, w8, w9, w10, w11, w12, w13, w14, w15, w16, .ref dg, w17, w18, w19, w20, w21, w22, w23, w24, w25, w26, w27, w28, w29, w30, w31, w32, w33, w34, w35, w36, w37, w38, w39, w40, w41, w42, w43, w44, w45, w46, w47, w48, w49, w50, w51, w52, w53, w54, w55, w56, w57, w58, w59, w60, w61, w62, w63])), (dg, .inl (y 1, 32, .inl (zf tO2 14 f)))] H := hP
  have hD : va_D A [(h0, .inr (16, [w1, w2, w3, w4, w5, w6, w7, w8, w9, w10, w11, w12, w13, w14, w15, w16, .ref dg, w17, w18, w19, w20, w21, w22, w23, w24, w25, w26, w27, w28, w29, w30, w31, w32, w33, w34, w35, w36, w37, w38, w39, w40, w41, w42, w43, w44, w45, w46, w47, w48, w49, w50, w51, w52, w53, w54, w55, w56, w57, w58, w59, w60, w61, w62, w63])), (dg, .inl (y 1, 32, .inl (zf tO2 14 f)))] := hD
  refine lv_iinc (v := 2) (lv' := [(3, .int 2), (0, .ref h0), (1, .int 3), (2, .int (-1720731356))]) hx hb dX12_keep_30 hl (k := 0) rfl (by decide) (by decide) rfl (fun ls hl => ?_)
  refine lv_goto (tgt := 2) hx hb dX12_keep_33 (by decide) ?_
  refine lv_iload_n hx hb dX12_keep_2 rfl (lv_at hl 0 rfl) ?_
  refine lv_iconst (v := 4) hx hb dX12_keep_3 (by decide) ?_
  refine lv_icmp_ge (tgt := 36) hx hb dX12_keep_4 (by decide) (fun c9 => absurd c9 (by decide)) (fun _ => ?_)
  refine lv_aload_n hx hb dX12_keep_7 rfl (lv_at hl 1 rfl) ?_
  refine va_get (D := D) (ci := 16) (v := .ref dg) (C := RX12) (T := TX12) (N := 64) hx hb hts (by decide +kernel) hown hK hP 0 rfl rfl 16 (by decide) (hts (.fieldLink RX12 43 "SignetRingModel" "digest" "[I") (by decide +kernel)) (fun _ h9 => h9) rfl dX12_keep_8 ?_
  refine lv_iconst (v := 4) hx hb dX12_keep_11 (by decide) ?_
  refine lv_iload_n hx hb dX12_keep_12 rfl (lv_at hl 2 rfl) ?_
  refine lv_imul hx hb dX12_keep_13 ?_
  refine lv_topi (fun v15 ev15 => ?_)
  have ev15 : v15 = 12 := ev15.trans (by decide +kernel)
  subst ev15
  refine lv_iload_n hx hb dX12_keep_14 rfl (lv_at hl 0 rfl) ?_
  refine lv_iadd hx hb dX12_keep_15 ?_
  refine lv_topi (fun v16 ev16 => ?_)
  have ev16 : v16 = 14 := ev16.trans (by decide +kernel)
  subst ev16
  refine lv_iload_n hx hb dX12_keep_16 rfl (lv_at hl 3 rfl) ?_
  refine lv_bipush (v := 24) hx hb dX12_keep_17 (by decide) ?_
  refine lv_bipush (v := 8) hx hb dX12_keep_19 (by decide) ?_
  refine lv_iload_n hx hb dX12_keep_21 rfl (lv_at hl 0 rfl) ?_
  refine lv_imul hx hb dX12_keep_22 ?_
  refine lv_topi (fun v17 ev17 => ?_)
  have ev17 : v17 = 16 := ev17.trans (by decide +kernel)
  subst ev17
  refine lv_isub hx hb dX12_keep_23 ?_
  refine lv_topi (fun v18 ev18 => ?_)
  have ev18 : v18 = 8 := ev18.trans (by decide +kernel)
  subst ev18
  refine lv_iushr (v := zu (-1720731356 : Int32) (8 : Int32)) hx hb dX12_keep_24 rfl ?_
  refine lv_topi (fun v19 ev19 => ?_)
  have ev19 : v19 = 10055609 := ev19.trans (by decide +kernel)
  subst ev19
  refine lv_sipush (v := 255) hx hb dX12_keep_25 (by decide) ?_
  refine lv_iand hx hb dX12_keep_28 ?_
  refine lv_topi (fun v20 ev20 => ?_)
  have ev20 : v20 = 185 := ev20.trans (by decide +kernel)
  subst ev20
  refine va_iast hx hb hK hP hD hS 1 1 rfl rfl (by unfold vp_in; decide) dX12_keep_29 (fun H locs hP hD hS => ?_)
  have hP : va_P D vwCl [(h0, .inr (16, [w1, w2, w3, w4, w5, w6, w7, w8, w9, w10, w11, w12, w13, w14, w15, w16, .ref dg, w17, w18, w19, w20, w21, w22, w23, w24, w25, w26, w27, w28, w29, w30, w31, w32, w33, w34, w35, w36, w37, w38, w39, w40, w41, w42, w43, w44, w45, w46, w47, w48, w49, w50, w51, w52, w53, w54, w55, w56, w57, w58, w59, w60, w61, w62, w63])), (dg, .inl (y 1, 32, .inl (upd (zf tO2 14 f) (nI 14).toNatClampNeg (185 : Int32))))] H := hP
  have hD : va_D A [(h0, .inr (16, [w1, w2, w3, w4, w5, w6, w7, w8, w9, w10, w11, w12, w13, w14, w15, w16, .ref dg, w17, w18, w19, w20, w21, w22, w23, w24, w25, w26, w27, w28, w29, w30, w31, w32, w33, w34, w35, w36, w37, w38, w39, w40, w41, w42, w43, w44, w45, w46, w47, w48, w49, w50, w51, w52, w53, w54, w55, w56, w57, w58, w59, w60, w61, w62, w63])), (dg, .inl (y 1, 32, .inl (upd (zf tO2 14 f) (nI 14).toNatClampNeg (185 : Int32))))] := hD
  have u21 : upd (zf tO2 14 f) (nI 14).toNatClampNeg (185 : Int32) = zf tO2 15 f := (zf_st (n := 14) (by decide) (by decide +kernel))
  rw [u21] at hP hD
  have hP : va_P D vwCl [(h0, .inr (16, [w1, w2, w3, w4, w5, w6, w7, w8, w9, w10, w11, w12, w13, w14, w15, w16, .ref dg, w17, w18, w19, w20, w21, w22, w23, w24, w25, w26, w27, w28, w29, w30, w31, w32, w33, w34, w35, w36, w37, w38, w39, w40, w41, w42, w43, w44, w45, w46, w47, w48, w49, w50, w51, w52, w53, w54, w55, w56, w57, w58, w59, w60, w61, w62, w63])), (dg, .inl (y 1, 32, .inl (zf tO2 15 f)))] H := hP
  have hD : va_D A [(h0, .inr (16, [w1, w2, w3, w4, w5, w6, w7, w8, w9, w10, w11, w12, w13, w14, w15, w16, .ref dg, w17, w18, w19, w20, w21, w22, w23, w24, w25, w26, w27, w28, w29, w30, w31, w32, w33, w34, w35, w36, w37, w38, w39, w40, w41, w42, w43, w44, w45, w46, w47, w48, w49, w50, w51, w52, w53, w54, w55, w56, w57, w58, w59, w60, w61, w62, w63])), (dg, .inl (y 1, 32, .inl (zf tO2 15 f)))] := hD
  refine lv_iinc (v := 3) (lv' := [(3, .int 3), (0, .ref h0), (1, .int 3), (2, .int (-1720731356))]) hx hb dX12_keep_30 hl (k := 0) rfl (by decide) (by decide) rfl (fun ls hl => ?_)
  refine lv_goto (tgt := 2) hx hb dX12_keep_33 (by decide) ?_
  refine lv_iload_n hx hb dX12_keep_2 rfl (lv_at hl 0 rfl) ?_
  refine lv_iconst (v := 4) hx hb dX12_keep_3 (by decide) ?_
  refine lv_icmp_ge (tgt := 36) hx hb dX12_keep_4 (by decide) (fun c9 => absurd c9 (by decide)) (fun _ => ?_)
  refine lv_aload_n hx hb dX12_keep_7 rfl (lv_at hl 1 rfl) ?_
  refine va_get (D := D) (ci := 16) (v := .ref dg) (C := RX12) (T := TX12) (N := 64) hx hb hts (by decide +kernel) hown hK hP 0 rfl rfl 16 (by decide) (hts (.fieldLink RX12 43 "SignetRingModel" "digest" "[I") (by decide +kernel)) (fun _ h9 => h9) rfl dX12_keep_8 ?_
  refine lv_iconst (v := 4) hx hb dX12_keep_11 (by decide) ?_
  refine lv_iload_n hx hb dX12_keep_12 rfl (lv_at hl 2 rfl) ?_
  refine lv_imul hx hb dX12_keep_13 ?_
  refine lv_topi (fun v22 ev22 => ?_)
  have ev22 : v22 = 12 := ev22.trans (by decide +kernel)
  subst ev22
  refine lv_iload_n hx hb dX12_keep_14 rfl (lv_at hl 0 rfl) ?_
  refine lv_iadd hx hb dX12_keep_15 ?_
  refine lv_topi (fun v23 ev23 => ?_)
  have ev23 : v23 = 15 := ev23.trans (by decide +kernel)
  subst ev23
  refine lv_iload_n hx hb dX12_keep_16 rfl (lv_at hl 3 rfl) ?_
  refine lv_bipush (v := 24) hx hb dX12_keep_17 (by decide) ?_
  refine lv_bipush (v := 8) hx hb dX12_keep_19 (by decide) ?_
  refine lv_iload_n hx hb dX12_keep_21 rfl (lv_at hl 0 rfl) ?_
  refine lv_imul hx hb dX12_keep_22 ?_
  refine lv_topi (fun v24 ev24 => ?_)
  have ev24 : v24 = 24 := ev24.trans (by decide +kernel)
  subst ev24
  refine lv_isub hx hb dX12_keep_23 ?_
  refine lv_topi (fun v25 ev25 => ?_)
  have ev25 : v25 = 0 := ev25.trans (by decide +kernel)
  subst ev25
  refine lv_iushr (v := zu (-1720731356 : Int32) (0 : Int32)) hx hb dX12_keep_24 rfl ?_
  refine lv_topi (fun v26 ev26 => ?_)
  have ev26 : v26 = -1720731356 := ev26.trans (by decide +kernel)
  subst ev26
  refine lv_sipush (v := 255) hx hb dX12_keep_25 (by decide) ?_
  refine lv_iand hx hb dX12_keep_28 ?_
  refine lv_topi (fun v27 ev27 => ?_)
  have ev27 : v27 = 36 := ev27.trans (by decide +kernel)
  subst ev27
  refine va_iast hx hb hK hP hD hS 1 1 rfl rfl (by unfold vp_in; decide) dX12_keep_29 (fun H locs hP hD hS => ?_)
  have hP : va_P D vwCl [(h0, .inr (16, [w1, w2, w3, w4, w5, w6, w7, w8, w9, w10, w11, w12, w13, w14, w15, w16, .ref dg, w17, w18, w19, w20, w21, w22, w23, w24, w25, w26, w27, w28, w29, w30, w31, w32, w33, w34, w35, w36, w37, w38, w39, w40, w41, w42, w43, w44, w45, w46, w47, w48, w49, w50, w51, w52, w53, w54, w55, w56, w57, w58, w59, w60, w61, w62, w63])), (dg, .inl (y 1, 32, .inl (upd (zf tO2 15 f) (nI 15).toNatClampNeg (36 : Int32))))] H := hP
  have hD : va_D A [(h0, .inr (16, [w1, w2, w3, w4, w5, w6, w7, w8, w9, w10, w11, w12, w13, w14, w15, w16, .ref dg, w17, w18, w19, w20, w21, w22, w23, w24, w25, w26, w27, w28, w29, w30, w31, w32, w33, w34, w35, w36, w37, w38, w39, w40, w41, w42, w43, w44, w45, w46, w47, w48, w49, w50, w51, w52, w53, w54, w55, w56, w57, w58, w59, w60, w61, w62, w63])), (dg, .inl (y 1, 32, .inl (upd (zf tO2 15 f) (nI 15).toNatClampNeg (36 : Int32))))] := hD
  have u28 : upd (zf tO2 15 f) (nI 15).toNatClampNeg (36 : Int32) = zf tO2 16 f := (zf_st (n := 15) (by decide) (by decide +kernel))
  rw [u28] at hP hD
  have hP : va_P D vwCl [(h0, .inr (16, [w1, w2, w3, w4, w5, w6, w7, w8, w9, w10, w11, w12, w13, w14, w15, w16, .ref dg, w17, w18, w19, w20, w21, w22, w23, w24, w25, w26, w27, w28, w29, w30, w31, w32, w33, w34, w35, w36, w37, w38, w39, w40, w41, w42, w43, w44, w45, w46, w47, w48, w49, w50, w51, w52, w53, w54, w55, w56, w57, w58, w59, w60, w61, w62, w63])), (dg, .inl (y 1, 32, .inl (zf tO2 16 f)))] H := hP
  have hD : va_D A [(h0, .inr (16, [w1, w2, w3, w4, w5, w6, w7, w8, w9, w10, w11, w12, w13, w14, w15, w16, .ref dg, w17, w18, w19, w20, w21, w22, w23, w24, w25, w26, w27, w28, w29, w30, w31, w32, w33, w34, w35, w36, w37, w38, w39, w40, w41, w42, w43, w44, w45, w46, w47, w48, w49, w50, w51, w52, w53, w54, w55, w56, w57, w58, w59, w60, w61, w62, w63])), (dg, .inl (y 1, 32, .inl (zf tO2 16 f)))] := hD
  refine lv_iinc (v := 4) (lv' := [(3, .int 4), (0, .ref h0), (1, .int 3), (2, .int (-1720731356))]) hx hb dX12_keep_30 hl (k := 0) rfl (by decide) (by decide) rfl (fun ls hl => ?_)
  refine lv_goto (tgt := 2) hx hb dX12_keep_33 (by decide) ?_
  refine lv_iload_n hx hb dX12_keep_2 rfl (lv_at hl 0 rfl) ?_
  refine lv_iconst (v := 4) hx hb dX12_keep_3 (by decide) ?_
  refine lv_icmp_ge (tgt := 36) hx hb dX12_keep_4 (by decide) (fun _ => ?_) (fun c9 => absurd (by decide) c9)
  have hP9 := hP.sub (ws' := [(h0, .inr (16, [w1, w2, w3, w4, w5, w6, w7, w8, w9, w10, w11, w12, w13, w14, w15, w16, .ref dg, w17, w18, w19, w20, w21, w22, w23, w24, w25, w26, w27, w28, w29, w30, w31, w32, w33, w34, w35, w36, w37, w38, w39, w40, w41, w42, w43, w44, w45, w46, w47, w48, w49, w50, w51, w52, w53, w54, w55, w56, w57, w58, w59, w60, w61, w62, w63])), (dg, .inl (y 1, 32, .inl (zf tO2 16 f)))]) [0, 1] rfl
  have hD9 := hD.sub (ws' := [(h0, .inr (16, [w1, w2, w3, w4, w5, w6, w7, w8, w9, w10, w11, w12, w13, w14, w15, w16, .ref dg, w17, w18, w19, w20, w21, w22, w23, w24, w25, w26, w27, w28, w29, w30, w31, w32, w33, w34, w35, w36, w37, w38, w39, w40, w41, w42, w43, w44, w45, w46, w47, w48, w49, w50, w51, w52, w53, w54, w55, w56, w57, w58, w59, w60, w61, w62, w63])), (dg, .inl (y 1, 32, .inl (zf tO2 16 f)))]) [0, 1] (by decide) rfl
  refine W.widen (k := 0) (n := 0) (Nat.le_of_ble_eq_true rfl) (Nat.le_of_ble_eq_true rfl) ?_
  exact W.vret hx hb hr (fun t ht hW => ⟨⟨(), rfl, trivial, by rw [ht]; exact hP9, hD9⟩, hS.F ht⟩) hS.2.2 dX12_keep_36
def wz_c_M_keep_2_4 : List Cond := .code yX12_keep cX12_keep 4 none :: ([.fieldLink RX12 43 "SignetRingModel" "digest" "[I"] ++ (wsX120 ++ ([])))
set_option maxHeartbeats 4000000 in
set_option maxRecDepth 100000 in
theorem c_M_keep_2_4 (l : Launch) (D : va_G) (y : Nat → ClassId) (sz : Nat) (h0 : Nat) (dg : Nat) (w1 : Value) (w2 : Value) (w3 : Value) (w4 : Value) (w5 : Value) (w6 : Value) (w7 : Value) (w8 : Value) (w9 : Value) (w10 : Value) (w11 : Value) (w12 : Value) (w13 : Value) (w14 : Value) (w15 : Value) (w16 : Value) (w17 : Value) (w18 : Value) (w19 : Value) (w20 : Value) (w21 : Value) (w22 : Value) (w23 : Value) (w24 : Value) (w25 : Value) (w26 : Value) (w27 : Value) (w28 : Value) (w29 : Value) (w30 : Value) (w31 : Value) (w32 : Value) (w33 : Value) (w34 : Value) (w35 : Value) (w36 : Value) (w37 : Value) (w38 : Value) (w39 : Value) (w40 : Value) (w41 : Value) (w42 : Value) (w43 : Value) (w44 : Value) (w45 : Value) (w46 : Value) (w47 : Value) (w48 : Value) (w49 : Value) (w50 : Value) (w51 : Value) (w52 : Value) (w53 : Value) (w54 : Value) (w55 : Value) (w56 : Value) (w57 : Value) (w58 : Value) (w59 : Value) (w60 : Value) (w61 : Value) (w62 : Value) (w63 : Value) (f : Nat → Int32) : Met l yX12_keep wz_c_M_keep_2_4 ({ frames := 0, cells := 0, slots := 0, locals := 0 }) (va_Pc [.ref h0, .int 4, .int 665731556] (zB D y [(h0, .inr (16, [w1, w2, w3, w4, w5, w6, w7, w8, w9, w10, w11, w12, w13, w14, w15, w16, .ref dg, w17, w18, w19, w20, w21, w22, w23, w24, w25, w26, w27, w28, w29, w30, w31, w32, w33, w34, w35, w36, w37, w38, w39, w40, w41, w42, w43, w44, w45, w46, w47, w48, w49, w50, w51, w52, w53, w54, w55, w56, w57, w58, w59, w60, w61, w62, w63])), (dg, .inl (y 1, 32, .inl (zf tO2 16 f)))] sz [] [] [] [])) (va_Qv (fun _ : Unit => True) (fun _ t => va_P D vwCl [(h0, .inr (16, [w1, w2, w3, w4, w5, w6, w7, w8, w9, w10, w11, w12, w13, w14, w15, w16, .ref dg, w17, w18, w19, w20, w21, w22, w23, w24, w25, w26, w27, w28, w29, w30, w31, w32, w33, w34, w35, w36, w37, w38, w39, w40, w41, w42, w43, w44, w45, w46, w47, w48, w49, w50, w51, w52, w53, w54, w55, w56, w57, w58, w59, w60, w61, w62, w63])), (dg, .inl (y 1, 32, .inl (zf tO2 20 f)))] t.heap ∧ va_D (va_A [(h0, .inr (16, [w1, w2, w3, w4, w5, w6, w7, w8, w9, w10, w11, w12, w13, w14, w15, w16, .ref dg, w17, w18, w19, w20, w21, w22, w23, w24, w25, w26, w27, w28, w29, w30, w31, w32, w33, w34, w35, w36, w37, w38, w39, w40, w41, w42, w43, w44, w45, w46, w47, w48, w49, w50, w51, w52, w53, w54, w55, w56, w57, w58, w59, w60, w61, w62, w63])), (dg, .inl (y 1, 32, .inl (zf tO2 16 f)))] sz) [(h0, .inr (16, [w1, w2, w3, w4, w5, w6, w7, w8, w9, w10, w11, w12, w13, w14, w15, w16, .ref dg, w17, w18, w19, w20, w21, w22, w23, w24, w25, w26, w27, w28, w29, w30, w31, w32, w33, w34, w35, w36, w37, w38, w39, w40, w41, w42, w43, w44, w45, w46, w47, w48, w49, w50, w51, w52, w53, w54, w55, w56, w57, w58, w59, w60, w61, w62, w63])), (dg, .inl (y 1, 32, .inl (zf tO2 20 f)))]) (va_A [(h0, .inr (16, [w1, w2, w3, w4, w5, w6, w7, w8, w9, w10, w11, w12, w13, w14, w15, w16, .ref dg, w17, w18, w19, w20, w21, w22, w23, w24, w25, w26, w27, w28, w29, w30, w31, w32, w33, w34, w35, w36, w37, w38, w39, w40, w41, w42, w43, w44, w45, w46, w47, w48, w49, w50, w51, w52, w53, w54, w55, w56, w57, w58, w59, w60, w61, w62, w63])), (dg, .inl (y 1, 32, .inl (zf tO2 16 f)))] sz)) 0 0 (va_A [(h0, .inr (16, [w1, w2, w3, w4, w5, w6, w7, w8, w9, w10, w11, w12, w13, w14, w15, w16, .ref dg, w17, w18, w19, w20, w21, w22, w23, w24, w25, w26, w27, w28, w29, w30, w31, w32, w33, w34, w35, w36, w37, w38, w39, w40, w41, w42, w43, w44, w45, w46, w47, w48, w49, w50, w51, w52, w53, w54, w55, w56, w57, w58, w59, w60, w61, w62, w63])), (dg, .inl (y 1, 32, .inl (zf tO2 16 f)))] sz) := by
  refine Met.ofW (cc := cX12_keep) (maxL := 4) (ret := none) (by decide) rfl ?_
  intro p e s m args below meth c s₁ B hml hv
  obtain ⟨rfl, hsz, hP, hK, hD0, hN, hE, hO, hT, hG⟩ := hv
  have hx := B.exec
  have hb := B.bytes
  have hr := B.returns
  have hts := atoms_spec (ws := wz_c_M_keep_2_4) B.pre
  have hown : s.vm.findClass RX12 = some m.cls := findClass_of_methodNamed B.named
  have hlocks := B.notSynchronized
  subst hsz
  have hD := hD0.self (sz := s.heap.size)
  generalize hAe : va_A [(h0, .inr (16, [w1, w2, w3, w4, w5, w6, w7, w8, w9, w10, w11, w12, w13, w14, w15, w16, .ref dg, w17, w18, w19, w20, w21, w22, w23, w24, w25, w26, w27, w28, w29, w30, w31, w32, w33, w34, w35, w36, w37, w38, w39, w40, w41, w42, w43, w44, w45, w46, w47, w48, w49, w50, w51, w52, w53, w54, w55, w56, w57, w58, w59, w60, w61, w62, w63])), (dg, .inl (y 1, 32, .inl (zf tO2 16 f)))] s.heap.size = A at hD hE hT hG ⊢
  have hA : ∀ q : Nat, s.heap.size ≤ q → A q := fun q h => by rw [← hAe]; exact Or.inr h
  have hS : va_S A s.heap s.heap [] := va_S.rf
  have hl := lv_entry ([.ref h0, .int 4, .int 665731556]) (n := 4) (Nat.le_of_ble_eq_true rfl)
  rw [lg_entry_eq]
  generalize (lg_sl ([.ref h0, .int 4, .int 665731556]) ++ List.replicate (4 - (lg_sl ([.ref h0, .int 4, .int 665731556])).length) Slot.unset).toArray = ls at hl ⊢
  have hl : lv_has ls 4 [(0, .ref h0), (1, .int 4), (2, .int 665731556)] := hl
  refine lv_iconst (v := 0) hx hb dX12_keep_0 (by decide) ?_
  refine lv_istore_n (lv' := [(3, .int 0), (0, .ref h0), (1, .int 4), (2, .int 665731556)]) hx hb dX12_keep_1 rfl hl (by decide) rfl (fun ls hl => ?_)
  refine lv_iload_n hx hb dX12_keep_2 rfl (lv_at hl 0 rfl) ?_
  refine lv_iconst (v := 4) hx hb dX12_keep_3 (by decide) ?_
  refine lv_icmp_ge (tgt := 36) hx hb dX12_keep_4 (by decide) (fun c9 => absurd c9 (by decide)) (fun _ => ?_)
  refine lv_aload_n hx hb dX12_keep_7 rfl (lv_at hl 1 rfl) ?_
  refine va_get (D := D) (ci := 16) (v := .ref dg) (C := RX12) (T := TX12) (N := 64) hx hb hts (by decide +kernel) hown hK hP 0 rfl rfl 16 (by decide) (hts (.fieldLink RX12 43 "SignetRingModel" "digest" "[I") (by decide +kernel)) (fun _ h9 => h9) rfl dX12_keep_8 ?_
  refine lv_iconst (v := 4) hx hb dX12_keep_11 (by decide) ?_
  refine lv_iload_n hx hb dX12_keep_12 rfl (lv_at hl 2 rfl) ?_
  refine lv_imul hx hb dX12_keep_13 ?_
  refine lv_topi (fun v1 ev1 => ?_)
  have ev1 : v1 = 16 := ev1.trans (by decide +kernel)
  subst ev1
  refine lv_iload_n hx hb dX12_keep_14 rfl (lv_at hl 0 rfl) ?_
  refine lv_iadd hx hb dX12_keep_15 ?_
  refine lv_topi (fun v2 ev2 => ?_)
  have ev2 : v2 = 16 := ev2.trans (by decide +kernel)
  subst ev2
  refine lv_iload_n hx hb dX12_keep_16 rfl (lv_at hl 3 rfl) ?_
  refine lv_bipush (v := 24) hx hb dX12_keep_17 (by decide) ?_
  refine lv_bipush (v := 8) hx hb dX12_keep_19 (by decide) ?_
  refine lv_iload_n hx hb dX12_keep_21 rfl (lv_at hl 0 rfl) ?_
  refine lv_imul hx hb dX12_keep_22 ?_
  refine lv_topi (fun v3 ev3 => ?_)
  have ev3 : v3 = 0 := ev3.trans (by decide +kernel)
  subst ev3
  refine lv_isub hx hb dX12_keep_23 ?_
  refine lv_topi (fun v4 ev4 => ?_)
  have ev4 : v4 = 24 := ev4.trans (by decide +kernel)
  subst ev4
  refine lv_iushr (v := zu (665731556 : Int32) (24 : Int32)) hx hb dX12_keep_24 rfl ?_
  refine lv_topi (fun v5 ev5 => ?_)
  have ev5 : v5 = 39 := ev5.trans (by decide +kernel)
  subst ev5
  refine lv_sipush (v := 255) hx hb dX12_keep_25 (by decide) ?_
  refine lv_iand hx hb dX12_keep_28 ?_
  refine lv_topi (fun v6 ev6 => ?_)
  have ev6 : v6 = 39 := ev6.trans (by decide +kernel)
  subst ev6
  refine va_iast hx hb hK hP hD hS 1 1 rfl rfl (by unfold vp_in; decide) dX12_keep_29 (fun H locs hP hD hS => ?_)
  have hP : va_P D vwCl [(h0, .inr (16, [w1, w2, w3, w4, w5, w6, w7, w8, w9, w10, w11, w12, w13, w14, w15, w16, .ref dg, w17, w18, w19, w20, w21, w22, w23, w24, w25, w26, w27, w28, w29, w30, w31, w32, w33, w34, w35, w36, w37, w38, w39, w40, w41, w42, w43, w44, w45, w46, w47, w48, w49, w50, w51, w52, w53, w54, w55, w56, w57, w58, w59, w60, w61, w62, w63])), (dg, .inl (y 1, 32, .inl (upd (zf tO2 16 f) (nI 16).toNatClampNeg (39 : Int32))))] H := hP
  have hD : va_D A [(h0, .inr (16, [w1, w2, w3, w4, w5, w6, w7, w8, w9, w10, w11, w12, w13, w14, w15, w16, .ref dg, w17, w18, w19, w20, w21, w22, w23, w24, w25, w26, w27, w28, w29, w30, w31, w32, w33, w34, w35, w36, w37, w38, w39, w40, w41, w42, w43, w44, w45, w46, w47, w48, w49, w50, w51, w52, w53, w54, w55, w56, w57, w58, w59, w60, w61, w62, w63])), (dg, .inl (y 1, 32, .inl (upd (zf tO2 16 f) (nI 16).toNatClampNeg (39 : Int32))))] := hD
  have u7 : upd (zf tO2 16 f) (nI 16).toNatClampNeg (39 : Int32) = zf tO2 17 f := (zf_st (n := 16) (by decide) (by decide +kernel))
  rw [u7] at hP hD
  have hP : va_P D vwCl [(h0, .inr (16, [w1, w2, w3, w4, w5, w6, w7, w8, w9, w10, w11, w12, w13, w14, w15, w16, .ref dg, w17, w18, w19, w20, w21, w22, w23, w24, w25, w26, w27, w28, w29, w30, w31, w32, w33, w34, w35, w36, w37, w38, w39, w40, w41, w42, w43, w44, w45, w46, w47, w48, w49, w50, w51, w52, w53, w54, w55, w56, w57, w58, w59, w60, w61, w62, w63])), (dg, .inl (y 1, 32, .inl (zf tO2 17 f)))] H := hP
  have hD : va_D A [(h0, .inr (16, [w1, w2, w3, w4, w5, w6, w7, w8, w9, w10, w11, w12, w13, w14, w15, w16, .ref dg, w17, w18, w19, w20, w21, w22, w23, w24, w25, w26, w27, w28, w29, w30, w31, w32, w33, w34, w35, w36, w37, w38, w39, w40, w41, w42, w43, w44, w45, w46, w47, w48, w49, w50, w51, w52, w53, w54, w55, w56, w57, w58, w59, w60, w61, w62, w63])), (dg, .inl (y 1, 32, .inl (zf tO2 17 f)))] := hD
  refine lv_iinc (v := 1) (lv' := [(3, .int 1), (0, .ref h0), (1, .int 4), (2, .int 665731556)]) hx hb dX12_keep_30 hl (k := 0) rfl (by decide) (by decide) rfl (fun ls hl => ?_)
  refine lv_goto (tgt := 2) hx hb dX12_keep_33 (by decide) ?_
  refine lv_iload_n hx hb dX12_keep_2 rfl (lv_at hl 0 rfl) ?_
  refine lv_iconst (v := 4) hx hb dX12_keep_3 (by decide) ?_
  refine lv_icmp_ge (tgt := 36) hx hb dX12_keep_4 (by decide) (fun c9 => absurd c9 (by decide)) (fun _ => ?_)
  refine lv_aload_n hx hb dX12_keep_7 rfl (lv_at hl 1 rfl) ?_
  refine va_get (D := D) (ci := 16) (v := .ref dg) (C := RX12) (T := TX12) (N := 64) hx hb hts (by decide +kernel) hown hK hP 0 rfl rfl 16 (by decide) (hts (.fieldLink RX12 43 "SignetRingModel" "digest" "[I") (by decide +kernel)) (fun _ h9 => h9) rfl dX12_keep_8 ?_
  refine lv_iconst (v := 4) hx hb dX12_keep_11 (by decide) ?_
  refine lv_iload_n hx hb dX12_keep_12 rfl (lv_at hl 2 rfl) ?_
  refine lv_imul hx hb dX12_keep_13 ?_
  refine lv_topi (fun v8 ev8 => ?_)
  have ev8 : v8 = 16 := ev8.trans (by decide +kernel)
  subst ev8
  refine lv_iload_n hx hb dX12_keep_14 rfl (lv_at hl 0 rfl) ?_
  refine lv_iadd hx hb dX12_keep_15 ?_
  refine lv_topi (fun v9 ev9 => ?_)
  have ev9 : v9 = 17 := ev9.trans (by decide +kernel)
  subst ev9
  refine lv_iload_n hx hb dX12_keep_16 rfl (lv_at hl 3 rfl) ?_
  refine lv_bipush (v := 24) hx hb dX12_keep_17 (by decide) ?_
  refine lv_bipush (v := 8) hx hb dX12_keep_19 (by decide) ?_
  refine lv_iload_n hx hb dX12_keep_21 rfl (lv_at hl 0 rfl) ?_
  refine lv_imul hx hb dX12_keep_22 ?_
  refine lv_topi (fun v10 ev10 => ?_)
  have ev10 : v10 = 8 := ev10.trans (by decide +kernel)
  subst ev10
  refine lv_isub hx hb dX12_keep_23 ?_
  refine lv_topi (fun v11 ev11 => ?_)
  have ev11 : v11 = 16 := ev11.trans (by decide +kernel)
  subst ev11
  refine lv_iushr (v := zu (665731556 : Int32) (16 : Int32)) hx hb dX12_keep_24 rfl ?_
  refine lv_topi (fun v12 ev12 => ?_)
  have ev12 : v12 = 10158 := ev12.trans (by decide +kernel)
  subst ev12
  refine lv_sipush (v := 255) hx hb dX12_keep_25 (by decide) ?_
  refine lv_iand hx hb dX12_keep_28 ?_
  refine lv_topi (fun v13 ev13 => ?_)
  have ev13 : v13 = 174 := ev13.trans (by decide +kernel)
  subst ev13
  refine va_iast hx hb hK hP hD hS 1 1 rfl rfl (by unfold vp_in; decide) dX12_keep_29 (fun H locs hP hD hS => ?_)
  have hP : va_P D vwCl [(h0, .inr (16, [w1, w2, w3, w4, w5, w6, w7, w8, w9, w10, w11, w12, w13, w14, w15, w16, .ref dg, w17, w18, w19, w20, w21, w22, w23, w24, w25, w26, w27, w28, w29, w30, w31, w32, w33, w34, w35, w36, w37, w38, w39, w40, w41, w42, w43, w44, w45, w46, w47, w48, w49, w50, w51, w52, w53, w54, w55, w56, w57, w58, w59, w60, w61, w62, w63])), (dg, .inl (y 1, 32, .inl (upd (zf tO2 17 f) (nI 17).toNatClampNeg (174 : Int32))))] H := hP
  have hD : va_D A [(h0, .inr (16, [w1, w2, w3, w4, w5, w6, w7, w8, w9, w10, w11, w12, w13, w14, w15, w16, .ref dg, w17, w18, w19, w20, w21, w22, w23, w24, w25, w26, w27, w28, w29, w30, w31, w32, w33, w34, w35, w36, w37, w38, w39, w40, w41, w42, w43, w44, w45, w46, w47, w48, w49, w50, w51, w52, w53, w54, w55, w56, w57, w58, w59, w60, w61, w62, w63])), (dg, .inl (y 1, 32, .inl (upd (zf tO2 17 f) (nI 17).toNatClampNeg (174 : Int32))))] := hD
  have u14 : upd (zf tO2 17 f) (nI 17).toNatClampNeg (174 : Int32) = zf tO2 18 f := (zf_st (n := 17) (by decide) (by decide +kernel))
  rw [u14] at hP hD
  have hP : va_P D vwCl [(h0, .inr (16, [w1, w2, w3, w4, w5, w6, w7, w8, w9, w10, w11, w12, w13, w14, w15, w16, .ref dg, w17, w18, w19, w20, w21, w22, w23, w24, w25, w26, w27, w28, w29, w30, w31, w32, w33, w34, w35, w36, w37, w38, w39, w40, w41, w42, w43, w44, w45, w46, w47, w48, w49, w50, w51, w52, w53, w54, w55, w56, w57, w58, w59, w60, w61, w62, w63])), (dg, .inl (y 1, 32, .inl (zf tO2 18 f)))] H := hP
  have hD : va_D A [(h0, .inr (16, [w1, w2, w3, w4, w5, w6, w7, w8, w9, w10, w11, w12, w13, w14, w15, w16, .ref dg, w17, w18, w19, w20, w21, w22, w23, w24, w25, w26, w27, w28, w29, w30, w31, w32, w33, w34, w35, w36, w37, w38, w39, w40, w41, w42, w43, w44, w45, w46, w47, w48, w49, w50, w51, w52, w53, w54, w55, w56, w57, w58, w59, w60, w61, w62, w63])), (dg, .inl (y 1, 32, .inl (zf tO2 18 f)))] := hD
  refine lv_iinc (v := 2) (lv' := [(3, .int 2), (0, .ref h0), (1, .int 4), (2, .int 665731556)]) hx hb dX12_keep_30 hl (k := 0) rfl (by decide) (by decide) rfl (fun ls hl => ?_)
  refine lv_goto (tgt := 2) hx hb dX12_keep_33 (by decide) ?_
  refine lv_iload_n hx hb dX12_keep_2 rfl (lv_at hl 0 rfl) ?_
  refine lv_iconst (v := 4) hx hb dX12_keep_3 (by decide) ?_
  refine lv_icmp_ge (tgt := 36) hx hb dX12_keep_4 (by decide) (fun c9 => absurd c9 (by decide)) (fun _ => ?_)
  refine lv_aload_n hx hb dX12_keep_7 rfl (lv_at hl 1 rfl) ?_
  refine va_get (D := D) (ci := 16) (v := .ref dg) (C := RX12) (T := TX12) (N := 64) hx hb hts (by decide +kernel) hown hK hP 0 rfl rfl 16 (by decide) (hts (.fieldLink RX12 43 "SignetRingModel" "digest" "[I") (by decide +kernel)) (fun _ h9 => h9) rfl dX12_keep_8 ?_
  refine lv_iconst (v := 4) hx hb dX12_keep_11 (by decide) ?_
  refine lv_iload_n hx hb dX12_keep_12 rfl (lv_at hl 2 rfl) ?_
  refine lv_imul hx hb dX12_keep_13 ?_
  refine lv_topi (fun v15 ev15 => ?_)
  have ev15 : v15 = 16 := ev15.trans (by decide +kernel)
  subst ev15
  refine lv_iload_n hx hb dX12_keep_14 rfl (lv_at hl 0 rfl) ?_
  refine lv_iadd hx hb dX12_keep_15 ?_
  refine lv_topi (fun v16 ev16 => ?_)
  have ev16 : v16 = 18 := ev16.trans (by decide +kernel)
  subst ev16
  refine lv_iload_n hx hb dX12_keep_16 rfl (lv_at hl 3 rfl) ?_
  refine lv_bipush (v := 24) hx hb dX12_keep_17 (by decide) ?_
  refine lv_bipush (v := 8) hx hb dX12_keep_19 (by decide) ?_
  refine lv_iload_n hx hb dX12_keep_21 rfl (lv_at hl 0 rfl) ?_
  refine lv_imul hx hb dX12_keep_22 ?_
  refine lv_topi (fun v17 ev17 => ?_)
  have ev17 : v17 = 16 := ev17.trans (by decide +kernel)
  subst ev17
  refine lv_isub hx hb dX12_keep_23 ?_
  refine lv_topi (fun v18 ev18 => ?_)
  have ev18 : v18 = 8 := ev18.trans (by decide +kernel)
  subst ev18
  refine lv_iushr (v := zu (665731556 : Int32) (8 : Int32)) hx hb dX12_keep_24 rfl ?_
  refine lv_topi (fun v19 ev19 => ?_)
  have ev19 : v19 = 2600513 := ev19.trans (by decide +kernel)
  subst ev19
  refine lv_sipush (v := 255) hx hb dX12_keep_25 (by decide) ?_
  refine lv_iand hx hb dX12_keep_28 ?_
  refine lv_topi (fun v20 ev20 => ?_)
  have ev20 : v20 = 65 := ev20.trans (by decide +kernel)
  subst ev20
  refine va_iast hx hb hK hP hD hS 1 1 rfl rfl (by unfold vp_in; decide) dX12_keep_29 (fun H locs hP hD hS => ?_)
  have hP : va_P D vwCl [(h0, .inr (16, [w1, w2, w3, w4, w5, w6, w7, w8, w9, w10, w11, w12, w13, w14, w15, w16, .ref dg, w17, w18, w19, w20, w21, w22, w23, w24, w25, w26, w27, w28, w29, w30, w31, w32, w33, w34, w35, w36, w37, w38, w39, w40, w41, w42, w43, w44, w45, w46, w47, w48, w49, w50, w51, w52, w53, w54, w55, w56, w57, w58, w59, w60, w61, w62, w63])), (dg, .inl (y 1, 32, .inl (upd (zf tO2 18 f) (nI 18).toNatClampNeg (65 : Int32))))] H := hP
  have hD : va_D A [(h0, .inr (16, [w1, w2, w3, w4, w5, w6, w7, w8, w9, w10, w11, w12, w13, w14, w15, w16, .ref dg, w17, w18, w19, w20, w21, w22, w23, w24, w25, w26, w27, w28, w29, w30, w31, w32, w33, w34, w35, w36, w37, w38, w39, w40, w41, w42, w43, w44, w45, w46, w47, w48, w49, w50, w51, w52, w53, w54, w55, w56, w57, w58, w59, w60, w61, w62, w63])), (dg, .inl (y 1, 32, .inl (upd (zf tO2 18 f) (nI 18).toNatClampNeg (65 : Int32))))] := hD
  have u21 : upd (zf tO2 18 f) (nI 18).toNatClampNeg (65 : Int32) = zf tO2 19 f := (zf_st (n := 18) (by decide) (by decide +kernel))
  rw [u21] at hP hD
  have hP : va_P D vwCl [(h0, .inr (16, [w1, w2, w3, w4, w5, w6, w7, w8, w9, w10, w11, w12, w13, w14, w15, w16, .ref dg, w17, w18, w19, w20, w21, w22, w23, w24, w25, w26, w27, w28, w29, w30, w31, w32, w33, w34, w35, w36, w37, w38, w39, w40, w41, w42, w43, w44, w45, w46, w47, w48, w49, w50, w51, w52, w53, w54, w55, w56, w57, w58, w59, w60, w61, w62, w63])), (dg, .inl (y 1, 32, .inl (zf tO2 19 f)))] H := hP
  have hD : va_D A [(h0, .inr (16, [w1, w2, w3, w4, w5, w6, w7, w8, w9, w10, w11, w12, w13, w14, w15, w16, .ref dg, w17, w18, w19, w20, w21, w22, w23, w24, w25, w26, w27, w28, w29, w30, w31, w32, w33, w34, w35, w36, w37, w38, w39, w40, w41, w42, w43, w44, w45, w46, w47, w48, w49, w50, w51, w52, w53, w54, w55, w56, w57, w58, w59, w60, w61, w62, w63])), (dg, .inl (y 1, 32, .inl (zf tO2 19 f)))] := hD
  refine lv_iinc (v := 3) (lv' := [(3, .int 3), (0, .ref h0), (1, .int 4), (2, .int 665731556)]) hx hb dX12_keep_30 hl (k := 0) rfl (by decide) (by decide) rfl (fun ls hl => ?_)
  refine lv_goto (tgt := 2) hx hb dX12_keep_33 (by decide) ?_
  refine lv_iload_n hx hb dX12_keep_2 rfl (lv_at hl 0 rfl) ?_
  refine lv_iconst (v := 4) hx hb dX12_keep_3 (by decide) ?_
  refine lv_icmp_ge (tgt := 36) hx hb dX12_keep_4 (by decide) (fun c9 => absurd c9 (by decide)) (fun _ => ?_)
  refine lv_aload_n hx hb dX12_keep_7 rfl (lv_at hl 1 rfl) ?_
  refine va_get (D := D) (ci := 16) (v := .ref dg) (C := RX12) (T := TX12) (N := 64) hx hb hts (by decide +kernel) hown hK hP 0 rfl rfl 16 (by decide) (hts (.fieldLink RX12 43 "SignetRingModel" "digest" "[I") (by decide +kernel)) (fun _ h9 => h9) rfl dX12_keep_8 ?_
  refine lv_iconst (v := 4) hx hb dX12_keep_11 (by decide) ?_
  refine lv_iload_n hx hb dX12_keep_12 rfl (lv_at hl 2 rfl) ?_
  refine lv_imul hx hb dX12_keep_13 ?_
  refine lv_topi (fun v22 ev22 => ?_)
  have ev22 : v22 = 16 := ev22.trans (by decide +kernel)
  subst ev22
  refine lv_iload_n hx hb dX12_keep_14 rfl (lv_at hl 0 rfl) ?_
  refine lv_iadd hx hb dX12_keep_15 ?_
  refine lv_topi (fun v23 ev23 => ?_)
  have ev23 : v23 = 19 := ev23.trans (by decide +kernel)
  subst ev23
  refine lv_iload_n hx hb dX12_keep_16 rfl (lv_at hl 3 rfl) ?_
  refine lv_bipush (v := 24) hx hb dX12_keep_17 (by decide) ?_
  refine lv_bipush (v := 8) hx hb dX12_keep_19 (by decide) ?_
  refine lv_iload_n hx hb dX12_keep_21 rfl (lv_at hl 0 rfl) ?_
  refine lv_imul hx hb dX12_keep_22 ?_
  refine lv_topi (fun v24 ev24 => ?_)
  have ev24 : v24 = 24 := ev24.trans (by decide +kernel)
  subst ev24
  refine lv_isub hx hb dX12_keep_23 ?_
  refine lv_topi (fun v25 ev25 => ?_)
  have ev25 : v25 = 0 := ev25.trans (by decide +kernel)
  subst ev25
  refine lv_iushr (v := zu (665731556 : Int32) (0 : Int32)) hx hb dX12_keep_24 rfl ?_
  refine lv_topi (fun v26 ev26 => ?_)
  have ev26 : v26 = 665731556 := ev26.trans (by decide +kernel)
  subst ev26
  refine lv_sipush (v := 255) hx hb dX12_keep_25 (by decide) ?_
  refine lv_iand hx hb dX12_keep_28 ?_
  refine lv_topi (fun v27 ev27 => ?_)
  have ev27 : v27 = 228 := ev27.trans (by decide +kernel)
  subst ev27
  refine va_iast hx hb hK hP hD hS 1 1 rfl rfl (by unfold vp_in; decide) dX12_keep_29 (fun H locs hP hD hS => ?_)
  have hP : va_P D vwCl [(h0, .inr (16, [w1, w2, w3, w4, w5, w6, w7, w8, w9, w10, w11, w12, w13, w14, w15, w16, .ref dg, w17, w18, w19, w20, w21, w22, w23, w24, w25, w26, w27, w28, w29, w30, w31, w32, w33, w34, w35, w36, w37, w38, w39, w40, w41, w42, w43, w44, w45, w46, w47, w48, w49, w50, w51, w52, w53, w54, w55, w56, w57, w58, w59, w60, w61, w62, w63])), (dg, .inl (y 1, 32, .inl (upd (zf tO2 19 f) (nI 19).toNatClampNeg (228 : Int32))))] H := hP
  have hD : va_D A [(h0, .inr (16, [w1, w2, w3, w4, w5, w6, w7, w8, w9, w10, w11, w12, w13, w14, w15, w16, .ref dg, w17, w18, w19, w20, w21, w22, w23, w24, w25, w26, w27, w28, w29, w30, w31, w32, w33, w34, w35, w36, w37, w38, w39, w40, w41, w42, w43, w44, w45, w46, w47, w48, w49, w50, w51, w52, w53, w54, w55, w56, w57, w58, w59, w60, w61, w62, w63])), (dg, .inl (y 1, 32, .inl (upd (zf tO2 19 f) (nI 19).toNatClampNeg (228 : Int32))))] := hD
  have u28 : upd (zf tO2 19 f) (nI 19).toNatClampNeg (228 : Int32) = zf tO2 20 f := (zf_st (n := 19) (by decide) (by decide +kernel))
  rw [u28] at hP hD
  have hP : va_P D vwCl [(h0, .inr (16, [w1, w2, w3, w4, w5, w6, w7, w8, w9, w10, w11, w12, w13, w14, w15, w16, .ref dg, w17, w18, w19, w20, w21, w22, w23, w24, w25, w26, w27, w28, w29, w30, w31, w32, w33, w34, w35, w36, w37, w38, w39, w40, w41, w42, w43, w44, w45, w46, w47, w48, w49, w50, w51, w52, w53, w54, w55, w56, w57, w58, w59, w60, w61, w62, w63])), (dg, .inl (y 1, 32, .inl (zf tO2 20 f)))] H := hP
  have hD : va_D A [(h0, .inr (16, [w1, w2, w3, w4, w5, w6, w7, w8, w9, w10, w11, w12, w13, w14, w15, w16, .ref dg, w17, w18, w19, w20, w21, w22, w23, w24, w25, w26, w27, w28, w29, w30, w31, w32, w33, w34, w35, w36, w37, w38, w39, w40, w41, w42, w43, w44, w45, w46, w47, w48, w49, w50, w51, w52, w53, w54, w55, w56, w57, w58, w59, w60, w61, w62, w63])), (dg, .inl (y 1, 32, .inl (zf tO2 20 f)))] := hD
  refine lv_iinc (v := 4) (lv' := [(3, .int 4), (0, .ref h0), (1, .int 4), (2, .int 665731556)]) hx hb dX12_keep_30 hl (k := 0) rfl (by decide) (by decide) rfl (fun ls hl => ?_)
  refine lv_goto (tgt := 2) hx hb dX12_keep_33 (by decide) ?_
  refine lv_iload_n hx hb dX12_keep_2 rfl (lv_at hl 0 rfl) ?_
  refine lv_iconst (v := 4) hx hb dX12_keep_3 (by decide) ?_
  refine lv_icmp_ge (tgt := 36) hx hb dX12_keep_4 (by decide) (fun _ => ?_) (fun c9 => absurd (by decide) c9)
  have hP9 := hP.sub (ws' := [(h0, .inr (16, [w1, w2, w3, w4, w5, w6, w7, w8, w9, w10, w11, w12, w13, w14, w15, w16, .ref dg, w17, w18, w19, w20, w21, w22, w23, w24, w25, w26, w27, w28, w29, w30, w31, w32, w33, w34, w35, w36, w37, w38, w39, w40, w41, w42, w43, w44, w45, w46, w47, w48, w49, w50, w51, w52, w53, w54, w55, w56, w57, w58, w59, w60, w61, w62, w63])), (dg, .inl (y 1, 32, .inl (zf tO2 20 f)))]) [0, 1] rfl
  have hD9 := hD.sub (ws' := [(h0, .inr (16, [w1, w2, w3, w4, w5, w6, w7, w8, w9, w10, w11, w12, w13, w14, w15, w16, .ref dg, w17, w18, w19, w20, w21, w22, w23, w24, w25, w26, w27, w28, w29, w30, w31, w32, w33, w34, w35, w36, w37, w38, w39, w40, w41, w42, w43, w44, w45, w46, w47, w48, w49, w50, w51, w52, w53, w54, w55, w56, w57, w58, w59, w60, w61, w62, w63])), (dg, .inl (y 1, 32, .inl (zf tO2 20 f)))]) [0, 1] (by decide) rfl
  refine W.widen (k := 0) (n := 0) (Nat.le_of_ble_eq_true rfl) (Nat.le_of_ble_eq_true rfl) ?_
  exact W.vret hx hb hr (fun t ht hW => ⟨⟨(), rfl, trivial, by rw [ht]; exact hP9, hD9⟩, hS.F ht⟩) hS.2.2 dX12_keep_36
def wz_c_M_keep_2_5 : List Cond := .code yX12_keep cX12_keep 4 none :: ([.fieldLink RX12 43 "SignetRingModel" "digest" "[I"] ++ (wsX120 ++ ([])))
set_option maxHeartbeats 4000000 in
set_option maxRecDepth 100000 in
theorem c_M_keep_2_5 (l : Launch) (D : va_G) (y : Nat → ClassId) (sz : Nat) (h0 : Nat) (dg : Nat) (w1 : Value) (w2 : Value) (w3 : Value) (w4 : Value) (w5 : Value) (w6 : Value) (w7 : Value) (w8 : Value) (w9 : Value) (w10 : Value) (w11 : Value) (w12 : Value) (w13 : Value) (w14 : Value) (w15 : Value) (w16 : Value) (w17 : Value) (w18 : Value) (w19 : Value) (w20 : Value) (w21 : Value) (w22 : Value) (w23 : Value) (w24 : Value) (w25 : Value) (w26 : Value) (w27 : Value) (w28 : Value) (w29 : Value) (w30 : Value) (w31 : Value) (w32 : Value) (w33 : Value) (w34 : Value) (w35 : Value) (w36 : Value) (w37 : Value) (w38 : Value) (w39 : Value) (w40 : Value) (w41 : Value) (w42 : Value) (w43 : Value) (w44 : Value) (w45 : Value) (w46 : Value) (w47 : Value) (w48 : Value) (w49 : Value) (w50 : Value) (w51 : Value) (w52 : Value) (w53 : Value) (w54 : Value) (w55 : Value) (w56 : Value) (w57 : Value) (w58 : Value) (w59 : Value) (w60 : Value) (w61 : Value) (w62 : Value) (w63 : Value) (f : Nat → Int32) : Met l yX12_keep wz_c_M_keep_2_5 ({ frames := 0, cells := 0, slots := 0, locals := 0 }) (va_Pc [.ref h0, .int 5, .int 1687917388] (zB D y [(h0, .inr (16, [w1, w2, w3, w4, w5, w6, w7, w8, w9, w10, w11, w12, w13, w14, w15, w16, .ref dg, w17, w18, w19, w20, w21, w22, w23, w24, w25, w26, w27, w28, w29, w30, w31, w32, w33, w34, w35, w36, w37, w38, w39, w40, w41, w42, w43, w44, w45, w46, w47, w48, w49, w50, w51, w52, w53, w54, w55, w56, w57, w58, w59, w60, w61, w62, w63])), (dg, .inl (y 1, 32, .inl (zf tO2 20 f)))] sz [] [] [] [])) (va_Qv (fun _ : Unit => True) (fun _ t => va_P D vwCl [(h0, .inr (16, [w1, w2, w3, w4, w5, w6, w7, w8, w9, w10, w11, w12, w13, w14, w15, w16, .ref dg, w17, w18, w19, w20, w21, w22, w23, w24, w25, w26, w27, w28, w29, w30, w31, w32, w33, w34, w35, w36, w37, w38, w39, w40, w41, w42, w43, w44, w45, w46, w47, w48, w49, w50, w51, w52, w53, w54, w55, w56, w57, w58, w59, w60, w61, w62, w63])), (dg, .inl (y 1, 32, .inl (zf tO2 24 f)))] t.heap ∧ va_D (va_A [(h0, .inr (16, [w1, w2, w3, w4, w5, w6, w7, w8, w9, w10, w11, w12, w13, w14, w15, w16, .ref dg, w17, w18, w19, w20, w21, w22, w23, w24, w25, w26, w27, w28, w29, w30, w31, w32, w33, w34, w35, w36, w37, w38, w39, w40, w41, w42, w43, w44, w45, w46, w47, w48, w49, w50, w51, w52, w53, w54, w55, w56, w57, w58, w59, w60, w61, w62, w63])), (dg, .inl (y 1, 32, .inl (zf tO2 20 f)))] sz) [(h0, .inr (16, [w1, w2, w3, w4, w5, w6, w7, w8, w9, w10, w11, w12, w13, w14, w15, w16, .ref dg, w17, w18, w19, w20, w21, w22, w23, w24, w25, w26, w27, w28, w29, w30, w31, w32, w33, w34, w35, w36, w37, w38, w39, w40, w41, w42, w43, w44, w45, w46, w47, w48, w49, w50, w51, w52, w53, w54, w55, w56, w57, w58, w59, w60, w61, w62, w63])), (dg, .inl (y 1, 32, .inl (zf tO2 24 f)))]) (va_A [(h0, .inr (16, [w1, w2, w3, w4, w5, w6, w7, w8, w9, w10, w11, w12, w13, w14, w15, w16, .ref dg, w17, w18, w19, w20, w21, w22, w23, w24, w25, w26, w27, w28, w29, w30, w31, w32, w33, w34, w35, w36, w37, w38, w39, w40, w41, w42, w43, w44, w45, w46, w47, w48, w49, w50, w51, w52, w53, w54, w55, w56, w57, w58, w59, w60, w61, w62, w63])), (dg, .inl (y 1, 32, .inl (zf tO2 20 f)))] sz)) 0 0 (va_A [(h0, .inr (16, [w1, w2, w3, w4, w5, w6, w7, w8, w9, w10, w11, w12, w13, w14, w15, w16, .ref dg, w17, w18, w19, w20, w21, w22, w23, w24, w25, w26, w27, w28, w29, w30, w31, w32, w33, w34, w35, w36, w37, w38, w39, w40, w41, w42, w43, w44, w45, w46, w47, w48, w49, w50, w51, w52, w53, w54, w55, w56, w57, w58, w59, w60, w61, w62, w63])), (dg, .inl (y 1, 32, .inl (zf tO2 20 f)))] sz) := by
  refine Met.ofW (cc := cX12_keep) (maxL := 4) (ret := none) (by decide) rfl ?_
  intro p e s m args below meth c s₁ B hml hv
  obtain ⟨rfl, hsz, hP, hK, hD0, hN, hE, hO, hT, hG⟩ := hv
  have hx := B.exec
  have hb := B.bytes
  have hr := B.returns
  have hts := atoms_spec (ws := wz_c_M_keep_2_5) B.pre
  have hown : s.vm.findClass RX12 = some m.cls := findClass_of_methodNamed B.named
  have hlocks := B.notSynchronized
  subst hsz
  have hD := hD0.self (sz := s.heap.size)
  generalize hAe : va_A [(h0, .inr (16, [w1, w2, w3, w4, w5, w6, w7, w8, w9, w10, w11, w12, w13, w14, w15, w16, .ref dg, w17, w18, w19, w20, w21, w22, w23, w24, w25, w26, w27, w28, w29, w30, w31, w32, w33, w34, w35, w36, w37, w38, w39, w40, w41, w42, w43, w44, w45, w46, w47, w48, w49, w50, w51, w52, w53, w54, w55, w56, w57, w58, w59, w60, w61, w62, w63])), (dg, .inl (y 1, 32, .inl (zf tO2 20 f)))] s.heap.size = A at hD hE hT hG ⊢
  have hA : ∀ q : Nat, s.heap.size ≤ q → A q := fun q h => by rw [← hAe]; exact Or.inr h
  have hS : va_S A s.heap s.heap [] := va_S.rf
  have hl := lv_entry ([.ref h0, .int 5, .int 1687917388]) (n := 4) (Nat.le_of_ble_eq_true rfl)
  rw [lg_entry_eq]
  generalize (lg_sl ([.ref h0, .int 5, .int 1687917388]) ++ List.replicate (4 - (lg_sl ([.ref h0, .int 5, .int 1687917388])).length) Slot.unset).toArray = ls at hl ⊢
  have hl : lv_has ls 4 [(0, .ref h0), (1, .int 5), (2, .int 1687917388)] := hl
  refine lv_iconst (v := 0) hx hb dX12_keep_0 (by decide) ?_
  refine lv_istore_n (lv' := [(3, .int 0), (0, .ref h0), (1, .int 5), (2, .int 1687917388)]) hx hb dX12_keep_1 rfl hl (by decide) rfl (fun ls hl => ?_)
  refine lv_iload_n hx hb dX12_keep_2 rfl (lv_at hl 0 rfl) ?_
  refine lv_iconst (v := 4) hx hb dX12_keep_3 (by decide) ?_
  refine lv_icmp_ge (tgt := 36) hx hb dX12_keep_4 (by decide) (fun c9 => absurd c9 (by decide)) (fun _ => ?_)
  refine lv_aload_n hx hb dX12_keep_7 rfl (lv_at hl 1 rfl) ?_
  refine va_get (D := D) (ci := 16) (v := .ref dg) (C := RX12) (T := TX12) (N := 64) hx hb hts (by decide +kernel) hown hK hP 0 rfl rfl 16 (by decide) (hts (.fieldLink RX12 43 "SignetRingModel" "digest" "[I") (by decide +kernel)) (fun _ h9 => h9) rfl dX12_keep_8 ?_
  refine lv_iconst (v := 4) hx hb dX12_keep_11 (by decide) ?_
  refine lv_iload_n hx hb dX12_keep_12 rfl (lv_at hl 2 rfl) ?_
  refine lv_imul hx hb dX12_keep_13 ?_
  refine lv_topi (fun v1 ev1 => ?_)
  have ev1 : v1 = 20 := ev1.trans (by decide +kernel)
  subst ev1
  refine lv_iload_n hx hb dX12_keep_14 rfl (lv_at hl 0 rfl) ?_
  refine lv_iadd hx hb dX12_keep_15 ?_
  refine lv_topi (fun v2 ev2 => ?_)
  have ev2 : v2 = 20 := ev2.trans (by decide +kernel)
  subst ev2
  refine lv_iload_n hx hb dX12_keep_16 rfl (lv_at hl 3 rfl) ?_
  refine lv_bipush (v := 24) hx hb dX12_keep_17 (by decide) ?_
  refine lv_bipush (v := 8) hx hb dX12_keep_19 (by decide) ?_
  refine lv_iload_n hx hb dX12_keep_21 rfl (lv_at hl 0 rfl) ?_
  refine lv_imul hx hb dX12_keep_22 ?_
  refine lv_topi (fun v3 ev3 => ?_)
  have ev3 : v3 = 0 := ev3.trans (by decide +kernel)
  subst ev3
  refine lv_isub hx hb dX12_keep_23 ?_
  refine lv_topi (fun v4 ev4 => ?_)
  have ev4 : v4 = 24 := ev4.trans (by decide +kernel)
  subst ev4
  refine lv_iushr (v := zu (1687917388 : Int32) (24 : Int32)) hx hb dX12_keep_24 rfl ?_
  refine lv_topi (fun v5 ev5 => ?_)
  have ev5 : v5 = 100 := ev5.trans (by decide +kernel)
  subst ev5
  refine lv_sipush (v := 255) hx hb dX12_keep_25 (by decide) ?_
  refine lv_iand hx hb dX12_keep_28 ?_
  refine lv_topi (fun v6 ev6 => ?_)
  have ev6 : v6 = 100 := ev6.trans (by decide +kernel)
  subst ev6
  refine va_iast hx hb hK hP hD hS 1 1 rfl rfl (by unfold vp_in; decide) dX12_keep_29 (fun H locs hP hD hS => ?_)
  have hP : va_P D vwCl [(h0, .inr (16, [w1, w2, w3, w4, w5, w6, w7, w8, w9, w10, w11, w12, w13, w14, w15, w16, .ref dg, w17, w18, w19, w20, w21, w22, w23, w24, w25, w26, w27, w28, w29, w30, w31, w32, w33, w34, w35, w36, w37, w38, w39, w40, w41, w42, w43, w44, w45, w46, w47, w48, w49, w50, w51, w52, w53, w54, w55, w56, w57, w58, w59, w60, w61, w62, w63])), (dg, .inl (y 1, 32, .inl (upd (zf tO2 20 f) (nI 20).toNatClampNeg (100 : Int32))))] H := hP
  have hD : va_D A [(h0, .inr (16, [w1, w2, w3, w4, w5, w6, w7, w8, w9, w10, w11, w12, w13, w14, w15, w16, .ref dg, w17, w18, w19, w20, w21, w22, w23, w24, w25, w26, w27, w28, w29, w30, w31, w32, w33, w34, w35, w36, w37, w38, w39, w40, w41, w42, w43, w44, w45, w46, w47, w48, w49, w50, w51, w52, w53, w54, w55, w56, w57, w58, w59, w60, w61, w62, w63])), (dg, .inl (y 1, 32, .inl (upd (zf tO2 20 f) (nI 20).toNatClampNeg (100 : Int32))))] := hD
  have u7 : upd (zf tO2 20 f) (nI 20).toNatClampNeg (100 : Int32) = zf tO2 21 f := (zf_st (n := 20) (by decide) (by decide +kernel))
  rw [u7] at hP hD
  have hP : va_P D vwCl [(h0, .inr (16, [w1, w2, w3, w4, w5, w6, w7, w8, w9, w10, w11, w12, w13, w14, w15, w16, .ref dg, w17, w18, w19, w20, w21, w22, w23, w24, w25, w26, w27, w28, w29, w30, w31, w32, w33, w34, w35, w36, w37, w38, w39, w40, w41, w42, w43, w44, w45, w46, w47, w48, w49, w50, w51, w52, w53, w54, w55, w56, w57, w58, w59, w60, w61, w62, w63])), (dg, .inl (y 1, 32, .inl (zf tO2 21 f)))] H := hP
  have hD : va_D A [(h0, .inr (16, [w1, w2, w3, w4, w5, w6, w7, w8, w9, w10, w11, w12, w13, w14, w15, w16, .ref dg, w17, w18, w19, w20, w21, w22, w23, w24, w25, w26, w27, w28, w29, w30, w31, w32, w33, w34, w35, w36, w37, w38, w39, w40, w41, w42, w43, w44, w45, w46, w47, w48, w49, w50, w51, w52, w53, w54, w55, w56, w57, w58, w59, w60, w61, w62, w63])), (dg, .inl (y 1, 32, .inl (zf tO2 21 f)))] := hD
  refine lv_iinc (v := 1) (lv' := [(3, .int 1), (0, .ref h0), (1, .int 5), (2, .int 1687917388)]) hx hb dX12_keep_30 hl (k := 0) rfl (by decide) (by decide) rfl (fun ls hl => ?_)
  refine lv_goto (tgt := 2) hx hb dX12_keep_33 (by decide) ?_
  refine lv_iload_n hx hb dX12_keep_2 rfl (lv_at hl 0 rfl) ?_
  refine lv_iconst (v := 4) hx hb dX12_keep_3 (by decide) ?_
  refine lv_icmp_ge (tgt := 36) hx hb dX12_keep_4 (by decide) (fun c9 => absurd c9 (by decide)) (fun _ => ?_)
  refine lv_aload_n hx hb dX12_keep_7 rfl (lv_at hl 1 rfl) ?_
  refine va_get (D := D) (ci := 16) (v := .ref dg) (C := RX12) (T := TX12) (N := 64) hx hb hts (by decide +kernel) hown hK hP 0 rfl rfl 16 (by decide) (hts (.fieldLink RX12 43 "SignetRingModel" "digest" "[I") (by decide +kernel)) (fun _ h9 => h9) rfl dX12_keep_8 ?_
  refine lv_iconst (v := 4) hx hb dX12_keep_11 (by decide) ?_
  refine lv_iload_n hx hb dX12_keep_12 rfl (lv_at hl 2 rfl) ?_
  refine lv_imul hx hb dX12_keep_13 ?_
  refine lv_topi (fun v8 ev8 => ?_)
  have ev8 : v8 = 20 := ev8.trans (by decide +kernel)
  subst ev8
  refine lv_iload_n hx hb dX12_keep_14 rfl (lv_at hl 0 rfl) ?_
  refine lv_iadd hx hb dX12_keep_15 ?_
  refine lv_topi (fun v9 ev9 => ?_)
  have ev9 : v9 = 21 := ev9.trans (by decide +kernel)
  subst ev9
  refine lv_iload_n hx hb dX12_keep_16 rfl (lv_at hl 3 rfl) ?_
  refine lv_bipush (v := 24) hx hb dX12_keep_17 (by decide) ?_
  refine lv_bipush (v := 8) hx hb dX12_keep_19 (by decide) ?_
  refine lv_iload_n hx hb dX12_keep_21 rfl (lv_at hl 0 rfl) ?_
  refine lv_imul hx hb dX12_keep_22 ?_
  refine lv_topi (fun v10 ev10 => ?_)
  have ev10 : v10 = 8 := ev10.trans (by decide +kernel)
  subst ev10
  refine lv_isub hx hb dX12_keep_23 ?_
  refine lv_topi (fun v11 ev11 => ?_)
  have ev11 : v11 = 16 := ev11.trans (by decide +kernel)
  subst ev11
  refine lv_iushr (v := zu (1687917388 : Int32) (16 : Int32)) hx hb dX12_keep_24 rfl ?_
  refine lv_topi (fun v12 ev12 => ?_)
  have ev12 : v12 = 25755 := ev12.trans (by decide +kernel)
  subst ev12
  refine lv_sipush (v := 255) hx hb dX12_keep_25 (by decide) ?_
  refine lv_iand hx hb dX12_keep_28 ?_
  refine lv_topi (fun v13 ev13 => ?_)
  have ev13 : v13 = 155 := ev13.trans (by decide +kernel)
  subst ev13
  refine va_iast hx hb hK hP hD hS 1 1 rfl rfl (by unfold vp_in; decide) dX12_keep_29 (fun H locs hP hD hS => ?_)
  have hP : va_P D vwCl [(h0, .inr (16, [w1, w2, w3, w4, w5, w6, w7, w8, w9, w10, w11, w12, w13, w14, w15, w16, .ref dg, w17, w18, w19, w20, w21, w22, w23, w24, w25, w26, w27, w28, w29, w30, w31, w32, w33, w34, w35, w36, w37, w38, w39, w40, w41, w42, w43, w44, w45, w46, w47, w48, w49, w50, w51, w52, w53, w54, w55, w56, w57, w58, w59, w60, w61, w62, w63])), (dg, .inl (y 1, 32, .inl (upd (zf tO2 21 f) (nI 21).toNatClampNeg (155 : Int32))))] H := hP
  have hD : va_D A [(h0, .inr (16, [w1, w2, w3, w4, w5, w6, w7, w8, w9, w10, w11, w12, w13, w14, w15, w16, .ref dg, w17, w18, w19, w20, w21, w22, w23, w24, w25, w26, w27, w28, w29, w30, w31, w32, w33, w34, w35, w36, w37, w38, w39, w40, w41, w42, w43, w44, w45, w46, w47, w48, w49, w50, w51, w52, w53, w54, w55, w56, w57, w58, w59, w60, w61, w62, w63])), (dg, .inl (y 1, 32, .inl (upd (zf tO2 21 f) (nI 21).toNatClampNeg (155 : Int32))))] := hD
  have u14 : upd (zf tO2 21 f) (nI 21).toNatClampNeg (155 : Int32) = zf tO2 22 f := (zf_st (n := 21) (by decide) (by decide +kernel))
  rw [u14] at hP hD
  have hP : va_P D vwCl [(h0, .inr (16, [w1, w2, w3, w4, w5, w6, w7, w8, w9, w10, w11, w12, w13, w14, w15, w16, .ref dg, w17, w18, w19, w20, w21, w22, w23, w24, w25, w26, w27, w28, w29, w30, w31, w32, w33, w34, w35, w36, w37, w38, w39, w40, w41, w42, w43, w44, w45, w46, w47, w48, w49, w50, w51, w52, w53, w54, w55, w56, w57, w58, w59, w60, w61, w62, w63])), (dg, .inl (y 1, 32, .inl (zf tO2 22 f)))] H := hP
  have hD : va_D A [(h0, .inr (16, [w1, w2, w3, w4, w5, w6, w7, w8, w9, w10, w11, w12, w13, w14, w15, w16, .ref dg, w17, w18, w19, w20, w21, w22, w23, w24, w25, w26, w27, w28, w29, w30, w31, w32, w33, w34, w35, w36, w37, w38, w39, w40, w41, w42, w43, w44, w45, w46, w47, w48, w49, w50, w51, w52, w53, w54, w55, w56, w57, w58, w59, w60, w61, w62, w63])), (dg, .inl (y 1, 32, .inl (zf tO2 22 f)))] := hD
  refine lv_iinc (v := 2) (lv' := [(3, .int 2), (0, .ref h0), (1, .int 5), (2, .int 1687917388)]) hx hb dX12_keep_30 hl (k := 0) rfl (by decide) (by decide) rfl (fun ls hl => ?_)
  refine lv_goto (tgt := 2) hx hb dX12_keep_33 (by decide) ?_
  refine lv_iload_n hx hb dX12_keep_2 rfl (lv_at hl 0 rfl) ?_
  refine lv_iconst (v := 4) hx hb dX12_keep_3 (by decide) ?_
  refine lv_icmp_ge (tgt := 36) hx hb dX12_keep_4 (by decide) (fun c9 => absurd c9 (by decide)) (fun _ => ?_)
  refine lv_aload_n hx hb dX12_keep_7 rfl (lv_at hl 1 rfl) ?_
  refine va_get (D := D) (ci := 16) (v := .ref dg) (C := RX12) (T := TX12) (N := 64) hx hb hts (by decide +kernel) hown hK hP 0 rfl rfl 16 (by decide) (hts (.fieldLink RX12 43 "SignetRingModel" "digest" "[I") (by decide +kernel)) (fun _ h9 => h9) rfl dX12_keep_8 ?_
  refine lv_iconst (v := 4) hx hb dX12_keep_11 (by decide) ?_
  refine lv_iload_n hx hb dX12_keep_12 rfl (lv_at hl 2 rfl) ?_
  refine lv_imul hx hb dX12_keep_13 ?_
  refine lv_topi (fun v15 ev15 => ?_)
  have ev15 : v15 = 20 := ev15.trans (by decide +kernel)
  subst ev15
  refine lv_iload_n hx hb dX12_keep_14 rfl (lv_at hl 0 rfl) ?_
  refine lv_iadd hx hb dX12_keep_15 ?_
  refine lv_topi (fun v16 ev16 => ?_)
  have ev16 : v16 = 22 := ev16.trans (by decide +kernel)
  subst ev16
  refine lv_iload_n hx hb dX12_keep_16 rfl (lv_at hl 3 rfl) ?_
  refine lv_bipush (v := 24) hx hb dX12_keep_17 (by decide) ?_
  refine lv_bipush (v := 8) hx hb dX12_keep_19 (by decide) ?_
  refine lv_iload_n hx hb dX12_keep_21 rfl (lv_at hl 0 rfl) ?_
  refine lv_imul hx hb dX12_keep_22 ?_
  refine lv_topi (fun v17 ev17 => ?_)
  have ev17 : v17 = 16 := ev17.trans (by decide +kernel)
  subst ev17
  refine lv_isub hx hb dX12_keep_23 ?_
  refine lv_topi (fun v18 ev18 => ?_)
  have ev18 : v18 = 8 := ev18.trans (by decide +kernel)
  subst ev18
  refine lv_iushr (v := zu (1687917388 : Int32) (8 : Int32)) hx hb dX12_keep_24 rfl ?_
  refine lv_topi (fun v19 ev19 => ?_)
  have ev19 : v19 = 6593427 := ev19.trans (by decide +kernel)
  subst ev19
  refine lv_sipush (v := 255) hx hb dX12_keep_25 (by decide) ?_
  refine lv_iand hx hb dX12_keep_28 ?_
  refine lv_topi (fun v20 ev20 => ?_)
  have ev20 : v20 = 147 := ev20.trans (by decide +kernel)
  subst ev20
  refine va_iast hx hb hK hP hD hS 1 1 rfl rfl (by unfold vp_in; decide) dX12_keep_29 (fun H locs hP hD hS => ?_)
  have hP : va_P D vwCl [(h0, .inr (16, [w1, w2, w3, w4, w5, w6, w7, w8, w9, w10, w11, w12, w13, w14, w15, w16, .ref dg, w17, w18, w19, w20, w21, w22, w23, w24, w25, w26, w27, w28, w29, w30, w31, w32, w33, w34, w35, w36, w37, w38, w39, w40, w41, w42, w43, w44, w45, w46, w47, w48, w49, w50, w51, w52, w53, w54, w55, w56, w57, w58, w59, w60, w61, w62, w63])), (dg, .inl (y 1, 32, .inl (upd (zf tO2 22 f) (nI 22).toNatClampNeg (147 : Int32))))] H := hP
  have hD : va_D A [(h0, .inr (16, [w1, w2, w3, w4, w5, w6, w7, w8, w9, w10, w11, w12, w13, w14, w15, w16, .ref dg, w17, w18, w19, w20, w21, w22, w23, w24, w25, w26, w27, w28, w29, w30, w31, w32, w33, w34, w35, w36, w37, w38, w39, w40, w41, w42, w43, w44, w45, w46, w47, w48, w49, w50, w51, w52, w53, w54, w55, w56, w57, w58, w59, w60, w61, w62, w63])), (dg, .inl (y 1, 32, .inl (upd (zf tO2 22 f) (nI 22).toNatClampNeg (147 : Int32))))] := hD
  have u21 : upd (zf tO2 22 f) (nI 22).toNatClampNeg (147 : Int32) = zf tO2 23 f := (zf_st (n := 22) (by decide) (by decide +kernel))
  rw [u21] at hP hD
  have hP : va_P D vwCl [(h0, .inr (16, [w1, w2, w3, w4, w5, w6, w7, w8, w9, w10, w11, w12, w13, w14, w15, w16, .ref dg, w17, w18, w19, w20, w21, w22, w23, w24, w25, w26, w27, w28, w29, w30, w31, w32, w33, w34, w35, w36, w37, w38, w39, w40, w41, w42, w43, w44, w45, w46, w47, w48, w49, w50, w51, w52, w53, w54, w55, w56, w57, w58, w59, w60, w61, w62, w63])), (dg, .inl (y 1, 32, .inl (zf tO2 23 f)))] H := hP
  have hD : va_D A [(h0, .inr (16, [w1, w2, w3, w4, w5, w6, w7, w8, w9, w10, w11, w12, w13, w14, w15, w16, .ref dg, w17, w18, w19, w20, w21, w22, w23, w24, w25, w26, w27, w28, w29, w30, w31, w32, w33, w34, w35, w36, w37, w38, w39, w40, w41, w42, w43, w44, w45, w46, w47, w48, w49, w50, w51, w52, w53, w54, w55, w56, w57, w58, w59, w60, w61, w62, w63])), (dg, .inl (y 1, 32, .inl (zf tO2 23 f)))] := hD
  refine lv_iinc (v := 3) (lv' := [(3, .int 3), (0, .ref h0), (1, .int 5), (2, .int 1687917388)]) hx hb dX12_keep_30 hl (k := 0) rfl (by decide) (by decide) rfl (fun ls hl => ?_)
  refine lv_goto (tgt := 2) hx hb dX12_keep_33 (by decide) ?_
  refine lv_iload_n hx hb dX12_keep_2 rfl (lv_at hl 0 rfl) ?_
  refine lv_iconst (v := 4) hx hb dX12_keep_3 (by decide) ?_
  refine lv_icmp_ge (tgt := 36) hx hb dX12_keep_4 (by decide) (fun c9 => absurd c9 (by decide)) (fun _ => ?_)
  refine lv_aload_n hx hb dX12_keep_7 rfl (lv_at hl 1 rfl) ?_
  refine va_get (D := D) (ci := 16) (v := .ref dg) (C := RX12) (T := TX12) (N := 64) hx hb hts (by decide +kernel) hown hK hP 0 rfl rfl 16 (by decide) (hts (.fieldLink RX12 43 "SignetRingModel" "digest" "[I") (by decide +kernel)) (fun _ h9 => h9) rfl dX12_keep_8 ?_
  refine lv_iconst (v := 4) hx hb dX12_keep_11 (by decide) ?_
  refine lv_iload_n hx hb dX12_keep_12 rfl (lv_at hl 2 rfl) ?_
  refine lv_imul hx hb dX12_keep_13 ?_
  refine lv_topi (fun v22 ev22 => ?_)
  have ev22 : v22 = 20 := ev22.trans (by decide +kernel)
  subst ev22
  refine lv_iload_n hx hb dX12_keep_14 rfl (lv_at hl 0 rfl) ?_
  refine lv_iadd hx hb dX12_keep_15 ?_
  refine lv_topi (fun v23 ev23 => ?_)
  have ev23 : v23 = 23 := ev23.trans (by decide +kernel)
  subst ev23
  refine lv_iload_n hx hb dX12_keep_16 rfl (lv_at hl 3 rfl) ?_
  refine lv_bipush (v := 24) hx hb dX12_keep_17 (by decide) ?_
  refine lv_bipush (v := 8) hx hb dX12_keep_19 (by decide) ?_
  refine lv_iload_n hx hb dX12_keep_21 rfl (lv_at hl 0 rfl) ?_
  refine lv_imul hx hb dX12_keep_22 ?_
  refine lv_topi (fun v24 ev24 => ?_)
  have ev24 : v24 = 24 := ev24.trans (by decide +kernel)
  subst ev24
  refine lv_isub hx hb dX12_keep_23 ?_
  refine lv_topi (fun v25 ev25 => ?_)
  have ev25 : v25 = 0 := ev25.trans (by decide +kernel)
  subst ev25
  refine lv_iushr (v := zu (1687917388 : Int32) (0 : Int32)) hx hb dX12_keep_24 rfl ?_
  refine lv_topi (fun v26 ev26 => ?_)
  have ev26 : v26 = 1687917388 := ev26.trans (by decide +kernel)
  subst ev26
  refine lv_sipush (v := 255) hx hb dX12_keep_25 (by decide) ?_
  refine lv_iand hx hb dX12_keep_28 ?_
  refine lv_topi (fun v27 ev27 => ?_)
  have ev27 : v27 = 76 := ev27.trans (by decide +kernel)
  subst ev27
  refine va_iast hx hb hK hP hD hS 1 1 rfl rfl (by unfold vp_in; decide) dX12_keep_29 (fun H locs hP hD hS => ?_)
  have hP : va_P D vwCl [(h0, .inr (16, [w1, w2, w3, w4, w5, w6, w7, w8, w9, w10, w11, w12, w13, w14, w15, w16, .ref dg, w17, w18, w19, w20, w21, w22, w23, w24, w25, w26, w27, w28, w29, w30, w31, w32, w33, w34, w35, w36, w37, w38, w39, w40, w41, w42, w43, w44, w45, w46, w47, w48, w49, w50, w51, w52, w53, w54, w55, w56, w57, w58, w59, w60, w61, w62, w63])), (dg, .inl (y 1, 32, .inl (upd (zf tO2 23 f) (nI 23).toNatClampNeg (76 : Int32))))] H := hP
  have hD : va_D A [(h0, .inr (16, [w1, w2, w3, w4, w5, w6, w7, w8, w9, w10, w11, w12, w13, w14, w15, w16, .ref dg, w17, w18, w19, w20, w21, w22, w23, w24, w25, w26, w27, w28, w29, w30, w31, w32, w33, w34, w35, w36, w37, w38, w39, w40, w41, w42, w43, w44, w45, w46, w47, w48, w49, w50, w51, w52, w53, w54, w55, w56, w57, w58, w59, w60, w61, w62, w63])), (dg, .inl (y 1, 32, .inl (upd (zf tO2 23 f) (nI 23).toNatClampNeg (76 : Int32))))] := hD
  have u28 : upd (zf tO2 23 f) (nI 23).toNatClampNeg (76 : Int32) = zf tO2 24 f := (zf_st (n := 23) (by decide) (by decide +kernel))
  rw [u28] at hP hD
  have hP : va_P D vwCl [(h0, .inr (16, [w1, w2, w3, w4, w5, w6, w7, w8, w9, w10, w11, w12, w13, w14, w15, w16, .ref dg, w17, w18, w19, w20, w21, w22, w23, w24, w25, w26, w27, w28, w29, w30, w31, w32, w33, w34, w35, w36, w37, w38, w39, w40, w41, w42, w43, w44, w45, w46, w47, w48, w49, w50, w51, w52, w53, w54, w55, w56, w57, w58, w59, w60, w61, w62, w63])), (dg, .inl (y 1, 32, .inl (zf tO2 24 f)))] H := hP
  have hD : va_D A [(h0, .inr (16, [w1, w2, w3, w4, w5, w6, w7, w8, w9, w10, w11, w12, w13, w14, w15, w16, .ref dg, w17, w18, w19, w20, w21, w22, w23, w24, w25, w26, w27, w28, w29, w30, w31, w32, w33, w34, w35, w36, w37, w38, w39, w40, w41, w42, w43, w44, w45, w46, w47, w48, w49, w50, w51, w52, w53, w54, w55, w56, w57, w58, w59, w60, w61, w62, w63])), (dg, .inl (y 1, 32, .inl (zf tO2 24 f)))] := hD
  refine lv_iinc (v := 4) (lv' := [(3, .int 4), (0, .ref h0), (1, .int 5), (2, .int 1687917388)]) hx hb dX12_keep_30 hl (k := 0) rfl (by decide) (by decide) rfl (fun ls hl => ?_)
  refine lv_goto (tgt := 2) hx hb dX12_keep_33 (by decide) ?_
  refine lv_iload_n hx hb dX12_keep_2 rfl (lv_at hl 0 rfl) ?_
  refine lv_iconst (v := 4) hx hb dX12_keep_3 (by decide) ?_
  refine lv_icmp_ge (tgt := 36) hx hb dX12_keep_4 (by decide) (fun _ => ?_) (fun c9 => absurd (by decide) c9)
  have hP9 := hP.sub (ws' := [(h0, .inr (16, [w1, w2, w3, w4, w5, w6, w7, w8, w9, w10, w11, w12, w13, w14, w15, w16, .ref dg, w17, w18, w19, w20, w21, w22, w23, w24, w25, w26, w27, w28, w29, w30, w31, w32, w33, w34, w35, w36, w37, w38, w39, w40, w41, w42, w43, w44, w45, w46, w47, w48, w49, w50, w51, w52, w53, w54, w55, w56, w57, w58, w59, w60, w61, w62, w63])), (dg, .inl (y 1, 32, .inl (zf tO2 24 f)))]) [0, 1] rfl
  have hD9 := hD.sub (ws' := [(h0, .inr (16, [w1, w2, w3, w4, w5, w6, w7, w8, w9, w10, w11, w12, w13, w14, w15, w16, .ref dg, w17, w18, w19, w20, w21, w22, w23, w24, w25, w26, w27, w28, w29, w30, w31, w32, w33, w34, w35, w36, w37, w38, w39, w40, w41, w42, w43, w44, w45, w46, w47, w48, w49, w50, w51, w52, w53, w54, w55, w56, w57, w58, w59, w60, w61, w62, w63])), (dg, .inl (y 1, 32, .inl (zf tO2 24 f)))]) [0, 1] (by decide) rfl
  refine W.widen (k := 0) (n := 0) (Nat.le_of_ble_eq_true rfl) (Nat.le_of_ble_eq_true rfl) ?_
  exact W.vret hx hb hr (fun t ht hW => ⟨⟨(), rfl, trivial, by rw [ht]; exact hP9, hD9⟩, hS.F ht⟩) hS.2.2 dX12_keep_36
def wz_c_M_keep_2_6 : List Cond := .code yX12_keep cX12_keep 4 none :: ([.fieldLink RX12 43 "SignetRingModel" "digest" "[I"] ++ (wsX120 ++ ([])))
set_option maxHeartbeats 4000000 in
set_option maxRecDepth 100000 in
theorem c_M_keep_2_6 (l : Launch) (D : va_G) (y : Nat → ClassId) (sz : Nat) (h0 : Nat) (dg : Nat) (w1 : Value) (w2 : Value) (w3 : Value) (w4 : Value) (w5 : Value) (w6 : Value) (w7 : Value) (w8 : Value) (w9 : Value) (w10 : Value) (w11 : Value) (w12 : Value) (w13 : Value) (w14 : Value) (w15 : Value) (w16 : Value) (w17 : Value) (w18 : Value) (w19 : Value) (w20 : Value) (w21 : Value) (w22 : Value) (w23 : Value) (w24 : Value) (w25 : Value) (w26 : Value) (w27 : Value) (w28 : Value) (w29 : Value) (w30 : Value) (w31 : Value) (w32 : Value) (w33 : Value) (w34 : Value) (w35 : Value) (w36 : Value) (w37 : Value) (w38 : Value) (w39 : Value) (w40 : Value) (w41 : Value) (w42 : Value) (w43 : Value) (w44 : Value) (w45 : Value) (w46 : Value) (w47 : Value) (w48 : Value) (w49 : Value) (w50 : Value) (w51 : Value) (w52 : Value) (w53 : Value) (w54 : Value) (w55 : Value) (w56 : Value) (w57 : Value) (w58 : Value) (w59 : Value) (w60 : Value) (w61 : Value) (w62 : Value) (w63 : Value) (f : Nat → Int32) : Met l yX12_keep wz_c_M_keep_2_6 ({ frames := 0, cells := 0, slots := 0, locals := 0 }) (va_Pc [.ref h0, .int 6, .int (-1533699813)] (zB D y [(h0, .inr (16, [w1, w2, w3, w4, w5, w6, w7, w8, w9, w10, w11, w12, w13, w14, w15, w16, .ref dg, w17, w18, w19, w20, w21, w22, w23, w24, w25, w26, w27, w28, w29, w30, w31, w32, w33, w34, w35, w36, w37, w38, w39, w40, w41, w42, w43, w44, w45, w46, w47, w48, w49, w50, w51, w52, w53, w54, w55, w56, w57, w58, w59, w60, w61, w62, w63])), (dg, .inl (y 1, 32, .inl (zf tO2 24 f)))] sz [] [] [] [])) (va_Qv (fun _ : Unit => True) (fun _ t => va_P D vwCl [(h0, .inr (16, [w1, w2, w3, w4, w5, w6, w7, w8, w9, w10, w11, w12, w13, w14, w15, w16, .ref dg, w17, w18, w19, w20, w21, w22, w23, w24, w25, w26, w27, w28, w29, w30, w31, w32, w33, w34, w35, w36, w37, w38, w39, w40, w41, w42, w43, w44, w45, w46, w47, w48, w49, w50, w51, w52, w53, w54, w55, w56, w57, w58, w59, w60, w61, w62, w63])), (dg, .inl (y 1, 32, .inl (zf tO2 28 f)))] t.heap ∧ va_D (va_A [(h0, .inr (16, [w1, w2, w3, w4, w5, w6, w7, w8, w9, w10, w11, w12, w13, w14, w15, w16, .ref dg, w17, w18, w19, w20, w21, w22, w23, w24, w25, w26, w27, w28, w29, w30, w31, w32, w33, w34, w35, w36, w37, w38, w39, w40, w41, w42, w43, w44, w45, w46, w47, w48, w49, w50, w51, w52, w53, w54, w55, w56, w57, w58, w59, w60, w61, w62, w63])), (dg, .inl (y 1, 32, .inl (zf tO2 24 f)))] sz) [(h0, .inr (16, [w1, w2, w3, w4, w5, w6, w7, w8, w9, w10, w11, w12, w13, w14, w15, w16, .ref dg, w17, w18, w19, w20, w21, w22, w23, w24, w25, w26, w27, w28, w29, w30, w31, w32, w33, w34, w35, w36, w37, w38, w39, w40, w41, w42, w43, w44, w45, w46, w47, w48, w49, w50, w51, w52, w53, w54, w55, w56, w57, w58, w59, w60, w61, w62, w63])), (dg, .inl (y 1, 32, .inl (zf tO2 28 f)))]) (va_A [(h0, .inr (16, [w1, w2, w3, w4, w5, w6, w7, w8, w9, w10, w11, w12, w13, w14, w15, w16, .ref dg, w17, w18, w19, w20, w21, w22, w23, w24, w25, w26, w27, w28, w29, w30, w31, w32, w33, w34, w35, w36, w37, w38, w39, w40, w41, w42, w43, w44, w45, w46, w47, w48, w49, w50, w51, w52, w53, w54, w55, w56, w57, w58, w59, w60, w61, w62, w63])), (dg, .inl (y 1, 32, .inl (zf tO2 24 f)))] sz)) 0 0 (va_A [(h0, .inr (16, [w1, w2, w3, w4, w5, w6, w7, w8, w9, w10, w11, w12, w13, w14, w15, w16, .ref dg, w17, w18, w19, w20, w21, w22, w23, w24, w25, w26, w27, w28, w29, w30, w31, w32, w33, w34, w35, w36, w37, w38, w39, w40, w41, w42, w43, w44, w45, w46, w47, w48, w49, w50, w51, w52, w53, w54, w55, w56, w57, w58, w59, w60, w61, w62, w63])), (dg, .inl (y 1, 32, .inl (zf tO2 24 f)))] sz) := by
  refine Met.ofW (cc := cX12_keep) (maxL := 4) (ret := none) (by decide) rfl ?_
  intro p e s m args below meth c s₁ B hml hv
  obtain ⟨rfl, hsz, hP, hK, hD0, hN, hE, hO, hT, hG⟩ := hv
  have hx := B.exec
  have hb := B.bytes
  have hr := B.returns
  have hts := atoms_spec (ws := wz_c_M_keep_2_6) B.pre
  have hown : s.vm.findClass RX12 = some m.cls := findClass_of_methodNamed B.named
  have hlocks := B.notSynchronized
  subst hsz
  have hD := hD0.self (sz := s.heap.size)
  generalize hAe : va_A [(h0, .inr (16, [w1, w2, w3, w4, w5, w6, w7, w8, w9, w10, w11, w12, w13, w14, w15, w16, .ref dg, w17, w18, w19, w20, w21, w22, w23, w24, w25, w26, w27, w28, w29, w30, w31, w32, w33, w34, w35, w36, w37, w38, w39, w40, w41, w42, w43, w44, w45, w46, w47, w48, w49, w50, w51, w52, w53, w54, w55, w56, w57, w58, w59, w60, w61, w62, w63])), (dg, .inl (y 1, 32, .inl (zf tO2 24 f)))] s.heap.size = A at hD hE hT hG ⊢
  have hA : ∀ q : Nat, s.heap.size ≤ q → A q := fun q h => by rw [← hAe]; exact Or.inr h
  have hS : va_S A s.heap s.heap [] := va_S.rf
  have hl := lv_entry ([.ref h0, .int 6, .int (-1533699813)]) (n := 4) (Nat.le_of_ble_eq_true rfl)
  rw [lg_entry_eq]
  generalize (lg_sl ([.ref h0, .int 6, .int (-1533699813)]) ++ List.replicate (4 - (lg_sl ([.ref h0, .int 6, .int (-1533699813)])).length) Slot.unset).toArray = ls at hl ⊢
  have hl : lv_has ls 4 [(0, .ref h0), (1, .int 6), (2, .int (-1533699813))] := hl
  refine lv_iconst (v := 0) hx hb dX12_keep_0 (by decide) ?_
  refine lv_istore_n (lv' := [(3, .int 0), (0, .ref h0), (1, .int 6), (2, .int (-1533699813))]) hx hb dX12_keep_1 rfl hl (by decide) rfl (fun ls hl => ?_)
  refine lv_iload_n hx hb dX12_keep_2 rfl (lv_at hl 0 rfl) ?_
  refine lv_iconst (v := 4) hx hb dX12_keep_3 (by decide) ?_
  refine lv_icmp_ge (tgt := 36) hx hb dX12_keep_4 (by decide) (fun c9 => absurd c9 (by decide)) (fun _ => ?_)
  refine lv_aload_n hx hb dX12_keep_7 rfl (lv_at hl 1 rfl) ?_
  refine va_get (D := D) (ci := 16) (v := .ref dg) (C := RX12) (T := TX12) (N := 64) hx hb hts (by decide +kernel) hown hK hP 0 rfl rfl 16 (by decide) (hts (.fieldLink RX12 43 "SignetRingModel" "digest" "[I") (by decide +kernel)) (fun _ h9 => h9) rfl dX12_keep_8 ?_
  refine lv_iconst (v := 4) hx hb dX12_keep_11 (by decide) ?_
  refine lv_iload_n hx hb dX12_keep_12 rfl (lv_at hl 2 rfl) ?_
  refine lv_imul hx hb dX12_keep_13 ?_
  refine lv_topi (fun v1 ev1 => ?_)
  have ev1 : v1 = 24 := ev1.trans (by decide +kernel)
  subst ev1
  refine lv_iload_n hx hb dX12_keep_14 rfl (lv_at hl 0 rfl) ?_
  refine lv_iadd hx hb dX12_keep_15 ?_
  refine lv_topi (fun v2 ev2 => ?_)
  have ev2 : v2 = 24 := ev2.trans (by decide +kernel)
  subst ev2
  refine lv_iload_n hx hb dX12_keep_16 rfl (lv_at hl 3 rfl) ?_
  refine lv_bipush (v := 24) hx hb dX12_keep_17 (by decide) ?_
  refine lv_bipush (v := 8) hx hb dX12_keep_19 (by decide) ?_
  refine lv_iload_n hx hb dX12_keep_21 rfl (lv_at hl 0 rfl) ?_
  refine lv_imul hx hb dX12_keep_22 ?_
  refine lv_topi (fun v3 ev3 => ?_)
  have ev3 : v3 = 0 := ev3.trans (by decide +kernel)
  subst ev3
  refine lv_isub hx hb dX12_keep_23 ?_
  refine lv_topi (fun v4 ev4 => ?_)
  have ev4 : v4 = 24 := ev4.trans (by decide +kernel)
  subst ev4
  refine lv_iushr (v := zu (-1533699813 : Int32) (24 : Int32)) hx hb dX12_keep_24 rfl ?_
  refine lv_topi (fun v5 ev5 => ?_)
  have ev5 : v5 = 164 := ev5.trans (by decide +kernel)
  subst ev5
  refine lv_sipush (v := 255) hx hb dX12_keep_25 (by decide) ?_
  refine lv_iand hx hb dX12_keep_28 ?_
  refine lv_topi (fun v6 ev6 => ?_)
  have ev6 : v6 = 164 := ev6.trans (by decide +kernel)
  subst ev6
  refine va_iast hx hb hK hP hD hS 1 1 rfl rfl (by unfold vp_in; decide) dX12_keep_29 (fun H locs hP hD hS => ?_)
  have hP : va_P D vwCl [(h0, .inr (16, [w1, w2, w3, w4, w5, w6, w7, w8, w9, w10, w11, w12, w13, w14, w15, w16, .ref dg, w17, w18, w19, w20, w21, w22, w23, w24, w25, w26, w27, w28, w29, w30, w31, w32, w33, w34, w35, w36, w37, w38, w39, w40, w41, w42, w43, w44, w45, w46, w47, w48, w49, w50, w51, w52, w53, w54, w55, w56, w57, w58, w59, w60, w61, w62, w63])), (dg, .inl (y 1, 32, .inl (upd (zf tO2 24 f) (nI 24).toNatClampNeg (164 : Int32))))] H := hP
  have hD : va_D A [(h0, .inr (16, [w1, w2, w3, w4, w5, w6, w7, w8, w9, w10, w11, w12, w13, w14, w15, w16, .ref dg, w17, w18, w19, w20, w21, w22, w23, w24, w25, w26, w27, w28, w29, w30, w31, w32, w33, w34, w35, w36, w37, w38, w39, w40, w41, w42, w43, w44, w45, w46, w47, w48, w49, w50, w51, w52, w53, w54, w55, w56, w57, w58, w59, w60, w61, w62, w63])), (dg, .inl (y 1, 32, .inl (upd (zf tO2 24 f) (nI 24).toNatClampNeg (164 : Int32))))] := hD
  have u7 : upd (zf tO2 24 f) (nI 24).toNatClampNeg (164 : Int32) = zf tO2 25 f := (zf_st (n := 24) (by decide) (by decide +kernel))
  rw [u7] at hP hD
  have hP : va_P D vwCl [(h0, .inr (16, [w1, w2, w3, w4, w5, w6, w7, w8, w9, w10, w11, w12, w13, w14, w15, w16, .ref dg, w17, w18, w19, w20, w21, w22, w23, w24, w25, w26, w27, w28, w29, w30, w31, w32, w33, w34, w35, w36, w37, w38, w39, w40, w41, w42, w43, w44, w45, w46, w47, w48, w49, w50, w51, w52, w53, w54, w55, w56, w57, w58, w59, w60, w61, w62, w63])), (dg, .inl (y 1, 32, .inl (zf tO2 25 f)))] H := hP
  have hD : va_D A [(h0, .inr (16, [w1, w2, w3, w4, w5, w6, w7, w8, w9, w10, w11, w12, w13, w14, w15, w16, .ref dg, w17, w18, w19, w20, w21, w22, w23, w24, w25, w26, w27, w28, w29, w30, w31, w32, w33, w34, w35, w36, w37, w38, w39, w40, w41, w42, w43, w44, w45, w46, w47, w48, w49, w50, w51, w52, w53, w54, w55, w56, w57, w58, w59, w60, w61, w62, w63])), (dg, .inl (y 1, 32, .inl (zf tO2 25 f)))] := hD
  refine lv_iinc (v := 1) (lv' := [(3, .int 1), (0, .ref h0), (1, .int 6), (2, .int (-1533699813))]) hx hb dX12_keep_30 hl (k := 0) rfl (by decide) (by decide) rfl (fun ls hl => ?_)
  refine lv_goto (tgt := 2) hx hb dX12_keep_33 (by decide) ?_
  refine lv_iload_n hx hb dX12_keep_2 rfl (lv_at hl 0 rfl) ?_
  refine lv_iconst (v := 4) hx hb dX12_keep_3 (by decide) ?_
  refine lv_icmp_ge (tgt := 36) hx hb dX12_keep_4 (by decide) (fun c9 => absurd c9 (by decide)) (fun _ => ?_)
  refine lv_aload_n hx hb dX12_keep_7 rfl (lv_at hl 1 rfl) ?_
  refine va_get (D := D) (ci := 16) (v := .ref dg) (C := RX12) (T := TX12) (N := 64) hx hb hts (by decide +kernel) hown hK hP 0 rfl rfl 16 (by decide) (hts (.fieldLink RX12 43 "SignetRingModel" "digest" "[I") (by decide +kernel)) (fun _ h9 => h9) rfl dX12_keep_8 ?_
  refine lv_iconst (v := 4) hx hb dX12_keep_11 (by decide) ?_
  refine lv_iload_n hx hb dX12_keep_12 rfl (lv_at hl 2 rfl) ?_
  refine lv_imul hx hb dX12_keep_13 ?_
  refine lv_topi (fun v8 ev8 => ?_)
  have ev8 : v8 = 24 := ev8.trans (by decide +kernel)
  subst ev8
  refine lv_iload_n hx hb dX12_keep_14 rfl (lv_at hl 0 rfl) ?_
  refine lv_iadd hx hb dX12_keep_15 ?_
  refine lv_topi (fun v9 ev9 => ?_)
  have ev9 : v9 = 25 := ev9.trans (by decide +kernel)
  subst ev9
  refine lv_iload_n hx hb dX12_keep_16 rfl (lv_at hl 3 rfl) ?_
  refine lv_bipush (v := 24) hx hb dX12_keep_17 (by decide) ?_
  refine lv_bipush (v := 8) hx hb dX12_keep_19 (by decide) ?_
  refine lv_iload_n hx hb dX12_keep_21 rfl (lv_at hl 0 rfl) ?_
  refine lv_imul hx hb dX12_keep_22 ?_
  refine lv_topi (fun v10 ev10 => ?_)
  have ev10 : v10 = 8 := ev10.trans (by decide +kernel)
  subst ev10
  refine lv_isub hx hb dX12_keep_23 ?_
  refine lv_topi (fun v11 ev11 => ?_)
  have ev11 : v11 = 16 := ev11.trans (by decide +kernel)
  subst ev11
  refine lv_iushr (v := zu (-1533699813 : Int32) (16 : Int32)) hx hb dX12_keep_24 rfl ?_
  refine lv_topi (fun v12 ev12 => ?_)
  have ev12 : v12 = 42133 := ev12.trans (by decide +kernel)
  subst ev12
  refine lv_sipush (v := 255) hx hb dX12_keep_25 (by decide) ?_
  refine lv_iand hx hb dX12_keep_28 ?_
  refine lv_topi (fun v13 ev13 => ?_)
  have ev13 : v13 = 149 := ev13.trans (by decide +kernel)
  subst ev13
  refine va_iast hx hb hK hP hD hS 1 1 rfl rfl (by unfold vp_in; decide) dX12_keep_29 (fun H locs hP hD hS => ?_)
  have hP : va_P D vwCl [(h0, .inr (16, [w1, w2, w3, w4, w5, w6, w7, w8, w9, w10, w11, w12, w13, w14, w15, w16, .ref dg, w17, w18, w19, w20, w21, w22, w23, w24, w25, w26, w27, w28, w29, w30, w31, w32, w33, w34, w35, w36, w37, w38, w39, w40, w41, w42, w43, w44, w45, w46, w47, w48, w49, w50, w51, w52, w53, w54, w55, w56, w57, w58, w59, w60, w61, w62, w63])), (dg, .inl (y 1, 32, .inl (upd (zf tO2 25 f) (nI 25).toNatClampNeg (149 : Int32))))] H := hP
  have hD : va_D A [(h0, .inr (16, [w1, w2, w3, w4, w5, w6, w7, w8, w9, w10, w11, w12, w13, w14, w15, w16, .ref dg, w17, w18, w19, w20, w21, w22, w23, w24, w25, w26, w27, w28, w29, w30, w31, w32, w33, w34, w35, w36, w37, w38, w39, w40, w41, w42, w43, w44, w45, w46, w47, w48, w49, w50, w51, w52, w53, w54, w55, w56, w57, w58, w59, w60, w61, w62, w63])), (dg, .inl (y 1, 32, .inl (upd (zf tO2 25 f) (nI 25).toNatClampNeg (149 : Int32))))] := hD
  have u14 : upd (zf tO2 25 f) (nI 25).toNatClampNeg (149 : Int32) = zf tO2 26 f := (zf_st (n := 25) (by decide) (by decide +kernel))
  rw [u14] at hP hD
  have hP : va_P D vwCl [(h0, .inr (16, [w1, w2, w3, w4, w5, w6, w7, w8, w9, w10, w11, w12, w13, w14, w15, w16, .ref dg, w17, w18, w19, w20, w21, w22, w23, w24, w25, w26, w27, w28, w29, w30, w31, w32, w33, w34, w35, w36, w37, w38, w39, w40, w41, w42, w43, w44, w45, w46, w47, w48, w49, w50, w51, w52, w53, w54, w55, w56, w57, w58, w59, w60, w61, w62, w63])), (dg, .inl (y 1, 32, .inl (zf tO2 26 f)))] H := hP
  have hD : va_D A [(h0, .inr (16, [w1, w2, w3, w4, w5, w6, w7, w8, w9, w10, w11, w12, w13, w14, w15, w16, .ref dg, w17, w18, w19, w20, w21, w22, w23, w24, w25, w26, w27, w28, w29, w30, w31, w32, w33, w34, w35, w36, w37, w38, w39, w40, w41, w42, w43, w44, w45, w46, w47, w48, w49, w50, w51, w52, w53, w54, w55, w56, w57, w58, w59, w60, w61, w62, w63])), (dg, .inl (y 1, 32, .inl (zf tO2 26 f)))] := hD
  refine lv_iinc (v := 2) (lv' := [(3, .int 2), (0, .ref h0), (1, .int 6), (2, .int (-1533699813))]) hx hb dX12_keep_30 hl (k := 0) rfl (by decide) (by decide) rfl (fun ls hl => ?_)
  refine lv_goto (tgt := 2) hx hb dX12_keep_33 (by decide) ?_
  refine lv_iload_n hx hb dX12_keep_2 rfl (lv_at hl 0 rfl) ?_
  refine lv_iconst (v := 4) hx hb dX12_keep_3 (by decide) ?_
  refine lv_icmp_ge (tgt := 36) hx hb dX12_keep_4 (by decide) (fun c9 => absurd c9 (by decide)) (fun _ => ?_)
  refine lv_aload_n hx hb dX12_keep_7 rfl (lv_at hl 1 rfl) ?_
  refine va_get (D := D) (ci := 16) (v := .ref dg) (C := RX12) (T := TX12) (N := 64) hx hb hts (by decide +kernel) hown hK hP 0 rfl rfl 16 (by decide) (hts (.fieldLink RX12 43 "SignetRingModel" "digest" "[I") (by decide +kernel)) (fun _ h9 => h9) rfl dX12_keep_8 ?_
  refine lv_iconst (v := 4) hx hb dX12_keep_11 (by decide) ?_
  refine lv_iload_n hx hb dX12_keep_12 rfl (lv_at hl 2 rfl) ?_
  refine lv_imul hx hb dX12_keep_13 ?_
  refine lv_topi (fun v15 ev15 => ?_)
  have ev15 : v15 = 24 := ev15.trans (by decide +kernel)
  subst ev15
  refine lv_iload_n hx hb dX12_keep_14 rfl (lv_at hl 0 rfl) ?_
  refine lv_iadd hx hb dX12_keep_15 ?_
  refine lv_topi (fun v16 ev16 => ?_)
  have ev16 : v16 = 26 := ev16.trans (by decide +kernel)
  subst ev16
  refine lv_iload_n hx hb dX12_keep_16 rfl (lv_at hl 3 rfl) ?_
  refine lv_bipush (v := 24) hx hb dX12_keep_17 (by decide) ?_
  refine lv_bipush (v := 8) hx hb dX12_keep_19 (by decide) ?_
  refine lv_iload_n hx hb dX12_keep_21 rfl (lv_at hl 0 rfl) ?_
  refine lv_imul hx hb dX12_keep_22 ?_
  refine lv_topi (fun v17 ev17 => ?_)
  have ev17 : v17 = 16 := ev17.trans (by decide +kernel)
  subst ev17
  refine lv_isub hx hb dX12_keep_23 ?_
  refine lv_topi (fun v18 ev18 => ?_)
  have ev18 : v18 = 8 := ev18.trans (by decide +kernel)
  subst ev18
  refine lv_iushr (v := zu (-1533699813 : Int32) (8 : Int32)) hx hb dX12_keep_24 rfl ?_
  refine lv_topi (fun v19 ev19 => ?_)
  have ev19 : v19 = 10786201 := ev19.trans (by decide +kernel)
  subst ev19
  refine lv_sipush (v := 255) hx hb dX12_keep_25 (by decide) ?_
  refine lv_iand hx hb dX12_keep_28 ?_
  refine lv_topi (fun v20 ev20 => ?_)
  have ev20 : v20 = 153 := ev20.trans (by decide +kernel)
  subst ev20
  refine va_iast hx hb hK hP hD hS 1 1 rfl rfl (by unfold vp_in; decide) dX12_keep_29 (fun H locs hP hD hS => ?_)
  have hP : va_P D vwCl [(h0, .inr (16, [w1, w2, w3, w4, w5, w6, w7, w8, w9, w10, w11, w12, w13, w14, w15, w16, .ref dg, w17, w18, w19, w20, w21, w22, w23, w24, w25, w26, w27, w28, w29, w30, w31, w32, w33, w34, w35, w36, w37, w38, w39, w40, w41, w42, w43, w44, w45, w46, w47, w48, w49, w50, w51, w52, w53, w54, w55, w56, w57, w58, w59, w60, w61, w62, w63])), (dg, .inl (y 1, 32, .inl (upd (zf tO2 26 f) (nI 26).toNatClampNeg (153 : Int32))))] H := hP
  have hD : va_D A [(h0, .inr (16, [w1, w2, w3, w4, w5, w6, w7, w8, w9, w10, w11, w12, w13, w14, w15, w16, .ref dg, w17, w18, w19, w20, w21, w22, w23, w24, w25, w26, w27, w28, w29, w30, w31, w32, w33, w34, w35, w36, w37, w38, w39, w40, w41, w42, w43, w44, w45, w46, w47, w48, w49, w50, w51, w52, w53, w54, w55, w56, w57, w58, w59, w60, w61, w62, w63])), (dg, .inl (y 1, 32, .inl (upd (zf tO2 26 f) (nI 26).toNatClampNeg (153 : Int32))))] := hD
  have u21 : upd (zf tO2 26 f) (nI 26).toNatClampNeg (153 : Int32) = zf tO2 27 f := (zf_st (n := 26) (by decide) (by decide +kernel))
  rw [u21] at hP hD
  have hP : va_P D vwCl [(h0, .inr (16, [w1, w2, w3, w4, w5, w6, w7, w8, w9, w10, w11, w12, w13, w14, w15, w16, .ref dg, w17, w18, w19, w20, w21, w22, w23, w24, w25, w26, w27, w28, w29, w30, w31, w32, w33, w34, w35, w36, w37, w38, w39, w40, w41, w42, w43, w44, w45, w46, w47, w48, w49, w50, w51, w52, w53, w54, w55, w56, w57, w58, w59, w60, w61, w62, w63])), (dg, .inl (y 1, 32, .inl (zf tO2 27 f)))] H := hP
  have hD : va_D A [(h0, .inr (16, [w1, w2, w3, w4, w5, w6, w7, w8, w9, w10, w11, w12, w13, w14, w15, w16, .ref dg, w17, w18, w19, w20, w21, w22, w23, w24, w25, w26, w27, w28, w29, w30, w31, w32, w33, w34, w35, w36, w37, w38, w39, w40, w41, w42, w43, w44, w45, w46, w47, w48, w49, w50, w51, w52, w53, w54, w55, w56, w57, w58, w59, w60, w61, w62, w63])), (dg, .inl (y 1, 32, .inl (zf tO2 27 f)))] := hD
  refine lv_iinc (v := 3) (lv' := [(3, .int 3), (0, .ref h0), (1, .int 6), (2, .int (-1533699813))]) hx hb dX12_keep_30 hl (k := 0) rfl (by decide) (by decide) rfl (fun ls hl => ?_)
  refine lv_goto (tgt := 2) hx hb dX12_keep_33 (by decide) ?_
  refine lv_iload_n hx hb dX12_keep_2 rfl (lv_at hl 0 rfl) ?_
  refine lv_iconst (v := 4) hx hb dX12_keep_3 (by decide) ?_
  refine lv_icmp_ge (tgt := 36) hx hb dX12_keep_4 (by decide) (fun c9 => absurd c9 (by decide)) (fun _ => ?_)
  refine lv_aload_n hx hb dX12_keep_7 rfl (lv_at hl 1 rfl) ?_
  refine va_get (D := D) (ci := 16) (v := .ref dg) (C := RX12) (T := TX12) (N := 64) hx hb hts (by decide +kernel) hown hK hP 0 rfl rfl 16 (by decide) (hts (.fieldLink RX12 43 "SignetRingModel" "digest" "[I") (by decide +kernel)) (fun _ h9 => h9) rfl dX12_keep_8 ?_
  refine lv_iconst (v := 4) hx hb dX12_keep_11 (by decide) ?_
  refine lv_iload_n hx hb dX12_keep_12 rfl (lv_at hl 2 rfl) ?_
  refine lv_imul hx hb dX12_keep_13 ?_
  refine lv_topi (fun v22 ev22 => ?_)
  have ev22 : v22 = 24 := ev22.trans (by decide +kernel)
  subst ev22
  refine lv_iload_n hx hb dX12_keep_14 rfl (lv_at hl 0 rfl) ?_
  refine lv_iadd hx hb dX12_keep_15 ?_
  refine lv_topi (fun v23 ev23 => ?_)
  have ev23 : v23 = 27 := ev23.trans (by decide +kernel)
  subst ev23
  refine lv_iload_n hx hb dX12_keep_16 rfl (lv_at hl 3 rfl) ?_
  refine lv_bipush (v := 24) hx hb dX12_keep_17 (by decide) ?_
  refine lv_bipush (v := 8) hx hb dX12_keep_19 (by decide) ?_
  refine lv_iload_n hx hb dX12_keep_21 rfl (lv_at hl 0 rfl) ?_
  refine lv_imul hx hb dX12_keep_22 ?_
  refine lv_topi (fun v24 ev24 => ?_)
  have ev24 : v24 = 24 := ev24.trans (by decide +kernel)
  subst ev24
  refine lv_isub hx hb dX12_keep_23 ?_
  refine lv_topi (fun v25 ev25 => ?_)
  have ev25 : v25 = 0 := ev25.trans (by decide +kernel)
  subst ev25
  refine lv_iushr (v := zu (-1533699813 : Int32) (0 : Int32)) hx hb dX12_keep_24 rfl ?_
  refine lv_topi (fun v26 ev26 => ?_)
  have ev26 : v26 = -1533699813 := ev26.trans (by decide +kernel)
  subst ev26
  refine lv_sipush (v := 255) hx hb dX12_keep_25 (by decide) ?_
  refine lv_iand hx hb dX12_keep_28 ?_
  refine lv_topi (fun v27 ev27 => ?_)
  have ev27 : v27 = 27 := ev27.trans (by decide +kernel)
  subst ev27
  refine va_iast hx hb hK hP hD hS 1 1 rfl rfl (by unfold vp_in; decide) dX12_keep_29 (fun H locs hP hD hS => ?_)
  have hP : va_P D vwCl [(h0, .inr (16, [w1, w2, w3, w4, w5, w6, w7, w8, w9, w10, w11, w12, w13, w14, w15, w16, .ref dg, w17, w18, w19, w20, w21, w22, w23, w24, w25, w26, w27, w28, w29, w30, w31, w32, w33, w34, w35, w36, w37, w38, w39, w40, w41, w42, w43, w44, w45, w46, w47, w48, w49, w50, w51, w52, w53, w54, w55, w56, w57, w58, w59, w60, w61, w62, w63])), (dg, .inl (y 1, 32, .inl (upd (zf tO2 27 f) (nI 27).toNatClampNeg (27 : Int32))))] H := hP
  have hD : va_D A [(h0, .inr (16, [w1, w2, w3, w4, w5, w6, w7, w8, w9, w10, w11, w12, w13, w14, w15, w16, .ref dg, w17, w18, w19, w20, w21, w22, w23, w24, w25, w26, w27, w28, w29, w30, w31, w32, w33, w34, w35, w36, w37, w38, w39, w40, w41, w42, w43, w44, w45, w46, w47, w48, w49, w50, w51, w52, w53, w54, w55, w56, w57, w58, w59, w60, w61, w62, w63])), (dg, .inl (y 1, 32, .inl (upd (zf tO2 27 f) (nI 27).toNatClampNeg (27 : Int32))))] := hD
  have u28 : upd (zf tO2 27 f) (nI 27).toNatClampNeg (27 : Int32) = zf tO2 28 f := (zf_st (n := 27) (by decide) (by decide +kernel))
  rw [u28] at hP hD
  have hP : va_P D vwCl [(h0, .inr (16, [w1, w2, w3, w4, w5, w6, w7, w8, w9, w10, w11, w12, w13, w14, w15, w16, .ref dg, w17, w18, w19, w20, w21, w22, w23, w24, w25, w26, w27, w28, w29, w30, w31, w32, w33, w34, w35, w36, w37, w38, w39, w40, w41, w42, w43, w44, w45, w46, w47, w48, w49, w50, w51, w52, w53, w54, w55, w56, w57, w58, w59, w60, w61, w62, w63])), (dg, .inl (y 1, 32, .inl (zf tO2 28 f)))] H := hP
  have hD : va_D A [(h0, .inr (16, [w1, w2, w3, w4, w5, w6, w7, w8, w9, w10, w11, w12, w13, w14, w15, w16, .ref dg, w17, w18, w19, w20, w21, w22, w23, w24, w25, w26, w27, w28, w29, w30, w31, w32, w33, w34, w35, w36, w37, w38, w39, w40, w41, w42, w43, w44, w45, w46, w47, w48, w49, w50, w51, w52, w53, w54, w55, w56, w57, w58, w59, w60, w61, w62, w63])), (dg, .inl (y 1, 32, .inl (zf tO2 28 f)))] := hD
  refine lv_iinc (v := 4) (lv' := [(3, .int 4), (0, .ref h0), (1, .int 6), (2, .int (-1533699813))]) hx hb dX12_keep_30 hl (k := 0) rfl (by decide) (by decide) rfl (fun ls hl => ?_)
  refine lv_goto (tgt := 2) hx hb dX12_keep_33 (by decide) ?_
  refine lv_iload_n hx hb dX12_keep_2 rfl (lv_at hl 0 rfl) ?_
  refine lv_iconst (v := 4) hx hb dX12_keep_3 (by decide) ?_
  refine lv_icmp_ge (tgt := 36) hx hb dX12_keep_4 (by decide) (fun _ => ?_) (fun c9 => absurd (by decide) c9)
  have hP9 := hP.sub (ws' := [(h0, .inr (16, [w1, w2, w3, w4, w5, w6, w7, w8, w9, w10, w11, w12, w13, w14, w15, w16, .ref dg, w17, w18, w19, w20, w21, w22, w23, w24, w25, w26, w27, w28, w29, w30, w31, w32, w33, w34, w35, w36, w37, w38, w39, w40, w41, w42, w43, w44, w45, w46, w47, w48, w49, w50, w51, w52, w53, w54, w55, w56, w57, w58, w59, w60, w61, w62, w63])), (dg, .inl (y 1, 32, .inl (zf tO2 28 f)))]) [0, 1] rfl
  have hD9 := hD.sub (ws' := [(h0, .inr (16, [w1, w2, w3, w4, w5, w6, w7, w8, w9, w10, w11, w12, w13, w14, w15, w16, .ref dg, w17, w18, w19, w20, w21, w22, w23, w24, w25, w26, w27, w28, w29, w30, w31, w32, w33, w34, w35, w36, w37, w38, w39, w40, w41, w42, w43, w44, w45, w46, w47, w48, w49, w50, w51, w52, w53, w54, w55, w56, w57, w58, w59, w60, w61, w62, w63])), (dg, .inl (y 1, 32, .inl (zf tO2 28 f)))]) [0, 1] (by decide) rfl
  refine W.widen (k := 0) (n := 0) (Nat.le_of_ble_eq_true rfl) (Nat.le_of_ble_eq_true rfl) ?_
  exact W.vret hx hb hr (fun t ht hW => ⟨⟨(), rfl, trivial, by rw [ht]; exact hP9, hD9⟩, hS.F ht⟩) hS.2.2 dX12_keep_36
def wz_c_M_keep_2_7 : List Cond := .code yX12_keep cX12_keep 4 none :: ([.fieldLink RX12 43 "SignetRingModel" "digest" "[I"] ++ (wsX120 ++ ([])))
set_option maxHeartbeats 4000000 in
set_option maxRecDepth 100000 in
theorem c_M_keep_2_7 (l : Launch) (D : va_G) (y : Nat → ClassId) (sz : Nat) (h0 : Nat) (dg : Nat) (w1 : Value) (w2 : Value) (w3 : Value) (w4 : Value) (w5 : Value) (w6 : Value) (w7 : Value) (w8 : Value) (w9 : Value) (w10 : Value) (w11 : Value) (w12 : Value) (w13 : Value) (w14 : Value) (w15 : Value) (w16 : Value) (w17 : Value) (w18 : Value) (w19 : Value) (w20 : Value) (w21 : Value) (w22 : Value) (w23 : Value) (w24 : Value) (w25 : Value) (w26 : Value) (w27 : Value) (w28 : Value) (w29 : Value) (w30 : Value) (w31 : Value) (w32 : Value) (w33 : Value) (w34 : Value) (w35 : Value) (w36 : Value) (w37 : Value) (w38 : Value) (w39 : Value) (w40 : Value) (w41 : Value) (w42 : Value) (w43 : Value) (w44 : Value) (w45 : Value) (w46 : Value) (w47 : Value) (w48 : Value) (w49 : Value) (w50 : Value) (w51 : Value) (w52 : Value) (w53 : Value) (w54 : Value) (w55 : Value) (w56 : Value) (w57 : Value) (w58 : Value) (w59 : Value) (w60 : Value) (w61 : Value) (w62 : Value) (w63 : Value) (f : Nat → Int32) : Met l yX12_keep wz_c_M_keep_2_7 ({ frames := 0, cells := 0, slots := 0, locals := 0 }) (va_Pc [.ref h0, .int 7, .int 2018687061] (zB D y [(h0, .inr (16, [w1, w2, w3, w4, w5, w6, w7, w8, w9, w10, w11, w12, w13, w14, w15, w16, .ref dg, w17, w18, w19, w20, w21, w22, w23, w24, w25, w26, w27, w28, w29, w30, w31, w32, w33, w34, w35, w36, w37, w38, w39, w40, w41, w42, w43, w44, w45, w46, w47, w48, w49, w50, w51, w52, w53, w54, w55, w56, w57, w58, w59, w60, w61, w62, w63])), (dg, .inl (y 1, 32, .inl (zf tO2 28 f)))] sz [] [] [] [])) (va_Qv (fun _ : Unit => True) (fun _ t => va_P D vwCl [(h0, .inr (16, [w1, w2, w3, w4, w5, w6, w7, w8, w9, w10, w11, w12, w13, w14, w15, w16, .ref dg, w17, w18, w19, w20, w21, w22, w23, w24, w25, w26, w27, w28, w29, w30, w31, w32, w33, w34, w35, w36, w37, w38, w39, w40, w41, w42, w43, w44, w45, w46, w47, w48, w49, w50, w51, w52, w53, w54, w55, w56, w57, w58, w59, w60, w61, w62, w63])), (dg, .inl (y 1, 32, .inl (zf tO2 32 f)))] t.heap ∧ va_D (va_A [(h0, .inr (16, [w1, w2, w3, w4, w5, w6, w7, w8, w9, w10, w11, w12, w13, w14, w15, w16, .ref dg, w17, w18, w19, w20, w21, w22, w23, w24, w25, w26, w27, w28, w29, w30, w31, w32, w33, w34, w35, w36, w37, w38, w39, w40, w41, w42, w43, w44, w45, w46, w47, w48, w49, w50, w51, w52, w53, w54, w55, w56, w57, w58, w59, w60, w61, w62, w63])), (dg, .inl (y 1, 32, .inl (zf tO2 28 f)))] sz) [(h0, .inr (16, [w1, w2, w3, w4, w5, w6, w7, w8, w9, w10, w11, w12, w13, w14, w15, w16, .ref dg, w17, w18, w19, w20, w21, w22, w23, w24, w25, w26, w27, w28, w29, w30, w31, w32, w33, w34, w35, w36, w37, w38, w39, w40, w41, w42, w43, w44, w45, w46, w47, w48, w49, w50, w51, w52, w53, w54, w55, w56, w57, w58, w59, w60, w61, w62, w63])), (dg, .inl (y 1, 32, .inl (zf tO2 32 f)))]) (va_A [(h0, .inr (16, [w1, w2, w3, w4, w5, w6, w7, w8, w9, w10, w11, w12, w13, w14, w15, w16, .ref dg, w17, w18, w19, w20, w21, w22, w23, w24, w25, w26, w27, w28, w29, w30, w31, w32, w33, w34, w35, w36, w37, w38, w39, w40, w41, w42, w43, w44, w45, w46, w47, w48, w49, w50, w51, w52, w53, w54, w55, w56, w57, w58, w59, w60, w61, w62, w63])), (dg, .inl (y 1, 32, .inl (zf tO2 28 f)))] sz)) 0 0 (va_A [(h0, .inr (16, [w1, w2, w3, w4, w5, w6, w7, w8, w9, w10, w11, w12, w13, w14, w15, w16, .ref dg, w17, w18, w19, w20, w21, w22, w23, w24, w25, w26, w27, w28, w29, w30, w31, w32, w33, w34, w35, w36, w37, w38, w39, w40, w41, w42, w43, w44, w45, w46, w47, w48, w49, w50, w51, w52, w53, w54, w55, w56, w57, w58, w59, w60, w61, w62, w63])), (dg, .inl (y 1, 32, .inl (zf tO2 28 f)))] sz) := by
  refine Met.ofW (cc := cX12_keep) (maxL := 4) (ret := none) (by decide) rfl ?_
  intro p e s m args below meth c s₁ B hml hv
  obtain ⟨rfl, hsz, hP, hK, hD0, hN, hE, hO, hT, hG⟩ := hv
  have hx := B.exec
  have hb := B.bytes
  have hr := B.returns
  have hts := atoms_spec (ws := wz_c_M_keep_2_7) B.pre
  have hown : s.vm.findClass RX12 = some m.cls := findClass_of_methodNamed B.named
  have hlocks := B.notSynchronized
  subst hsz
  have hD := hD0.self (sz := s.heap.size)
  generalize hAe : va_A [(h0, .inr (16, [w1, w2, w3, w4, w5, w6, w7, w8, w9, w10, w11, w12, w13, w14, w15, w16, .ref dg, w17, w18, w19, w20, w21, w22, w23, w24, w25, w26, w27, w28, w29, w30, w31, w32, w33, w34, w35, w36, w37, w38, w39, w40, w41, w42, w43, w44, w45, w46, w47, w48, w49, w50, w51, w52, w53, w54, w55, w56, w57, w58, w59, w60, w61, w62, w63])), (dg, .inl (y 1, 32, .inl (zf tO2 28 f)))] s.heap.size = A at hD hE hT hG ⊢
  have hA : ∀ q : Nat, s.heap.size ≤ q → A q := fun q h => by rw [← hAe]; exact Or.inr h
  have hS : va_S A s.heap s.heap [] := va_S.rf
  have hl := lv_entry ([.ref h0, .int 7, .int 2018687061]) (n := 4) (Nat.le_of_ble_eq_true rfl)
  rw [lg_entry_eq]
  generalize (lg_sl ([.ref h0, .int 7, .int 2018687061]) ++ List.replicate (4 - (lg_sl ([.ref h0, .int 7, .int 2018687061])).length) Slot.unset).toArray = ls at hl ⊢
  have hl : lv_has ls 4 [(0, .ref h0), (1, .int 7), (2, .int 2018687061)] := hl
  refine lv_iconst (v := 0) hx hb dX12_keep_0 (by decide) ?_
  refine lv_istore_n (lv' := [(3, .int 0), (0, .ref h0), (1, .int 7), (2, .int 2018687061)]) hx hb dX12_keep_1 rfl hl (by decide) rfl (fun ls hl => ?_)
  refine lv_iload_n hx hb dX12_keep_2 rfl (lv_at hl 0 rfl) ?_
  refine lv_iconst (v := 4) hx hb dX12_keep_3 (by decide) ?_
  refine lv_icmp_ge (tgt := 36) hx hb dX12_keep_4 (by decide) (fun c9 => absurd c9 (by decide)) (fun _ => ?_)
  refine lv_aload_n hx hb dX12_keep_7 rfl (lv_at hl 1 rfl) ?_
  refine va_get (D := D) (ci := 16) (v := .ref dg) (C := RX12) (T := TX12) (N := 64) hx hb hts (by decide +kernel) hown hK hP 0 rfl rfl 16 (by decide) (hts (.fieldLink RX12 43 "SignetRingModel" "digest" "[I") (by decide +kernel)) (fun _ h9 => h9) rfl dX12_keep_8 ?_
  refine lv_iconst (v := 4) hx hb dX12_keep_11 (by decide) ?_
  refine lv_iload_n hx hb dX12_keep_12 rfl (lv_at hl 2 rfl) ?_
  refine lv_imul hx hb dX12_keep_13 ?_
  refine lv_topi (fun v1 ev1 => ?_)
  have ev1 : v1 = 28 := ev1.trans (by decide +kernel)
  subst ev1
  refine lv_iload_n hx hb dX12_keep_14 rfl (lv_at hl 0 rfl) ?_
  refine lv_iadd hx hb dX12_keep_15 ?_
  refine lv_topi (fun v2 ev2 => ?_)
  have ev2 : v2 = 28 := ev2.trans (by decide +kernel)
  subst ev2
  refine lv_iload_n hx hb dX12_keep_16 rfl (lv_at hl 3 rfl) ?_
  refine lv_bipush (v := 24) hx hb dX12_keep_17 (by decide) ?_
  refine lv_bipush (v := 8) hx hb dX12_keep_19 (by decide) ?_
  refine lv_iload_n hx hb dX12_keep_21 rfl (lv_at hl 0 rfl) ?_
  refine lv_imul hx hb dX12_keep_22 ?_
  refine lv_topi (fun v3 ev3 => ?_)
  have ev3 : v3 = 0 := ev3.trans (by decide +kernel)
  subst ev3
  refine lv_isub hx hb dX12_keep_23 ?_
  refine lv_topi (fun v4 ev4 => ?_)
  have ev4 : v4 = 24 := ev4.trans (by decide +kernel)
  subst ev4
  refine lv_iushr (v := zu (2018687061 : Int32) (24 : Int32)) hx hb dX12_keep_24 rfl ?_
  refine lv_topi (fun v5 ev5 => ?_)
  have ev5 : v5 = 120 := ev5.trans (by decide +kernel)
  subst ev5
  refine lv_sipush (v := 255) hx hb dX12_keep_25 (by decide) ?_
  refine lv_iand hx hb dX12_keep_28 ?_
  refine lv_topi (fun v6 ev6 => ?_)
  have ev6 : v6 = 120 := ev6.trans (by decide +kernel)
  subst ev6
  refine va_iast hx hb hK hP hD hS 1 1 rfl rfl (by unfold vp_in; decide) dX12_keep_29 (fun H locs hP hD hS => ?_)
  have hP : va_P D vwCl [(h0, .inr (16, [w1, w2, w3, w4, w5, w6, w7, w8, w9, w10, w11, w12, w13, w14, w15, w16, .ref dg, w17, w18, w19, w20, w21, w22, w23, w24, w25, w26, w27, w28, w29, w30, w31, w32, w33, w34, w35, w36, w37, w38, w39, w40, w41, w42, w43, w44, w45, w46, w47, w48, w49, w50, w51, w52, w53, w54, w55, w56, w57, w58, w59, w60, w61, w62, w63])), (dg, .inl (y 1, 32, .inl (upd (zf tO2 28 f) (nI 28).toNatClampNeg (120 : Int32))))] H := hP
  have hD : va_D A [(h0, .inr (16, [w1, w2, w3, w4, w5, w6, w7, w8, w9, w10, w11, w12, w13, w14, w15, w16, .ref dg, w17, w18, w19, w20, w21, w22, w23, w24, w25, w26, w27, w28, w29, w30, w31, w32, w33, w34, w35, w36, w37, w38, w39, w40, w41, w42, w43, w44, w45, w46, w47, w48, w49, w50, w51, w52, w53, w54, w55, w56, w57, w58, w59, w60, w61, w62, w63])), (dg, .inl (y 1, 32, .inl (upd (zf tO2 28 f) (nI 28).toNatClampNeg (120 : Int32))))] := hD
  have u7 : upd (zf tO2 28 f) (nI 28).toNatClampNeg (120 : Int32) = zf tO2 29 f := (zf_st (n := 28) (by decide) (by decide +kernel))
  rw [u7] at hP hD
  have hP : va_P D vwCl [(h0, .inr (16, [w1, w2, w3, w4, w5, w6, w7, w8, w9, w10, w11, w12, w13, w14, w15, w16, .ref dg, w17, w18, w19, w20, w21, w22, w23, w24, w25, w26, w27, w28, w29, w30, w31, w32, w33, w34, w35, w36, w37, w38, w39, w40, w41, w42, w43, w44, w45, w46, w47, w48, w49, w50, w51, w52, w53, w54, w55, w56, w57, w58, w59, w60, w61, w62, w63])), (dg, .inl (y 1, 32, .inl (zf tO2 29 f)))] H := hP
  have hD : va_D A [(h0, .inr (16, [w1, w2, w3, w4, w5, w6, w7, w8, w9, w10, w11, w12, w13, w14, w15, w16, .ref dg, w17, w18, w19, w20, w21, w22, w23, w24, w25, w26, w27, w28, w29, w30, w31, w32, w33, w34, w35, w36, w37, w38, w39, w40, w41, w42, w43, w44, w45, w46, w47, w48, w49, w50, w51, w52, w53, w54, w55, w56, w57, w58, w59, w60, w61, w62, w63])), (dg, .inl (y 1, 32, .inl (zf tO2 29 f)))] := hD
  refine lv_iinc (v := 1) (lv' := [(3, .int 1), (0, .ref h0), (1, .int 7), (2, .int 2018687061)]) hx hb dX12_keep_30 hl (k := 0) rfl (by decide) (by decide) rfl (fun ls hl => ?_)
  refine lv_goto (tgt := 2) hx hb dX12_keep_33 (by decide) ?_
  refine lv_iload_n hx hb dX12_keep_2 rfl (lv_at hl 0 rfl) ?_
  refine lv_iconst (v := 4) hx hb dX12_keep_3 (by decide) ?_
  refine lv_icmp_ge (tgt := 36) hx hb dX12_keep_4 (by decide) (fun c9 => absurd c9 (by decide)) (fun _ => ?_)
  refine lv_aload_n hx hb dX12_keep_7 rfl (lv_at hl 1 rfl) ?_
  refine va_get (D := D) (ci := 16) (v := .ref dg) (C := RX12) (T := TX12) (N := 64) hx hb hts (by decide +kernel) hown hK hP 0 rfl rfl 16 (by decide) (hts (.fieldLink RX12 43 "SignetRingModel" "digest" "[I") (by decide +kernel)) (fun _ h9 => h9) rfl dX12_keep_8 ?_
  refine lv_iconst (v := 4) hx hb dX12_keep_11 (by decide) ?_
  refine lv_iload_n hx hb dX12_keep_12 rfl (lv_at hl 2 rfl) ?_
  refine lv_imul hx hb dX12_keep_13 ?_
  refine lv_topi (fun v8 ev8 => ?_)
  have ev8 : v8 = 28 := ev8.trans (by decide +kernel)
  subst ev8
  refine lv_iload_n hx hb dX12_keep_14 rfl (lv_at hl 0 rfl) ?_
  refine lv_iadd hx hb dX12_keep_15 ?_
  refine lv_topi (fun v9 ev9 => ?_)
  have ev9 : v9 = 29 := ev9.trans (by decide +kernel)
  subst ev9
  refine lv_iload_n hx hb dX12_keep_16 rfl (lv_at hl 3 rfl) ?_
  refine lv_bipush (v := 24) hx hb dX12_keep_17 (by decide) ?_
  refine lv_bipush (v := 8) hx hb dX12_keep_19 (by decide) ?_
  refine lv_iload_n hx hb dX12_keep_21 rfl (lv_at hl 0 rfl) ?_
  refine lv_imul hx hb dX12_keep_22 ?_
  refine lv_topi (fun v10 ev10 => ?_)
  have ev10 : v10 = 8 := ev10.trans (by decide +kernel)
  subst ev10
  refine lv_isub hx hb dX12_keep_23 ?_
  refine lv_topi (fun v11 ev11 => ?_)
  have ev11 : v11 = 16 := ev11.trans (by decide +kernel)
  subst ev11
  refine lv_iushr (v := zu (2018687061 : Int32) (16 : Int32)) hx hb dX12_keep_24 rfl ?_
  refine lv_topi (fun v12 ev12 => ?_)
  have ev12 : v12 = 30802 := ev12.trans (by decide +kernel)
  subst ev12
  refine lv_sipush (v := 255) hx hb dX12_keep_25 (by decide) ?_
  refine lv_iand hx hb dX12_keep_28 ?_
  refine lv_topi (fun v13 ev13 => ?_)
  have ev13 : v13 = 82 := ev13.trans (by decide +kernel)
  subst ev13
  refine va_iast hx hb hK hP hD hS 1 1 rfl rfl (by unfold vp_in; decide) dX12_keep_29 (fun H locs hP hD hS => ?_)
  have hP : va_P D vwCl [(h0, .inr (16, [w1, w2, w3, w4, w5, w6, w7, w8, w9, w10, w11, w12, w13, w14, w15, w16, .ref dg, w17, w18, w19, w20, w21, w22, w23, w24, w25, w26, w27, w28, w29, w30, w31, w32, w33, w34, w35, w36, w37, w38, w39, w40, w41, w42, w43, w44, w45, w46, w47, w48, w49, w50, w51, w52, w53, w54, w55, w56, w57, w58, w59, w60, w61, w62, w63])), (dg, .inl (y 1, 32, .inl (upd (zf tO2 29 f) (nI 29).toNatClampNeg (82 : Int32))))] H := hP
  have hD : va_D A [(h0, .inr (16, [w1, w2, w3, w4, w5, w6, w7, w8, w9, w10, w11, w12, w13, w14, w15, w16, .ref dg, w17, w18, w19, w20, w21, w22, w23, w24, w25, w26, w27, w28, w29, w30, w31, w32, w33, w34, w35, w36, w37, w38, w39, w40, w41, w42, w43, w44, w45, w46, w47, w48, w49, w50, w51, w52, w53, w54, w55, w56, w57, w58, w59, w60, w61, w62, w63])), (dg, .inl (y 1, 32, .inl (upd (zf tO2 29 f) (nI 29).toNatClampNeg (82 : Int32))))] := hD
  have u14 : upd (zf tO2 29 f) (nI 29).toNatClampNeg (82 : Int32) = zf tO2 30 f := (zf_st (n := 29) (by decide) (by decide +kernel))
  rw [u14] at hP hD
  have hP : va_P D vwCl [(h0, .inr (16, [w1, w2, w3, w4, w5, w6, w7, w8, w9, w10, w11, w12, w13, w14, w15, w16, .ref dg, w17, w18, w19, w20, w21, w22, w23, w24, w25, w26, w27, w28, w29, w30, w31, w32, w33, w34, w35, w36, w37, w38, w39, w40, w41, w42, w43, w44, w45, w46, w47, w48, w49, w50, w51, w52, w53, w54, w55, w56, w57, w58, w59, w60, w61, w62, w63])), (dg, .inl (y 1, 32, .inl (zf tO2 30 f)))] H := hP
  have hD : va_D A [(h0, .inr (16, [w1, w2, w3, w4, w5, w6, w7, w8, w9, w10, w11, w12, w13, w14, w15, w16, .ref dg, w17, w18, w19, w20, w21, w22, w23, w24, w25, w26, w27, w28, w29, w30, w31, w32, w33, w34, w35, w36, w37, w38, w39, w40, w41, w42, w43, w44, w45, w46, w47, w48, w49, w50, w51, w52, w53, w54, w55, w56, w57, w58, w59, w60, w61, w62, w63])), (dg, .inl (y 1, 32, .inl (zf tO2 30 f)))] := hD
  refine lv_iinc (v := 2) (lv' := [(3, .int 2), (0, .ref h0), (1, .int 7), (2, .int 2018687061)]) hx hb dX12_keep_30 hl (k := 0) rfl (by decide) (by decide) rfl (fun ls hl => ?_)
  refine lv_goto (tgt := 2) hx hb dX12_keep_33 (by decide) ?_
  refine lv_iload_n hx hb dX12_keep_2 rfl (lv_at hl 0 rfl) ?_
  refine lv_iconst (v := 4) hx hb dX12_keep_3 (by decide) ?_
  refine lv_icmp_ge (tgt := 36) hx hb dX12_keep_4 (by decide) (fun c9 => absurd c9 (by decide)) (fun _ => ?_)
  refine lv_aload_n hx hb dX12_keep_7 rfl (lv_at hl 1 rfl) ?_
  refine va_get (D := D) (ci := 16) (v := .ref dg) (C := RX12) (T := TX12) (N := 64) hx hb hts (by decide +kernel) hown hK hP 0 rfl rfl 16 (by decide) (hts (.fieldLink RX12 43 "SignetRingModel" "digest" "[I") (by decide +kernel)) (fun _ h9 => h9) rfl dX12_keep_8 ?_
  refine lv_iconst (v := 4) hx hb dX12_keep_11 (by decide) ?_
  refine lv_iload_n hx hb dX12_keep_12 rfl (lv_at hl 2 rfl) ?_
  refine lv_imul hx hb dX12_keep_13 ?_
  refine lv_topi (fun v15 ev15 => ?_)
  have ev15 : v15 = 28 := ev15.trans (by decide +kernel)
  subst ev15
  refine lv_iload_n hx hb dX12_keep_14 rfl (lv_at hl 0 rfl) ?_
  refine lv_iadd hx hb dX12_keep_15 ?_
  refine lv_topi (fun v16 ev16 => ?_)
  have ev16 : v16 = 30 := ev16.trans (by decide +kernel)
  subst ev16
  refine lv_iload_n hx hb dX12_keep_16 rfl (lv_at hl 3 rfl) ?_
  refine lv_bipush (v := 24) hx hb dX12_keep_17 (by decide) ?_
  refine lv_bipush (v := 8) hx hb dX12_keep_19 (by decide) ?_
  refine lv_iload_n hx hb dX12_keep_21 rfl (lv_at hl 0 rfl) ?_
  refine lv_imul hx hb dX12_keep_22 ?_
  refine lv_topi (fun v17 ev17 => ?_)
  have ev17 : v17 = 16 := ev17.trans (by decide +kernel)
  subst ev17
  refine lv_isub hx hb dX12_keep_23 ?_
  refine lv_topi (fun v18 ev18 => ?_)
  have ev18 : v18 = 8 := ev18.trans (by decide +kernel)
  subst ev18
  refine lv_iushr (v := zu (2018687061 : Int32) (8 : Int32)) hx hb dX12_keep_24 rfl ?_
  refine lv_topi (fun v19 ev19 => ?_)
  have ev19 : v19 = 7885496 := ev19.trans (by decide +kernel)
  subst ev19
  refine lv_sipush (v := 255) hx hb dX12_keep_25 (by decide) ?_
  refine lv_iand hx hb dX12_keep_28 ?_
  refine lv_topi (fun v20 ev20 => ?_)
  have ev20 : v20 = 184 := ev20.trans (by decide +kernel)
  subst ev20
  refine va_iast hx hb hK hP hD hS 1 1 rfl rfl (by unfold vp_in; decide) dX12_keep_29 (fun H locs hP hD hS => ?_)
  have hP : va_P D vwCl [(h0, .inr (16, [w1, w2, w3, w4, w5, w6, w7, w8, w9, w10, w11, w12, w13, w14, w15, w16, .ref dg, w17, w18, w19, w20, w21, w22, w23, w24, w25, w26, w27, w28, w29, w30, w31, w32, w33, w34, w35, w36, w37, w38, w39, w40, w41, w42, w43, w44, w45, w46, w47, w48, w49, w50, w51, w52, w53, w54, w55, w56, w57, w58, w59, w60, w61, w62, w63])), (dg, .inl (y 1, 32, .inl (upd (zf tO2 30 f) (nI 30).toNatClampNeg (184 : Int32))))] H := hP
  have hD : va_D A [(h0, .inr (16, [w1, w2, w3, w4, w5, w6, w7, w8, w9, w10, w11, w12, w13, w14, w15, w16, .ref dg, w17, w18, w19, w20, w21, w22, w23, w24, w25, w26, w27, w28, w29, w30, w31, w32, w33, w34, w35, w36, w37, w38, w39, w40, w41, w42, w43, w44, w45, w46, w47, w48, w49, w50, w51, w52, w53, w54, w55, w56, w57, w58, w59, w60, w61, w62, w63])), (dg, .inl (y 1, 32, .inl (upd (zf tO2 30 f) (nI 30).toNatClampNeg (184 : Int32))))] := hD
  have u21 : upd (zf tO2 30 f) (nI 30).toNatClampNeg (184 : Int32) = zf tO2 31 f := (zf_st (n := 30) (by decide) (by decide +kernel))
  rw [u21] at hP hD
  have hP : va_P D vwCl [(h0, .inr (16, [w1, w2, w3, w4, w5, w6, w7, w8, w9, w10, w11, w12, w13, w14, w15, w16, .ref dg, w17, w18, w19, w20, w21, w22, w23, w24, w25, w26, w27, w28, w29, w30, w31, w32, w33, w34, w35, w36, w37, w38, w39, w40, w41, w42, w43, w44, w45, w46, w47, w48, w49, w50, w51, w52, w53, w54, w55, w56, w57, w58, w59, w60, w61, w62, w63])), (dg, .inl (y 1, 32, .inl (zf tO2 31 f)))] H := hP
  have hD : va_D A [(h0, .inr (16, [w1, w2, w3, w4, w5, w6, w7, w8, w9, w10, w11, w12, w13, w14, w15, w16, .ref dg, w17, w18, w19, w20, w21, w22, w23, w24, w25, w26, w27, w28, w29, w30, w31, w32, w33, w34, w35, w36, w37, w38, w39, w40, w41, w42, w43, w44, w45, w46, w47, w48, w49, w50, w51, w52, w53, w54, w55, w56, w57, w58, w59, w60, w61, w62, w63])), (dg, .inl (y 1, 32, .inl (zf tO2 31 f)))] := hD
  refine lv_iinc (v := 3) (lv' := [(3, .int 3), (0, .ref h0), (1, .int 7), (2, .int 2018687061)]) hx hb dX12_keep_30 hl (k := 0) rfl (by decide) (by decide) rfl (fun ls hl => ?_)
  refine lv_goto (tgt := 2) hx hb dX12_keep_33 (by decide) ?_
  refine lv_iload_n hx hb dX12_keep_2 rfl (lv_at hl 0 rfl) ?_
  refine lv_iconst (v := 4) hx hb dX12_keep_3 (by decide) ?_
  refine lv_icmp_ge (tgt := 36) hx hb dX12_keep_4 (by decide) (fun c9 => absurd c9 (by decide)) (fun _ => ?_)
  refine lv_aload_n hx hb dX12_keep_7 rfl (lv_at hl 1 rfl) ?_
  refine va_get (D := D) (ci := 16) (v := .ref dg) (C := RX12) (T := TX12) (N := 64) hx hb hts (by decide +kernel) hown hK hP 0 rfl rfl 16 (by decide) (hts (.fieldLink RX12 43 "SignetRingModel" "digest" "[I") (by decide +kernel)) (fun _ h9 => h9) rfl dX12_keep_8 ?_
  refine lv_iconst (v := 4) hx hb dX12_keep_11 (by decide) ?_
  refine lv_iload_n hx hb dX12_keep_12 rfl (lv_at hl 2 rfl) ?_
  refine lv_imul hx hb dX12_keep_13 ?_
  refine lv_topi (fun v22 ev22 => ?_)
  have ev22 : v22 = 28 := ev22.trans (by decide +kernel)
  subst ev22
  refine lv_iload_n hx hb dX12_keep_14 rfl (lv_at hl 0 rfl) ?_
  refine lv_iadd hx hb dX12_keep_15 ?_
  refine lv_topi (fun v23 ev23 => ?_)
  have ev23 : v23 = 31 := ev23.trans (by decide +kernel)
  subst ev23
  refine lv_iload_n hx hb dX12_keep_16 rfl (lv_at hl 3 rfl) ?_
  refine lv_bipush (v := 24) hx hb dX12_keep_17 (by decide) ?_
  refine lv_bipush (v := 8) hx hb dX12_keep_19 (by decide) ?_
  refine lv_iload_n hx hb dX12_keep_21 rfl (lv_at hl 0 rfl) ?_
  refine lv_imul hx hb dX12_keep_22 ?_
  refine lv_topi (fun v24 ev24 => ?_)
  have ev24 : v24 = 24 := ev24.trans (by decide +kernel)
  subst ev24
  refine lv_isub hx hb dX12_keep_23 ?_
  refine lv_topi (fun v25 ev25 => ?_)
  have ev25 : v25 = 0 := ev25.trans (by decide +kernel)
  subst ev25
  refine lv_iushr (v := zu (2018687061 : Int32) (0 : Int32)) hx hb dX12_keep_24 rfl ?_
  refine lv_topi (fun v26 ev26 => ?_)
  have ev26 : v26 = 2018687061 := ev26.trans (by decide +kernel)
  subst ev26
  refine lv_sipush (v := 255) hx hb dX12_keep_25 (by decide) ?_
  refine lv_iand hx hb dX12_keep_28 ?_
  refine lv_topi (fun v27 ev27 => ?_)
  have ev27 : v27 = 85 := ev27.trans (by decide +kernel)
  subst ev27
  refine va_iast hx hb hK hP hD hS 1 1 rfl rfl (by unfold vp_in; decide) dX12_keep_29 (fun H locs hP hD hS => ?_)
  have hP : va_P D vwCl [(h0, .inr (16, [w1, w2, w3, w4, w5, w6, w7, w8, w9, w10, w11, w12, w13, w14, w15, w16, .ref dg, w17, w18, w19, w20, w21, w22, w23, w24, w25, w26, w27, w28, w29, w30, w31, w32, w33, w34, w35, w36, w37, w38, w39, w40, w41, w42, w43, w44, w45, w46, w47, w48, w49, w50, w51, w52, w53, w54, w55, w56, w57, w58, w59, w60, w61, w62, w63])), (dg, .inl (y 1, 32, .inl (upd (zf tO2 31 f) (nI 31).toNatClampNeg (85 : Int32))))] H := hP
  have hD : va_D A [(h0, .inr (16, [w1, w2, w3, w4, w5, w6, w7, w8, w9, w10, w11, w12, w13, w14, w15, w16, .ref dg, w17, w18, w19, w20, w21, w22, w23, w24, w25, w26, w27, w28, w29, w30, w31, w32, w33, w34, w35, w36, w37, w38, w39, w40, w41, w42, w43, w44, w45, w46, w47, w48, w49, w50, w51, w52, w53, w54, w55, w56, w57, w58, w59, w60, w61, w62, w63])), (dg, .inl (y 1, 32, .inl (upd (zf tO2 31 f) (nI 31).toNatClampNeg (85 : Int32))))] := hD
  have u28 : upd (zf tO2 31 f) (nI 31).toNatClampNeg (85 : Int32) = zf tO2 32 f := (zf_st (n := 31) (by decide) (by decide +kernel))
  rw [u28] at hP hD
  have hP : va_P D vwCl [(h0, .inr (16, [w1, w2, w3, w4, w5, w6, w7, w8, w9, w10, w11, w12, w13, w14, w15, w16, .ref dg, w17, w18, w19, w20, w21, w22, w23, w24, w25, w26, w27, w28, w29, w30, w31, w32, w33, w34, w35, w36, w37, w38, w39, w40, w41, w42, w43, w44, w45, w46, w47, w48, w49, w50, w51, w52, w53, w54, w55, w56, w57, w58, w59, w60, w61, w62, w63])), (dg, .inl (y 1, 32, .inl (zf tO2 32 f)))] H := hP
  have hD : va_D A [(h0, .inr (16, [w1, w2, w3, w4, w5, w6, w7, w8, w9, w10, w11, w12, w13, w14, w15, w16, .ref dg, w17, w18, w19, w20, w21, w22, w23, w24, w25, w26, w27, w28, w29, w30, w31, w32, w33, w34, w35, w36, w37, w38, w39, w40, w41, w42, w43, w44, w45, w46, w47, w48, w49, w50, w51, w52, w53, w54, w55, w56, w57, w58, w59, w60, w61, w62, w63])), (dg, .inl (y 1, 32, .inl (zf tO2 32 f)))] := hD
  refine lv_iinc (v := 4) (lv' := [(3, .int 4), (0, .ref h0), (1, .int 7), (2, .int 2018687061)]) hx hb dX12_keep_30 hl (k := 0) rfl (by decide) (by decide) rfl (fun ls hl => ?_)
  refine lv_goto (tgt := 2) hx hb dX12_keep_33 (by decide) ?_
  refine lv_iload_n hx hb dX12_keep_2 rfl (lv_at hl 0 rfl) ?_
  refine lv_iconst (v := 4) hx hb dX12_keep_3 (by decide) ?_
  refine lv_icmp_ge (tgt := 36) hx hb dX12_keep_4 (by decide) (fun _ => ?_) (fun c9 => absurd (by decide) c9)
  have hP9 := hP.sub (ws' := [(h0, .inr (16, [w1, w2, w3, w4, w5, w6, w7, w8, w9, w10, w11, w12, w13, w14, w15, w16, .ref dg, w17, w18, w19, w20, w21, w22, w23, w24, w25, w26, w27, w28, w29, w30, w31, w32, w33, w34, w35, w36, w37, w38, w39, w40, w41, w42, w43, w44, w45, w46, w47, w48, w49, w50, w51, w52, w53, w54, w55, w56, w57, w58, w59, w60, w61, w62, w63])), (dg, .inl (y 1, 32, .inl (zf tO2 32 f)))]) [0, 1] rfl
  have hD9 := hD.sub (ws' := [(h0, .inr (16, [w1, w2, w3, w4, w5, w6, w7, w8, w9, w10, w11, w12, w13, w14, w15, w16, .ref dg, w17, w18, w19, w20, w21, w22, w23, w24, w25, w26, w27, w28, w29, w30, w31, w32, w33, w34, w35, w36, w37, w38, w39, w40, w41, w42, w43, w44, w45, w46, w47, w48, w49, w50, w51, w52, w53, w54, w55, w56, w57, w58, w59, w60, w61, w62, w63])), (dg, .inl (y 1, 32, .inl (zf tO2 32 f)))]) [0, 1] (by decide) rfl
  refine W.widen (k := 0) (n := 0) (Nat.le_of_ble_eq_true rfl) (Nat.le_of_ble_eq_true rfl) ?_
  exact W.vret hx hb hr (fun t ht hW => ⟨⟨(), rfl, trivial, by rw [ht]; exact hP9, hD9⟩, hS.F ht⟩) hS.2.2 dX12_keep_36

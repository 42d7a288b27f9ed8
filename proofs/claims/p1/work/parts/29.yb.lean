def wz_c_M_put : List Cond := .code yX12_put cX12_put 2 none :: ([.fieldLink RX12 17 "SignetRingModel" "out" "[I", .fieldLink RX12 602 "SignetRingModel" "outSize" "I"] ++ (wsX120 ++ ([])))
set_option maxHeartbeats 4000000 in
set_option maxRecDepth 100000 in
theorem c_M_put (l : Launch) (D : va_G) (y : Nat → ClassId) (sz : Nat) (h0 : Nat) (ou : Nat) (j : Nat) (w1 : Value) (w2 : Value) (w3 : Value) (w4 : Value) (w5 : Value) (w6 : Value) (w7 : Value) (w8 : Value) (w9 : Value) (w10 : Value) (w11 : Value) (w12 : Value) (w13 : Value) (w14 : Value) (w15 : Value) (w16 : Value) (w17 : Value) (w18 : Value) (w19 : Value) (w20 : Value) (w21 : Value) (w22 : Value) (w23 : Value) (w24 : Value) (w25 : Value) (w26 : Value) (w27 : Value) (w28 : Value) (w29 : Value) (w30 : Value) (w31 : Value) (w32 : Value) (w33 : Value) (w34 : Value) (w35 : Value) (w36 : Value) (w37 : Value) (w38 : Value) (w39 : Value) (w40 : Value) (w41 : Value) (w42 : Value) (w43 : Value) (w44 : Value) (w45 : Value) (w46 : Value) (w47 : Value) (w48 : Value) (w49 : Value) (w50 : Value) (w51 : Value) (w52 : Value) (w53 : Value) (w54 : Value) (w55 : Value) (w56 : Value) (w57 : Value) (w58 : Value) (w59 : Value) (w60 : Value) (w61 : Value) (w62 : Value) (f : Nat → Int32) (b : Int32) (hj : j < 60000) : Met l yX12_put wz_c_M_put ({ frames := 0, cells := 0, slots := 0, locals := 0 }) (va_Pc [.ref h0, .int b] (zB D y [(h0, .inr (16, [w1, w2, w3, w4, .int (nI j), .ref ou, w5, w6, w7, w8, w9, w10, w11, w12, w13, w14, w15, w16, w17, w18, w19, w20, w21, w22, w23, w24, w25, w26, w27, w28, w29, w30, w31, w32, w33, w34, w35, w36, w37, w38, w39, w40, w41, w42, w43, w44, w45, w46, w47, w48, w49, w50, w51, w52, w53, w54, w55, w56, w57, w58, w59, w60, w61, w62])), (ou, .inl (y 1, 60000, .inl f))] sz [] [] [] [])) (va_Qv (fun _ : Unit => True) (fun _ t => va_P D vwCl [(h0, .inr (16, [w1, w2, w3, w4, .int (nI (j + 1)), .ref ou, w5, w6, w7, w8, w9, w10, w11, w12, w13, w14, w15, w16, w17, w18, w19, w20, w21, w22, w23, w24, w25, w26, w27, w28, w29, w30, w31, w32, w33, w34, w35, w36, w37, w38, w39, w40, w41, w42, w43, w44, w45, w46, w47, w48, w49, w50, w51, w52, w53, w54, w55, w56, w57, w58, w59, w60, w61, w62])), (ou, .inl (y 1, 60000, .inl (upd f (nI j).toNatClampNeg (b &&& (255 : Int32)))))] t.heap ∧ va_D (va_A [(h0, .inr (16, [w1, w2, w3, w4, .int (nI j), .ref ou, w5, w6, w7, w8, w9, w10, w11, w12, w13, w14, w15, w16, w17, w18, w19, w20, w21, w22, w23, w24, w25, w26, w27, w28, w29, w30, w31, w32, w33, w34, w35, w36, w37, w38, w39, w40, w41, w42, w43, w44, w45, w46, w47, w48, w49, w50, w51, w52, w53, w54, w55, w56, w57, w58, w59, w60, w61, w62])), (ou, .inl (y 1, 60000, .inl f))] sz) [(h0, .inr (16, [w1, w2, w3, w4, .int (nI (j + 1)), .ref ou, w5, w6, w7, w8, w9, w10, w11, w12, w13, w14, w15, w16, w17, w18, w19, w20, w21, w22, w23, w24, w25, w26, w27, w28, w29, w30, w31, w32, w33, w34, w35, w36, w37, w38, w39, w40, w41, w42, w43, w44, w45, w46, w47, w48, w49, w50, w51, w52, w53, w54, w55, w56, w57, w58, w59, w60, w61, w62])), (ou, .inl (y 1, 60000, .inl (upd f (nI j).toNatClampNeg (b &&& (255 : Int32)))))]) (va_A [(h0, .inr (16, [w1, w2, w3, w4, .int (nI j), .ref ou, w5, w6, w7, w8, w9, w10, w11, w12, w13, w14, w15, w16, w17, w18, w19, w20, w21, w22, w23, w24, w25, w26, w27, w28, w29, w30, w31, w32, w33, w34, w35, w36, w37, w38, w39, w40, w41, w42, w43, w44, w45, w46, w47, w48, w49, w50, w51, w52, w53, w54, w55, w56, w57, w58, w59, w60, w61, w62])), (ou, .inl (y 1, 60000, .inl f))] sz)) 0 0 (va_A [(h0, .inr (16, [w1, w2, w3, w4, .int (nI j), .ref ou, w5, w6, w7, w8, w9, w10, w11, w12, w13, w14, w15, w16, w17, w18, w19, w20, w21, w22, w23, w24, w25, w26, w27, w28, w29, w30, w31, w32, w33, w34, w35, w36, w37, w38, w39, w40, w41, w42, w43, w44, w45, w46, w47, w48, w49, w50, w51, w52, w53, w54, w55, w56, w57, w58, w59, w60, w61, w62])), (ou, .inl (y 1, 60000, .inl f))] sz) := by
  refine Met.ofW (cc := cX12_put) (maxL := 2) (ret := none) (by decide) rfl ?_
  intro p e s m args below meth c s₁ B hml hv
  obtain ⟨rfl, hsz, hP, hK, hD0, hN, hE, hO, hT, hG⟩ := hv
  have hx := B.exec
  have hb := B.bytes
  have hr := B.returns
  have hts := atoms_spec (ws := wz_c_M_put) B.pre
  have hown : s.vm.findClass RX12 = some m.cls := findClass_of_methodNamed B.named
  have hlocks := B.notSynchronized
  subst hsz
  have hD := hD0.self (sz := s.heap.size)
  generalize hAe : va_A [(h0, .inr (16, [w1, w2, w3, w4, .int (nI j), .ref ou, w5, w6, w7, w8, w9, w10, w11, w12, w13, w14, w15, w16, w17, w18, w19, w20, w21, w22, w23, w24, w25, w26, w27, w28, w29, w30, w31, w32, w33, w34, w35, w36, w37, w38, w39, w40, w41, w42, w43, w44, w45, w46, w47, w48, w49, w50, w51, w52, w53, w54, w55, w56, w57, w58, w59, w60, w61, w62])), (ou, .inl (y 1, 60000, .inl f))] s.heap.size = A at hD hE hT hG ⊢
  have hA : ∀ q : Nat, s.heap.size ≤ q → A q := fun q h => by rw [← hAe]; exact Or.inr h
  have hS : va_S A s.heap s.heap [] := va_S.rf
  have hl := lv_entry ([.ref h0, .int b]) (n := 2) (Nat.le_of_ble_eq_true rfl)
  rw [lg_entry_eq]
  generalize (lg_sl ([.ref h0, .int b]) ++ List.replicate (2 - (lg_sl ([.ref h0, .int b])).length) Slot.unset).toArray = ls at hl ⊢
  have hl : lv_has ls 2 [(0, .ref h0), (1, .int b)] := hl
  refine lv_aload_n hx hb dX12_put_0 rfl (lv_at hl 0 rfl) ?_
  refine va_get (D := D) (ci := 16) (v := .ref ou) (C := RX12) (T := TX12) (N := 64) hx hb hts (by decide +kernel) hown hK hP 0 rfl rfl 5 (by decide) (hts (.fieldLink RX12 17 "SignetRingModel" "out" "[I") (by decide +kernel)) (fun _ h9 => h9) rfl dX12_put_1 ?_
  refine lv_aload_n hx hb dX12_put_4 rfl (lv_at hl 0 rfl) ?_
  refine va_get (D := D) (ci := 16) (v := .int (nI j)) (C := RX12) (T := TX12) (N := 64) hx hb hts (by decide +kernel) hown hK hP 0 rfl rfl 4 (by decide) (hts (.fieldLink RX12 602 "SignetRingModel" "outSize" "I") (by decide +kernel)) (fun _ h9 => h9) rfl dX12_put_5 ?_
  refine lv_iload_n hx hb dX12_put_8 rfl (lv_at hl 1 rfl) ?_
  refine lv_sipush (v := 255) hx hb dX12_put_9 (by decide) ?_
  refine lv_iand hx hb dX12_put_12 ?_
  refine va_iast hx hb hK hP hD hS 1 1 rfl rfl (vp_in_nI (by omega) (by decide)) dX12_put_13 (fun H locs hP hD hS => ?_)
  have hP : va_P D vwCl [(h0, .inr (16, [w1, w2, w3, w4, .int (nI j), .ref ou, w5, w6, w7, w8, w9, w10, w11, w12, w13, w14, w15, w16, w17, w18, w19, w20, w21, w22, w23, w24, w25, w26, w27, w28, w29, w30, w31, w32, w33, w34, w35, w36, w37, w38, w39, w40, w41, w42, w43, w44, w45, w46, w47, w48, w49, w50, w51, w52, w53, w54, w55, w56, w57, w58, w59, w60, w61, w62])), (ou, .inl (y 1, 60000, .inl (upd f (nI j).toNatClampNeg (b &&& (255 : Int32)))))] H := hP
  have hD : va_D A [(h0, .inr (16, [w1, w2, w3, w4, .int (nI j), .ref ou, w5, w6, w7, w8, w9, w10, w11, w12, w13, w14, w15, w16, w17, w18, w19, w20, w21, w22, w23, w24, w25, w26, w27, w28, w29, w30, w31, w32, w33, w34, w35, w36, w37, w38, w39, w40, w41, w42, w43, w44, w45, w46, w47, w48, w49, w50, w51, w52, w53, w54, w55, w56, w57, w58, w59, w60, w61, w62])), (ou, .inl (y 1, 60000, .inl (upd f (nI j).toNatClampNeg (b &&& (255 : Int32)))))] := hD
  refine lv_aload_n hx hb dX12_put_14 rfl (lv_at hl 0 rfl) ?_
  refine lv_dup hx hb dX12_put_15 rfl ?_
  refine va_get (D := D) (ci := 16) (v := .int (nI j)) (C := RX12) (T := TX12) (N := 64) hx hb hts (by decide +kernel) hown hK hP 0 rfl rfl 4 (by decide) (hts (.fieldLink RX12 602 "SignetRingModel" "outSize" "I") (by decide +kernel)) (fun _ h9 => h9) rfl dX12_put_16 ?_
  refine lv_iconst (v := 1) hx hb dX12_put_19 (by decide) ?_
  refine lv_iadd hx hb dX12_put_20 ?_
  refine lv_topi (fun v1 ev1 => ?_)
  have ev1 : v1 = nI (j + 1) := ev1.trans (nI_1 j)
  subst ev1
  refine va_put (D := D) (ci := 16) (v := .int (nI (j + 1))) (ty := .int) (C := RX12) (T := TX12) (N := 64) hx hb hts (by decide +kernel) tyX12 tyX12_ok nmX12 hown hK hP hD hS 0 rfl rfl 4 (by decide) (hts (.fieldLink RX12 602 "SignetRingModel" "outSize" "I") (by decide +kernel)) (fun _ h9 => h9) rfl (by decide +kernel) rfl rfl (Nat.le_of_ble_eq_true rfl) dX12_put_21 (fun H locs hP hD hS => ?_)
  have hP : va_P D vwCl [(h0, .inr (16, [w1, w2, w3, w4, .int (nI (j + 1)), .ref ou, w5, w6, w7, w8, w9, w10, w11, w12, w13, w14, w15, w16, w17, w18, w19, w20, w21, w22, w23, w24, w25, w26, w27, w28, w29, w30, w31, w32, w33, w34, w35, w36, w37, w38, w39, w40, w41, w42, w43, w44, w45, w46, w47, w48, w49, w50, w51, w52, w53, w54, w55, w56, w57, w58, w59, w60, w61, w62])), (ou, .inl (y 1, 60000, .inl (upd f (nI j).toNatClampNeg (b &&& (255 : Int32)))))] H := hP
  have hD : va_D A [(h0, .inr (16, [w1, w2, w3, w4, .int (nI (j + 1)), .ref ou, w5, w6, w7, w8, w9, w10, w11, w12, w13, w14, w15, w16, w17, w18, w19, w20, w21, w22, w23, w24, w25, w26, w27, w28, w29, w30, w31, w32, w33, w34, w35, w36, w37, w38, w39, w40, w41, w42, w43, w44, w45, w46, w47, w48, w49, w50, w51, w52, w53, w54, w55, w56, w57, w58, w59, w60, w61, w62])), (ou, .inl (y 1, 60000, .inl (upd f (nI j).toNatClampNeg (b &&& (255 : Int32)))))] := hD
  have hP9 := hP.sub (ws' := [(h0, .inr (16, [w1, w2, w3, w4, .int (nI (j + 1)), .ref ou, w5, w6, w7, w8, w9, w10, w11, w12, w13, w14, w15, w16, w17, w18, w19, w20, w21, w22, w23, w24, w25, w26, w27, w28, w29, w30, w31, w32, w33, w34, w35, w36, w37, w38, w39, w40, w41, w42, w43, w44, w45, w46, w47, w48, w49, w50, w51, w52, w53, w54, w55, w56, w57, w58, w59, w60, w61, w62])), (ou, .inl (y 1, 60000, .inl (upd f (nI j).toNatClampNeg (b &&& (255 : Int32)))))]) [0, 1] rfl
  have hD9 := hD.sub (ws' := [(h0, .inr (16, [w1, w2, w3, w4, .int (nI (j + 1)), .ref ou, w5, w6, w7, w8, w9, w10, w11, w12, w13, w14, w15, w16, w17, w18, w19, w20, w21, w22, w23, w24, w25, w26, w27, w28, w29, w30, w31, w32, w33, w34, w35, w36, w37, w38, w39, w40, w41, w42, w43, w44, w45, w46, w47, w48, w49, w50, w51, w52, w53, w54, w55, w56, w57, w58, w59, w60, w61, w62])), (ou, .inl (y 1, 60000, .inl (upd f (nI j).toNatClampNeg (b &&& (255 : Int32)))))]) [0, 1] (by decide) rfl
  refine W.widen (k := 0) (n := 0) (Nat.le_of_ble_eq_true rfl) (Nat.le_of_ble_eq_true rfl) ?_
  exact W.vret hx hb hr (fun t ht hW => ⟨⟨(), rfl, trivial, by rw [ht]; exact hP9, hD9⟩, hS.F ht⟩) hS.2.2 dX12_put_24
def wz_c_M_putText_27 : List Cond := .code yX12_putText cX12_putText 3 none :: ([.methodLink RX12 210 yJ0_length_8abf5, .instanceMethod yJ0_length_8abf5, .selects RJ0 yJ0_length_8abf5 yJ0_length_8abf5, .initialized RJ0, .methodLink RX12 215 yJ0_charAt_5068e, .instanceMethod yJ0_charAt_5068e, .selects RJ0 yJ0_charAt_5068e yJ0_charAt_5068e, .methodLink RX12 605 yX12_put, .instanceMethod yX12_put, .selects RX12 yX12_put yX12_put, .initialized RX12] ++ (wz_c_len_w_27 ++ (wz_c_chr_w_27 ++ (wz_c_M_put ++ ([])))))
set_option maxRecDepth 100000 in
theorem gz_c_M_putText_27_c_len_w_27 : GoodIn wz_c_M_putText_27 wz_c_len_w_27 := goodIn_sub (fun w h => List.mem_cons_of_mem _ (List.mem_append_right _ (List.mem_append_left _ h))) (by decide +kernel)
set_option maxRecDepth 100000 in
theorem gz_c_M_putText_27_c_chr_w_27 : GoodIn wz_c_M_putText_27 wz_c_chr_w_27 := goodIn_sub (fun w h => List.mem_cons_of_mem _ (List.mem_append_right _ (List.mem_append_right _ (List.mem_append_left _ h)))) (by decide +kernel)
set_option maxRecDepth 100000 in
theorem gz_c_M_putText_27_c_M_put : GoodIn wz_c_M_putText_27 wz_c_M_put := goodIn_sub (fun w h => List.mem_cons_of_mem _ (List.mem_append_right _ (List.mem_append_right _ (List.mem_append_right _ (List.mem_append_left _ h))))) (by decide +kernel)
set_option maxRecDepth 100000 in
theorem gv_c_M_putText_27_c_len_w_27_210 : GoodIn wz_c_M_putText_27 (wsV RX12 210 RJ0 yJ0_length_8abf5 wz_c_len_w_27) := goodIn_app (goodIn_of _ (by decide +kernel)) gz_c_M_putText_27_c_len_w_27
set_option maxRecDepth 100000 in
theorem gv_c_M_putText_27_c_chr_w_27_215 : GoodIn wz_c_M_putText_27 (wsV RX12 215 RJ0 yJ0_charAt_5068e wz_c_chr_w_27) := goodIn_app (goodIn_of _ (by decide +kernel)) gz_c_M_putText_27_c_chr_w_27
set_option maxRecDepth 100000 in
theorem gv_c_M_putText_27_c_M_put_605 : GoodIn wz_c_M_putText_27 (wsV RX12 605 RX12 yX12_put wz_c_M_put) := goodIn_app (goodIn_of _ (by decide +kernel)) gz_c_M_putText_27_c_M_put
set_option maxHeartbeats 4000000 in
set_option maxRecDepth 100000 in
theorem ax_c_M_putText_27_0 : ∀ k1 : Nat, k1 < 27 → 0 ≤ k1 → ¬ (27 : Int32) ≤ (nI k1) := by decide +kernel
set_option maxHeartbeats 4000000 in
set_option maxRecDepth 100000 in
theorem ax_c_M_putText_27_1 : ∀ k1 : Nat, k1 < 27 → 0 ≤ k1 → nI k1 + Int32.ofInt 1 = nI (k1 + 1) := by decide +kernel
set_option maxHeartbeats 4000000 in
set_option maxRecDepth 100000 in
theorem c_M_putText_27 (l : Launch) (D : va_G) (y : Nat → ClassId) (sz : Nat) (h0 : Nat) (ou : Nat) (sg : Nat) (bv : Nat) (j : Nat) (w1 : Value) (w2 : Value) (w3 : Value) (w4 : Value) (w5 : Value) (w6 : Value) (w7 : Value) (w8 : Value) (w9 : Value) (w10 : Value) (w11 : Value) (w12 : Value) (w13 : Value) (w14 : Value) (w15 : Value) (w16 : Value) (w17 : Value) (w18 : Value) (w19 : Value) (w20 : Value) (w21 : Value) (w22 : Value) (w23 : Value) (w24 : Value) (w25 : Value) (w26 : Value) (w27 : Value) (w28 : Value) (w29 : Value) (w30 : Value) (w31 : Value) (w32 : Value) (w33 : Value) (w34 : Value) (w35 : Value) (w36 : Value) (w37 : Value) (w38 : Value) (w39 : Value) (w40 : Value) (w41 : Value) (w42 : Value) (w43 : Value) (w44 : Value) (w45 : Value) (w46 : Value) (w47 : Value) (w48 : Value) (w49 : Value) (w50 : Value) (w51 : Value) (w52 : Value) (w53 : Value) (w54 : Value) (w55 : Value) (w56 : Value) (w57 : Value) (w58 : Value) (w59 : Value) (w60 : Value) (w61 : Value) (w62 : Value) (w63 : Value) (w64 : Value) (g : Nat → Int32) (f : Nat → Int32) (hjn : j + 27 ≤ 60000) : Met l yX12_putText wz_c_M_putText_27 ({ frames := 4, cells := 0, slots := 0, locals := 85 }) (va_Pc [.ref h0, .ref sg] (zB D y [(h0, .inr (16, [w1, w2, w3, w4, .int (nI j), .ref ou, w5, w6, w7, w8, w9, w10, w11, w12, w13, w14, w15, w16, w17, w18, w19, w20, w21, w22, w23, w24, w25, w26, w27, w28, w29, w30, w31, w32, w33, w34, w35, w36, w37, w38, w39, w40, w41, w42, w43, w44, w45, w46, w47, w48, w49, w50, w51, w52, w53, w54, w55, w56, w57, w58, w59, w60, w61, w62])), (ou, .inl (y 1, 60000, .inl g)), (sg, .inr (0, [.ref bv, .int 0, w63, w64])), (bv, .inl (y 0, 27, .inl f))] sz [] [("java/lang/String", "COMPACT_STRINGS", "Z", .int 1)] [] [.inr (.inr (.inr (.inr ("jdk/internal/util/Preconditions", "SIOOBE_FORMATTER", "Ljava/util/function/BiFunction;"))))])) (va_Qv (fun _ : Unit => True) (fun _ t => ∃ fz0 : Nat → Int32, va_P D vwCl [(h0, .inr (16, [w1, w2, w3, w4, .int (nI (j + 27)), .ref ou, w5, w6, w7, w8, w9, w10, w11, w12, w13, w14, w15, w16, w17, w18, w19, w20, w21, w22, w23, w24, w25, w26, w27, w28, w29, w30, w31, w32, w33, w34, w35, w36, w37, w38, w39, w40, w41, w42, w43, w44, w45, w46, w47, w48, w49, w50, w51, w52, w53, w54, w55, w56, w57, w58, w59, w60, w61, w62])), (ou, .inl (y 1, 60000, .inl fz0)), (sg, .inr (0, [.ref bv, .int 0, w63, w64])), (bv, .inl (y 0, 27, .inl f))] t.heap ∧ va_D (va_A [(h0, .inr (16, [w1, w2, w3, w4, .int (nI j), .ref ou, w5, w6, w7, w8, w9, w10, w11, w12, w13, w14, w15, w16, w17, w18, w19, w20, w21, w22, w23, w24, w25, w26, w27, w28, w29, w30, w31, w32, w33, w34, w35, w36, w37, w38, w39, w40, w41, w42, w43, w44, w45, w46, w47, w48, w49, w50, w51, w52, w53, w54, w55, w56, w57, w58, w59, w60, w61, w62])), (ou, .inl (y 1, 60000, .inl g)), (sg, .inr (0, [.ref bv, .int 0, w63, w64])), (bv, .inl (y 0, 27, .inl f))] sz) [(h0, .inr (16, [w1, w2, w3, w4, .int (nI (j + 27)), .ref ou, w5, w6, w7, w8, w9, w10, w11, w12, w13, w14, w15, w16, w17, w18, w19, w20, w21, w22, w23, w24, w25, w26, w27, w28, w29, w30, w31, w32, w33, w34, w35, w36, w37, w38, w39, w40, w41, w42, w43, w44, w45, w46, w47, w48, w49, w50, w51, w52, w53, w54, w55, w56, w57, w58, w59, w60, w61, w62])), (ou, .inl (y 1, 60000, .inl fz0)), (sg, .inr (0, [.ref bv, .int 0, w63, w64])), (bv, .inl (y 0, 27, .inl f))]) (va_A [(h0, .inr (16, [w1, w2, w3, w4, .int (nI j), .ref ou, w5, w6, w7, w8, w9, w10, w11, w12, w13, w14, w15, w16, w17, w18, w19, w20, w21, w22, w23, w24, w25, w26, w27, w28, w29, w30, w31, w32, w33, w34, w35, w36, w37, w38, w39, w40, w41, w42, w43, w44, w45, w46, w47, w48, w49, w50, w51, w52, w53, w54, w55, w56, w57, w58, w59, w60, w61, w62])), (ou, .inl (y 1, 60000, .inl g)), (sg, .inr (0, [.ref bv, .int 0, w63, w64])), (bv, .inl (y 0, 27, .inl f))] sz)) 0 0 (va_A [(h0, .inr (16, [w1, w2, w3, w4, .int (nI j), .ref ou, w5, w6, w7, w8, w9, w10, w11, w12, w13, w14, w15, w16, w17, w18, w19, w20, w21, w22, w23, w24, w25, w26, w27, w28, w29, w30, w31, w32, w33, w34, w35, w36, w37, w38, w39, w40, w41, w42, w43, w44, w45, w46, w47, w48, w49, w50, w51, w52, w53, w54, w55, w56, w57, w58, w59, w60, w61, w62])), (ou, .inl (y 1, 60000, .inl g)), (sg, .inr (0, [.ref bv, .int 0, w63, w64])), (bv, .inl (y 0, 27, .inl f))] sz) := by
  refine Met.ofW (cc := cX12_putText) (maxL := 3) (ret := none) (by decide) rfl ?_
  intro p e s m args below meth c s₁ B hml hv
  obtain ⟨rfl, hsz, hP, hK, hD0, hN, hE, hO, hT, hG⟩ := hv
  have hx := B.exec
  have hb := B.bytes
  have hr := B.returns
  have hts := atoms_spec (ws := wz_c_M_putText_27) B.pre
  have hown : s.vm.findClass RX12 = some m.cls := findClass_of_methodNamed B.named
  have hlocks := B.notSynchronized
  subst hsz
  have hD := hD0.self (sz := s.heap.size)
  generalize hAe : va_A [(h0, .inr (16, [w1, w2, w3, w4, .int (nI j), .ref ou, w5, w6, w7, w8, w9, w10, w11, w12, w13, w14, w15, w16, w17, w18, w19, w20, w21, w22, w23, w24, w25, w26, w27, w28, w29, w30, w31, w32, w33, w34, w35, w36, w37, w38, w39, w40, w41, w42, w43, w44, w45, w46, w47, w48, w49, w50, w51, w52, w53, w54, w55, w56, w57, w58, w59, w60, w61, w62])), (ou, .inl (y 1, 60000, .inl g)), (sg, .inr (0, [.ref bv, .int 0, w63, w64])), (bv, .inl (y 0, 27, .inl f))] s.heap.size = A at hD hE hT hG ⊢
  have hA : ∀ q : Nat, s.heap.size ≤ q → A q := fun q h => by rw [← hAe]; exact Or.inr h
  have hS : va_S A s.heap s.heap [] := va_S.rf
  have hl := lv_entry ([.ref h0, .ref sg]) (n := 3) (Nat.le_of_ble_eq_true rfl)
  rw [lg_entry_eq]
  generalize (lg_sl ([.ref h0, .ref sg]) ++ List.replicate (3 - (lg_sl ([.ref h0, .ref sg])).length) Slot.unset).toArray = ls at hl ⊢
  have hl : lv_has ls 3 [(0, .ref h0), (1, .ref sg)] := hl
  refine lv_iconst (v := 0) hx hb dX12_putText_0 (by decide) ?_
  refine lv_istore_n (lv' := [(2, .int 0), (0, .ref h0), (1, .ref sg)]) hx hb dX12_putText_1 rfl hl (by decide) rfl (fun ls hl => ?_)
  have hl : lv_has ls 3 [(2, .int (nI 0)), (0, .ref h0), (1, .ref sg)] := lv_sub hl [0, 1, 2] rfl
  refine zz_loop (I := fun (k1 : Nat) (ls : Array Slot) (H : Heap) (locs : List Loc) => ∃ ge0 : Nat → Int32, va_P D vwCl [(h0, .inr (16, [w1, w2, w3, w4, Value.int (nI (j + k1)), Value.ref ou, w5, w6, w7, w8, w9, w10, w11, w12, w13, w14, w15, w16, w17, w18, w19, w20, w21, w22, w23, w24, w25, w26, w27, w28, w29, w30, w31, w32, w33, w34, w35, w36, w37, w38, w39, w40, w41, w42, w43, w44, w45, w46, w47, w48, w49, w50, w51, w52, w53, w54, w55, w56, w57, w58, w59, w60, w61, w62])), (ou, .inl (y 1, 60000, .inl ge0)), (sg, .inr (0, [Value.ref bv, Value.int 0, w63, w64])), (bv, .inl (y 0, 27, .inl f))] H ∧ va_D A [(h0, .inr (16, [w1, w2, w3, w4, Value.int (nI (j + k1)), Value.ref ou, w5, w6, w7, w8, w9, w10, w11, w12, w13, w14, w15, w16, w17, w18, w19, w20, w21, w22, w23, w24, w25, w26, w27, w28, w29, w30, w31, w32, w33, w34, w35, w36, w37, w38, w39, w40, w41, w42, w43, w44, w45, w46, w47, w48, w49, w50, w51, w52, w53, w54, w55, w56, w57, w58, w59, w60, w61, w62])), (ou, .inl (y 1, 60000, .inl ge0)), (sg, .inr (0, [Value.ref bv, Value.int 0, w63, w64])), (bv, .inl (y 0, 27, .inl f))] ∧ va_S A s.heap H locs ∧ lv_has ls 3 [(2, Value.int (nI k1)), (0, Value.ref h0), (1, Value.ref sg)]) 0 27 (by decide) ⟨_, hP, hD, hS, hl⟩ (fun k1 ls H locs hk10 hk11 hI ih => ?_) (fun ls H locs hI => ?_)
  · obtain ⟨ge0, hP, hD, hS, hl⟩ := hI
    have hl : lv_has ls 3 [(2, .int (nI k1)), (0, .ref h0), (1, .ref sg)] := hl
    have hP : va_P D vwCl [(h0, .inr (16, [w1, w2, w3, w4, .int (nI (j + k1)), .ref ou, w5, w6, w7, w8, w9, w10, w11, w12, w13, w14, w15, w16, w17, w18, w19, w20, w21, w22, w23, w24, w25, w26, w27, w28, w29, w30, w31, w32, w33, w34, w35, w36, w37, w38, w39, w40, w41, w42, w43, w44, w45, w46, w47, w48, w49, w50, w51, w52, w53, w54, w55, w56, w57, w58, w59, w60, w61, w62])), (ou, .inl (y 1, 60000, .inl ge0)), (sg, .inr (0, [.ref bv, .int 0, w63, w64])), (bv, .inl (y 0, 27, .inl f))] H := hP
    have hD : va_D A [(h0, .inr (16, [w1, w2, w3, w4, .int (nI (j + k1)), .ref ou, w5, w6, w7, w8, w9, w10, w11, w12, w13, w14, w15, w16, w17, w18, w19, w20, w21, w22, w23, w24, w25, w26, w27, w28, w29, w30, w31, w32, w33, w34, w35, w36, w37, w38, w39, w40, w41, w42, w43, w44, w45, w46, w47, w48, w49, w50, w51, w52, w53, w54, w55, w56, w57, w58, w59, w60, w61, w62])), (ou, .inl (y 1, 60000, .inl ge0)), (sg, .inr (0, [.ref bv, .int 0, w63, w64])), (bv, .inl (y 0, 27, .inl f))] := hD
    refine lv_iload_n hx hb dX12_putText_2 rfl (lv_at hl 0 rfl) ?_
    refine lv_aload_n hx hb dX12_putText_3 rfl (lv_at hl 2 rfl) ?_
    have hPc := hP.sub (ws' := [(sg, .inr (0, [.ref bv, .int 0, w63, w64])), (bv, .inl (y 0, 27, .inl f))]) [2, 3] rfl
    have hDc := hD.sub (ws' := [(sg, .inr (0, [.ref bv, .int 0, w63, w64])), (bv, .inl (y 0, 27, .inl f))]) [2, 3] (by decide) rfl
    have hFc := va_free (wc := [(sg, .inr (0, [.ref bv, .int 0, w63, w64])), (bv, .inl (y 0, 27, .inl f))]) hD hS hA [2, 3] rfl
    refine va_calli (va_runV (As := []) (rest := [.int (nI k1)]) ⟨hx, hb, hml, hown, hts⟩ (c_len_w_27 l D y H.size sg bv w63 w64 f) (cwV 0 hts gv_c_M_putText_27_c_len_w_27_210 rfl rfl rfl (by decide +kernel) ⟨(Nat.le_of_ble_eq_true rfl), (Nat.le_of_ble_eq_true rfl)⟩) (zB.preV hPc hDc hK hN hE hO hT hG hS hFc (fun _ h => nomatch h) (List.forall_mem_cons.mpr ⟨List.mem_of_getElem? (i := 0) rfl, (fun _ h => nomatch h)⟩) (fun _ h => nomatch h) (fun _ h => nomatch h) (va_recv hK hPc (ci := 0) (q0 := 0) rfl rfl)) rfl rfl hl.1 rfl (lv_room (Nat.le_of_ble_eq_true rfl)) dX12_putText_4 ⟨(Nat.le_of_ble_eq_true rfl), (Nat.le_of_ble_eq_true rfl)⟩) hS (fun q _ h => hFc q h) hFc (fun r1 u t H1 locs ht hvm hw hB hz1 hk1 hS => ?_)
    obtain ⟨hP1, hD1⟩ := hB
    rw [ht] at hP1
    obtain ⟨hP, hD⟩ := va_join (wr := [(h0, .inr (16, [w1, w2, w3, w4, .int (nI (j + k1)), .ref ou, w5, w6, w7, w8, w9, w10, w11, w12, w13, w14, w15, w16, w17, w18, w19, w20, w21, w22, w23, w24, w25, w26, w27, w28, w29, w30, w31, w32, w33, w34, w35, w36, w37, w38, w39, w40, w41, w42, w43, w44, w45, w46, w47, w48, w49, w50, w51, w52, w53, w54, w55, w56, w57, w58, w59, w60, w61, w62])), (ou, .inl (y 1, 60000, .inl ge0))]) (w1 := [(sg, .inr (0, [.ref bv, .int 0, w63, w64])), (bv, .inl (y 0, 27, .inl f))]) hP hD [2, 3] [0, 1] rfl rfl (by decide) (by decide) hk1 hFc hP1 hD1
    generalize H1 = H at hP hS ⊢
    have hP : va_P D vwCl [(h0, .inr (16, [w1, w2, w3, w4, .int (nI (j + k1)), .ref ou, w5, w6, w7, w8, w9, w10, w11, w12, w13, w14, w15, w16, w17, w18, w19, w20, w21, w22, w23, w24, w25, w26, w27, w28, w29, w30, w31, w32, w33, w34, w35, w36, w37, w38, w39, w40, w41, w42, w43, w44, w45, w46, w47, w48, w49, w50, w51, w52, w53, w54, w55, w56, w57, w58, w59, w60, w61, w62])), (ou, .inl (y 1, 60000, .inl ge0)), (sg, .inr (0, [.ref bv, .int 0, w63, w64])), (bv, .inl (y 0, 27, .inl f))] H := hP
    have hD : va_D A [(h0, .inr (16, [w1, w2, w3, w4, .int (nI (j + k1)), .ref ou, w5, w6, w7, w8, w9, w10, w11, w12, w13, w14, w15, w16, w17, w18, w19, w20, w21, w22, w23, w24, w25, w26, w27, w28, w29, w30, w31, w32, w33, w34, w35, w36, w37, w38, w39, w40, w41, w42, w43, w44, w45, w46, w47, w48, w49, w50, w51, w52, w53, w54, w55, w56, w57, w58, w59, w60, w61, w62])), (ou, .inl (y 1, 60000, .inl ge0)), (sg, .inr (0, [.ref bv, .int 0, w63, w64])), (bv, .inl (y 0, 27, .inl f))] := hD
    have hw : r1 = 27 := hw
    subst hw
    refine lv_icmp_ge (tgt := 25) hx hb dX12_putText_7 (by decide) (fun c9 => absurd c9 (ax_c_M_putText_27_0 k1 hk11 hk10)) (fun _ => ?_)
    refine lv_aload_n hx hb dX12_putText_10 rfl (lv_at hl 1 rfl) ?_
    refine lv_aload_n hx hb dX12_putText_11 rfl (lv_at hl 2 rfl) ?_
    refine lv_iload_n hx hb dX12_putText_12 rfl (lv_at hl 0 rfl) ?_
    have hPc := hP.sub (ws' := [(sg, .inr (0, [.ref bv, .int 0, w63, w64])), (bv, .inl (y 0, 27, .inl f))]) [2, 3] rfl
    have hDc := hD.sub (ws' := [(sg, .inr (0, [.ref bv, .int 0, w63, w64])), (bv, .inl (y 0, 27, .inl f))]) [2, 3] (by decide) rfl
    have hFc := va_free (wc := [(sg, .inr (0, [.ref bv, .int 0, w63, w64])), (bv, .inl (y 0, 27, .inl f))]) hD hS hA [2, 3] rfl
    refine va_calli (va_runV (As := [.int (nI k1)]) (rest := [.ref h0]) ⟨hx, hb, hml, hown, hts⟩ (c_chr_w_27 l D y H.size sg bv w63 w64 k1 f (by omega)) (cwV 1 hts gv_c_M_putText_27_c_chr_w_27_215 rfl rfl rfl (by decide +kernel) ⟨(Nat.le_of_ble_eq_true rfl), (Nat.le_of_ble_eq_true rfl)⟩) (zB.preV hPc hDc hK hN hE hO hT hG hS hFc (fun _ h => nomatch h) (List.forall_mem_cons.mpr ⟨List.mem_of_getElem? (i := 0) rfl, (fun _ h => nomatch h)⟩) (fun _ h => nomatch h) (List.forall_mem_cons.mpr ⟨List.mem_of_getElem? (i := 0) rfl, (fun _ h => nomatch h)⟩) (va_recv hK hPc (ci := 0) (q0 := 0) rfl rfl)) rfl rfl hl.1 rfl (lv_room (Nat.le_of_ble_eq_true rfl)) dX12_putText_13 ⟨(Nat.le_of_ble_eq_true rfl), (Nat.le_of_ble_eq_true rfl)⟩) hS (fun q _ h => hFc q h) hFc (fun r2 u t H1 locs ht hvm hw hB hz1 hk1 hS => ?_)
    obtain ⟨hP1, hD1⟩ := hB
    rw [ht] at hP1
    obtain ⟨hP, hD⟩ := va_join (wr := [(h0, .inr (16, [w1, w2, w3, w4, .int (nI (j + k1)), .ref ou, w5, w6, w7, w8, w9, w10, w11, w12, w13, w14, w15, w16, w17, w18, w19, w20, w21, w22, w23, w24, w25, w26, w27, w28, w29, w30, w31, w32, w33, w34, w35, w36, w37, w38, w39, w40, w41, w42, w43, w44, w45, w46, w47, w48, w49, w50, w51, w52, w53, w54, w55, w56, w57, w58, w59, w60, w61, w62])), (ou, .inl (y 1, 60000, .inl ge0))]) (w1 := [(sg, .inr (0, [.ref bv, .int 0, w63, w64])), (bv, .inl (y 0, 27, .inl f))]) hP hD [2, 3] [0, 1] rfl rfl (by decide) (by decide) hk1 hFc hP1 hD1
    generalize H1 = H at hP hS ⊢
    have hP : va_P D vwCl [(h0, .inr (16, [w1, w2, w3, w4, .int (nI (j + k1)), .ref ou, w5, w6, w7, w8, w9, w10, w11, w12, w13, w14, w15, w16, w17, w18, w19, w20, w21, w22, w23, w24, w25, w26, w27, w28, w29, w30, w31, w32, w33, w34, w35, w36, w37, w38, w39, w40, w41, w42, w43, w44, w45, w46, w47, w48, w49, w50, w51, w52, w53, w54, w55, w56, w57, w58, w59, w60, w61, w62])), (ou, .inl (y 1, 60000, .inl ge0)), (sg, .inr (0, [.ref bv, .int 0, w63, w64])), (bv, .inl (y 0, 27, .inl f))] H := hP
    have hD : va_D A [(h0, .inr (16, [w1, w2, w3, w4, .int (nI (j + k1)), .ref ou, w5, w6, w7, w8, w9, w10, w11, w12, w13, w14, w15, w16, w17, w18, w19, w20, w21, w22, w23, w24, w25, w26, w27, w28, w29, w30, w31, w32, w33, w34, w35, w36, w37, w38, w39, w40, w41, w42, w43, w44, w45, w46, w47, w48, w49, w50, w51, w52, w53, w54, w55, w56, w57, w58, w59, w60, w61, w62])), (ou, .inl (y 1, 60000, .inl ge0)), (sg, .inr (0, [.ref bv, .int 0, w63, w64])), (bv, .inl (y 0, 27, .inl f))] := hD
    have hw : r2 = (f (nI k1).toNatClampNeg) &&& (255 : Int32) := hw
    subst hw
    have hPc := hP.sub (ws' := [(h0, .inr (16, [w1, w2, w3, w4, .int (nI (j + k1)), .ref ou, w5, w6, w7, w8, w9, w10, w11, w12, w13, w14, w15, w16, w17, w18, w19, w20, w21, w22, w23, w24, w25, w26, w27, w28, w29, w30, w31, w32, w33, w34, w35, w36, w37, w38, w39, w40, w41, w42, w43, w44, w45, w46, w47, w48, w49, w50, w51, w52, w53, w54, w55, w56, w57, w58, w59, w60, w61, w62])), (ou, .inl (y 1, 60000, .inl ge0))]) [0, 1] rfl
    have hDc := hD.sub (ws' := [(h0, .inr (16, [w1, w2, w3, w4, .int (nI (j + k1)), .ref ou, w5, w6, w7, w8, w9, w10, w11, w12, w13, w14, w15, w16, w17, w18, w19, w20, w21, w22, w23, w24, w25, w26, w27, w28, w29, w30, w31, w32, w33, w34, w35, w36, w37, w38, w39, w40, w41, w42, w43, w44, w45, w46, w47, w48, w49, w50, w51, w52, w53, w54, w55, w56, w57, w58, w59, w60, w61, w62])), (ou, .inl (y 1, 60000, .inl ge0))]) [0, 1] (by decide) rfl
    have hFc := va_free (wc := [(h0, .inr (16, [w1, w2, w3, w4, .int (nI (j + k1)), .ref ou, w5, w6, w7, w8, w9, w10, w11, w12, w13, w14, w15, w16, w17, w18, w19, w20, w21, w22, w23, w24, w25, w26, w27, w28, w29, w30, w31, w32, w33, w34, w35, w36, w37, w38, w39, w40, w41, w42, w43, w44, w45, w46, w47, w48, w49, w50, w51, w52, w53, w54, w55, w56, w57, w58, w59, w60, w61, w62])), (ou, .inl (y 1, 60000, .inl ge0))]) hD hS hA [0, 1] rfl
    refine va_callv (va_runV (As := [.int ((f (nI k1).toNatClampNeg) &&& (255 : Int32))]) (rest := []) ⟨hx, hb, hml, hown, hts⟩ (c_M_put l D y H.size h0 ou ((j + k1)) w1 w2 w3 w4 w5 w6 w7 w8 w9 w10 w11 w12 w13 w14 w15 w16 w17 w18 w19 w20 w21 w22 w23 w24 w25 w26 w27 w28 w29 w30 w31 w32 w33 w34 w35 w36 w37 w38 w39 w40 w41 w42 w43 w44 w45 w46 w47 w48 w49 w50 w51 w52 w53 w54 w55 w56 w57 w58 w59 w60 w61 w62 ge0 ((f (nI k1).toNatClampNeg) &&& (255 : Int32)) (by omega)) (cwV 1 hts gv_c_M_putText_27_c_M_put_605 rfl rfl rfl (by decide +kernel) ⟨(Nat.le_of_ble_eq_true rfl), (Nat.le_of_ble_eq_true rfl)⟩) (zB.preV hPc hDc hK hN hE hO hT hG hS hFc (fun _ h => nomatch h) (fun _ h => nomatch h) (fun _ h => nomatch h) (fun _ h => nomatch h) (va_recv hK hPc (ci := 16) (q0 := 0) rfl rfl)) rfl rfl hl.1 rfl (lv_room (Nat.le_of_ble_eq_true rfl)) dX12_putText_16 ⟨(Nat.le_of_ble_eq_true rfl), (Nat.le_of_ble_eq_true rfl)⟩) hS (fun q _ h => hFc q h) hFc (fun u t H1 locs ht hvm hw hB hz1 hk1 hS => ?_)
    obtain ⟨hP1, hD1⟩ := hB
    rw [ht] at hP1
    obtain ⟨hP, hD⟩ := va_join (wr := [(sg, .inr (0, [.ref bv, .int 0, w63, w64])), (bv, .inl (y 0, 27, .inl f))]) (w1 := [(h0, .inr (16, [w1, w2, w3, w4, .int (nI ((j + k1) + 1)), .ref ou, w5, w6, w7, w8, w9, w10, w11, w12, w13, w14, w15, w16, w17, w18, w19, w20, w21, w22, w23, w24, w25, w26, w27, w28, w29, w30, w31, w32, w33, w34, w35, w36, w37, w38, w39, w40, w41, w42, w43, w44, w45, w46, w47, w48, w49, w50, w51, w52, w53, w54, w55, w56, w57, w58, w59, w60, w61, w62])), (ou, .inl (y 1, 60000, .inl (upd ge0 (nI (j + k1)).toNatClampNeg (((f (nI k1).toNatClampNeg) &&& (255 : Int32)) &&& (255 : Int32)))))]) hP hD [0, 1] [2, 3] rfl rfl (by decide) (by decide) hk1 hFc hP1 hD1
    generalize H1 = H at hP hS ⊢
    have hP : va_P D vwCl [(sg, .inr (0, [.ref bv, .int 0, w63, w64])), (bv, .inl (y 0, 27, .inl f)), (h0, .inr (16, [w1, w2, w3, w4, .int (nI ((j + k1) + 1)), .ref ou, w5, w6, w7, w8, w9, w10, w11, w12, w13, w14, w15, w16, w17, w18, w19, w20, w21, w22, w23, w24, w25, w26, w27, w28, w29, w30, w31, w32, w33, w34, w35, w36, w37, w38, w39, w40, w41, w42, w43, w44, w45, w46, w47, w48, w49, w50, w51, w52, w53, w54, w55, w56, w57, w58, w59, w60, w61, w62])), (ou, .inl (y 1, 60000, .inl (upd ge0 (nI (j + k1)).toNatClampNeg (((f (nI k1).toNatClampNeg) &&& (255 : Int32)) &&& (255 : Int32)))))] H := hP
    have hD : va_D A [(sg, .inr (0, [.ref bv, .int 0, w63, w64])), (bv, .inl (y 0, 27, .inl f)), (h0, .inr (16, [w1, w2, w3, w4, .int (nI ((j + k1) + 1)), .ref ou, w5, w6, w7, w8, w9, w10, w11, w12, w13, w14, w15, w16, w17, w18, w19, w20, w21, w22, w23, w24, w25, w26, w27, w28, w29, w30, w31, w32, w33, w34, w35, w36, w37, w38, w39, w40, w41, w42, w43, w44, w45, w46, w47, w48, w49, w50, w51, w52, w53, w54, w55, w56, w57, w58, w59, w60, w61, w62])), (ou, .inl (y 1, 60000, .inl (upd ge0 (nI (j + k1)).toNatClampNeg (((f (nI k1).toNatClampNeg) &&& (255 : Int32)) &&& (255 : Int32)))))] := hD
    refine lv_iinc (v := nI (k1 + 1)) (lv' := [(2, .int (nI (k1 + 1))), (0, .ref h0), (1, .ref sg)]) hx hb dX12_putText_19 hl (k := 0) rfl (ax_c_M_putText_27_1 k1 hk11 hk10) (by decide) rfl (fun ls hl => ?_)
    refine lv_goto (tgt := 2) hx hb dX12_putText_22 (by decide) ?_
    have hP := hP.sub (ws' := [(h0, .inr (16, [w1, w2, w3, w4, .int (nI ((j + k1) + 1)), .ref ou, w5, w6, w7, w8, w9, w10, w11, w12, w13, w14, w15, w16, w17, w18, w19, w20, w21, w22, w23, w24, w25, w26, w27, w28, w29, w30, w31, w32, w33, w34, w35, w36, w37, w38, w39, w40, w41, w42, w43, w44, w45, w46, w47, w48, w49, w50, w51, w52, w53, w54, w55, w56, w57, w58, w59, w60, w61, w62])), (ou, .inl (y 1, 60000, .inl (upd ge0 (nI (j + k1)).toNatClampNeg (((f (nI k1).toNatClampNeg) &&& (255 : Int32)) &&& (255 : Int32))))), (sg, .inr (0, [.ref bv, .int 0, w63, w64])), (bv, .inl (y 0, 27, .inl f))]) [2, 3, 0, 1] rfl
    have hD := hD.sub (ws' := [(h0, .inr (16, [w1, w2, w3, w4, .int (nI ((j + k1) + 1)), .ref ou, w5, w6, w7, w8, w9, w10, w11, w12, w13, w14, w15, w16, w17, w18, w19, w20, w21, w22, w23, w24, w25, w26, w27, w28, w29, w30, w31, w32, w33, w34, w35, w36, w37, w38, w39, w40, w41, w42, w43, w44, w45, w46, w47, w48, w49, w50, w51, w52, w53, w54, w55, w56, w57, w58, w59, w60, w61, w62])), (ou, .inl (y 1, 60000, .inl (upd ge0 (nI (j + k1)).toNatClampNeg (((f (nI k1).toNatClampNeg) &&& (255 : Int32)) &&& (255 : Int32))))), (sg, .inr (0, [.ref bv, .int 0, w63, w64])), (bv, .inl (y 0, 27, .inl f))]) [2, 3, 0, 1] (by decide) rfl
    exact ih ls H locs ⟨_, hP, hD, hS, lv_sub hl [0, 1, 2] rfl⟩
  · obtain ⟨ge0, hP, hD, hS, hl⟩ := hI
    have hl : lv_has ls 3 [(2, .int (nI 27)), (0, .ref h0), (1, .ref sg)] := hl
    have hP : va_P D vwCl [(h0, .inr (16, [w1, w2, w3, w4, .int (nI (j + 27)), .ref ou, w5, w6, w7, w8, w9, w10, w11, w12, w13, w14, w15, w16, w17, w18, w19, w20, w21, w22, w23, w24, w25, w26, w27, w28, w29, w30, w31, w32, w33, w34, w35, w36, w37, w38, w39, w40, w41, w42, w43, w44, w45, w46, w47, w48, w49, w50, w51, w52, w53, w54, w55, w56, w57, w58, w59, w60, w61, w62])), (ou, .inl (y 1, 60000, .inl ge0)), (sg, .inr (0, [.ref bv, .int 0, w63, w64])), (bv, .inl (y 0, 27, .inl f))] H := hP
    have hD : va_D A [(h0, .inr (16, [w1, w2, w3, w4, .int (nI (j + 27)), .ref ou, w5, w6, w7, w8, w9, w10, w11, w12, w13, w14, w15, w16, w17, w18, w19, w20, w21, w22, w23, w24, w25, w26, w27, w28, w29, w30, w31, w32, w33, w34, w35, w36, w37, w38, w39, w40, w41, w42, w43, w44, w45, w46, w47, w48, w49, w50, w51, w52, w53, w54, w55, w56, w57, w58, w59, w60, w61, w62])), (ou, .inl (y 1, 60000, .inl ge0)), (sg, .inr (0, [.ref bv, .int 0, w63, w64])), (bv, .inl (y 0, 27, .inl f))] := hD
    refine lv_iload_n hx hb dX12_putText_2 rfl (lv_at hl 0 rfl) ?_
    refine lv_aload_n hx hb dX12_putText_3 rfl (lv_at hl 2 rfl) ?_
    have hPc := hP.sub (ws' := [(sg, .inr (0, [.ref bv, .int 0, w63, w64])), (bv, .inl (y 0, 27, .inl f))]) [2, 3] rfl
    have hDc := hD.sub (ws' := [(sg, .inr (0, [.ref bv, .int 0, w63, w64])), (bv, .inl (y 0, 27, .inl f))]) [2, 3] (by decide) rfl
    have hFc := va_free (wc := [(sg, .inr (0, [.ref bv, .int 0, w63, w64])), (bv, .inl (y 0, 27, .inl f))]) hD hS hA [2, 3] rfl
    refine va_calli (va_runV (As := []) (rest := [.int (nI 27)]) ⟨hx, hb, hml, hown, hts⟩ (c_len_w_27 l D y H.size sg bv w63 w64 f) (cwV 0 hts gv_c_M_putText_27_c_len_w_27_210 rfl rfl rfl (by decide +kernel) ⟨(Nat.le_of_ble_eq_true rfl), (Nat.le_of_ble_eq_true rfl)⟩) (zB.preV hPc hDc hK hN hE hO hT hG hS hFc (fun _ h => nomatch h) (List.forall_mem_cons.mpr ⟨List.mem_of_getElem? (i := 0) rfl, (fun _ h => nomatch h)⟩) (fun _ h => nomatch h) (fun _ h => nomatch h) (va_recv hK hPc (ci := 0) (q0 := 0) rfl rfl)) rfl rfl hl.1 rfl (lv_room (Nat.le_of_ble_eq_true rfl)) dX12_putText_4 ⟨(Nat.le_of_ble_eq_true rfl), (Nat.le_of_ble_eq_true rfl)⟩) hS (fun q _ h => hFc q h) hFc (fun r3 u t H1 locs ht hvm hw hB hz1 hk1 hS => ?_)
    obtain ⟨hP1, hD1⟩ := hB
    rw [ht] at hP1
    obtain ⟨hP, hD⟩ := va_join (wr := [(h0, .inr (16, [w1, w2, w3, w4, .int (nI (j + 27)), .ref ou, w5, w6, w7, w8, w9, w10, w11, w12, w13, w14, w15, w16, w17, w18, w19, w20, w21, w22, w23, w24, w25, w26, w27, w28, w29, w30, w31, w32, w33, w34, w35, w36, w37, w38, w39, w40, w41, w42, w43, w44, w45, w46, w47, w48, w49, w50, w51, w52, w53, w54, w55, w56, w57, w58, w59, w60, w61, w62])), (ou, .inl (y 1, 60000, .inl ge0))]) (w1 := [(sg, .inr (0, [.ref bv, .int 0, w63, w64])), (bv, .inl (y 0, 27, .inl f))]) hP hD [2, 3] [0, 1] rfl rfl (by decide) (by decide) hk1 hFc hP1 hD1
    generalize H1 = H at hP hS ⊢
    have hP : va_P D vwCl [(h0, .inr (16, [w1, w2, w3, w4, .int (nI (j + 27)), .ref ou, w5, w6, w7, w8, w9, w10, w11, w12, w13, w14, w15, w16, w17, w18, w19, w20, w21, w22, w23, w24, w25, w26, w27, w28, w29, w30, w31, w32, w33, w34, w35, w36, w37, w38, w39, w40, w41, w42, w43, w44, w45, w46, w47, w48, w49, w50, w51, w52, w53, w54, w55, w56, w57, w58, w59, w60, w61, w62])), (ou, .inl (y 1, 60000, .inl ge0)), (sg, .inr (0, [.ref bv, .int 0, w63, w64])), (bv, .inl (y 0, 27, .inl f))] H := hP
    have hD : va_D A [(h0, .inr (16, [w1, w2, w3, w4, .int (nI (j + 27)), .ref ou, w5, w6, w7, w8, w9, w10, w11, w12, w13, w14, w15, w16, w17, w18, w19, w20, w21, w22, w23, w24, w25, w26, w27, w28, w29, w30, w31, w32, w33, w34, w35, w36, w37, w38, w39, w40, w41, w42, w43, w44, w45, w46, w47, w48, w49, w50, w51, w52, w53, w54, w55, w56, w57, w58, w59, w60, w61, w62])), (ou, .inl (y 1, 60000, .inl ge0)), (sg, .inr (0, [.ref bv, .int 0, w63, w64])), (bv, .inl (y 0, 27, .inl f))] := hD
    have hw : r3 = 27 := hw
    subst hw
    refine lv_icmp_ge (tgt := 25) hx hb dX12_putText_7 (by decide) (fun _ => ?_) (fun c9 => absurd (by decide) c9)
    have hP9 := hP.sub (ws' := [(h0, .inr (16, [w1, w2, w3, w4, .int (nI (j + 27)), .ref ou, w5, w6, w7, w8, w9, w10, w11, w12, w13, w14, w15, w16, w17, w18, w19, w20, w21, w22, w23, w24, w25, w26, w27, w28, w29, w30, w31, w32, w33, w34, w35, w36, w37, w38, w39, w40, w41, w42, w43, w44, w45, w46, w47, w48, w49, w50, w51, w52, w53, w54, w55, w56, w57, w58, w59, w60, w61, w62])), (ou, .inl (y 1, 60000, .inl ge0)), (sg, .inr (0, [.ref bv, .int 0, w63, w64])), (bv, .inl (y 0, 27, .inl f))]) [0, 1, 2, 3] rfl
    have hD9 := hD.sub (ws' := [(h0, .inr (16, [w1, w2, w3, w4, .int (nI (j + 27)), .ref ou, w5, w6, w7, w8, w9, w10, w11, w12, w13, w14, w15, w16, w17, w18, w19, w20, w21, w22, w23, w24, w25, w26, w27, w28, w29, w30, w31, w32, w33, w34, w35, w36, w37, w38, w39, w40, w41, w42, w43, w44, w45, w46, w47, w48, w49, w50, w51, w52, w53, w54, w55, w56, w57, w58, w59, w60, w61, w62])), (ou, .inl (y 1, 60000, .inl ge0)), (sg, .inr (0, [.ref bv, .int 0, w63, w64])), (bv, .inl (y 0, 27, .inl f))]) [0, 1, 2, 3] (by decide) rfl
    refine W.widen (k := 0) (n := 0) (Nat.le_of_ble_eq_true rfl) (Nat.le_of_ble_eq_true rfl) ?_
    exact W.vret hx hb hr (fun t ht hW => ⟨⟨(), rfl, trivial, ge0, by rw [ht]; exact hP9, hD9⟩, hS.F ht⟩) hS.2.2 dX12_putText_25
def wz_c_M_putText_20 : List Cond := .code yX12_putText cX12_putText 3 none :: ([.methodLink RX12 210 yJ0_length_8abf5, .instanceMethod yJ0_length_8abf5, .selects RJ0 yJ0_length_8abf5 yJ0_length_8abf5, .initialized RJ0, .methodLink RX12 215 yJ0_charAt_5068e, .instanceMethod yJ0_charAt_5068e, .selects RJ0 yJ0_charAt_5068e yJ0_charAt_5068e, .methodLink RX12 605 yX12_put, .instanceMethod yX12_put, .selects RX12 yX12_put yX12_put, .initialized RX12] ++ (wz_c_len_w_20 ++ (wz_c_chr_w_20 ++ (wz_c_M_put ++ ([])))))
set_option maxRecDepth 100000 in
theorem gz_c_M_putText_20_c_len_w_20 : GoodIn wz_c_M_putText_20 wz_c_len_w_20 := goodIn_sub (fun w h => List.mem_cons_of_mem _ (List.mem_append_right _ (List.mem_append_left _ h))) (by decide +kernel)
set_option maxRecDepth 100000 in
theorem gz_c_M_putText_20_c_chr_w_20 : GoodIn wz_c_M_putText_20 wz_c_chr_w_20 := goodIn_sub (fun w h => List.mem_cons_of_mem _ (List.mem_append_right _ (List.mem_append_right _ (List.mem_append_left _ h)))) (by decide +kernel)
set_option maxRecDepth 100000 in
theorem gz_c_M_putText_20_c_M_put : GoodIn wz_c_M_putText_20 wz_c_M_put := goodIn_sub (fun w h => List.mem_cons_of_mem _ (List.mem_append_right _ (List.mem_append_right _ (List.mem_append_right _ (List.mem_append_left _ h))))) (by decide +kernel)
set_option maxRecDepth 100000 in
theorem gv_c_M_putText_20_c_len_w_20_210 : GoodIn wz_c_M_putText_20 (wsV RX12 210 RJ0 yJ0_length_8abf5 wz_c_len_w_20) := goodIn_app (goodIn_of _ (by decide +kernel)) gz_c_M_putText_20_c_len_w_20
set_option maxRecDepth 100000 in
theorem gv_c_M_putText_20_c_chr_w_20_215 : GoodIn wz_c_M_putText_20 (wsV RX12 215 RJ0 yJ0_charAt_5068e wz_c_chr_w_20) := goodIn_app (goodIn_of _ (by decide +kernel)) gz_c_M_putText_20_c_chr_w_20
set_option maxRecDepth 100000 in
theorem gv_c_M_putText_20_c_M_put_605 : GoodIn wz_c_M_putText_20 (wsV RX12 605 RX12 yX12_put wz_c_M_put) := goodIn_app (goodIn_of _ (by decide +kernel)) gz_c_M_putText_20_c_M_put
set_option maxHeartbeats 4000000 in
set_option maxRecDepth 100000 in
theorem ax_c_M_putText_20_0 : ∀ k1 : Nat, k1 < 20 → 0 ≤ k1 → ¬ (20 : Int32) ≤ (nI k1) := by decide +kernel
set_option maxHeartbeats 4000000 in
set_option maxRecDepth 100000 in
theorem ax_c_M_putText_20_1 : ∀ k1 : Nat, k1 < 20 → 0 ≤ k1 → nI k1 + Int32.ofInt 1 = nI (k1 + 1) := by decide +kernel
set_option maxHeartbeats 4000000 in
set_option maxRecDepth 100000 in
theorem c_M_putText_20 (l : Launch) (D : va_G) (y : Nat → ClassId) (sz : Nat) (h0 : Nat) (ou : Nat) (sg : Nat) (bv : Nat) (j : Nat) (w1 : Value) (w2 : Value) (w3 : Value) (w4 : Value) (w5 : Value) (w6 : Value) (w7 : Value) (w8 : Value) (w9 : Value) (w10 : Value) (w11 : Value) (w12 : Value) (w13 : Value) (w14 : Value) (w15 : Value) (w16 : Value) (w17 : Value) (w18 : Value) (w19 : Value) (w20 : Value) (w21 : Value) (w22 : Value) (w23 : Value) (w24 : Value) (w25 : Value) (w26 : Value) (w27 : Value) (w28 : Value) (w29 : Value) (w30 : Value) (w31 : Value) (w32 : Value) (w33 : Value) (w34 : Value) (w35 : Value) (w36 : Value) (w37 : Value) (w38 : Value) (w39 : Value) (w40 : Value) (w41 : Value) (w42 : Value) (w43 : Value) (w44 : Value) (w45 : Value) (w46 : Value) (w47 : Value) (w48 : Value) (w49 : Value) (w50 : Value) (w51 : Value) (w52 : Value) (w53 : Value) (w54 : Value) (w55 : Value) (w56 : Value) (w57 : Value) (w58 : Value) (w59 : Value) (w60 : Value) (w61 : Value) (w62 : Value) (w63 : Value) (w64 : Value) (g : Nat → Int32) (f : Nat → Int32) (hjn : j + 20 ≤ 60000) : Met l yX12_putText wz_c_M_putText_20 ({ frames := 4, cells := 0, slots := 0, locals := 85 }) (va_Pc [.ref h0, .ref sg] (zB D y [(h0, .inr (16, [w1, w2, w3, w4, .int (nI j), .ref ou, w5, w6, w7, w8, w9, w10, w11, w12, w13, w14, w15, w16, w17, w18, w19, w20, w21, w22, w23, w24, w25, w26, w27, w28, w29, w30, w31, w32, w33, w34, w35, w36, w37, w38, w39, w40, w41, w42, w43, w44, w45, w46, w47, w48, w49, w50, w51, w52, w53, w54, w55, w56, w57, w58, w59, w60, w61, w62])), (ou, .inl (y 1, 60000, .inl g)), (sg, .inr (0, [.ref bv, .int 0, w63, w64])), (bv, .inl (y 0, 20, .inl f))] sz [] [("java/lang/String", "COMPACT_STRINGS", "Z", .int 1)] [] [.inr (.inr (.inr (.inr ("jdk/internal/util/Preconditions", "SIOOBE_FORMATTER", "Ljava/util/function/BiFunction;"))))])) (va_Qv (fun _ : Unit => True) (fun _ t => ∃ fz0 : Nat → Int32, va_P D vwCl [(h0, .inr (16, [w1, w2, w3, w4, .int (nI (j + 20)), .ref ou, w5, w6, w7, w8, w9, w10, w11, w12, w13, w14, w15, w16, w17, w18, w19, w20, w21, w22, w23, w24, w25, w26, w27, w28, w29, w30, w31, w32, w33, w34, w35, w36, w37, w38, w39, w40, w41, w42, w43, w44, w45, w46, w47, w48, w49, w50, w51, w52, w53, w54, w55, w56, w57, w58, w59, w60, w61, w62])), (ou, .inl (y 1, 60000, .inl fz0)), (sg, .inr (0, [.ref bv, .int 0, w63, w64])), (bv, .inl (y 0, 20, .inl f))] t.heap ∧ va_D (va_A [(h0, .inr (16, [w1, w2, w3, w4, .int (nI j), .ref ou, w5, w6, w7, w8, w9, w10, w11, w12, w13, w14, w15, w16, w17, w18, w19, w20, w21, w22, w23, w24, w25, w26, w27, w28, w29, w30, w31, w32, w33, w34, w35, w36, w37, w38, w39, w40, w41, w42, w43, w44, w45, w46, w47, w48, w49, w50, w51, w52, w53, w54, w55, w56, w57, w58, w59, w60, w61, w62])), (ou, .inl (y 1, 60000, .inl g)), (sg, .inr (0, [.ref bv, .int 0, w63, w64])), (bv, .inl (y 0, 20, .inl f))] sz) [(h0, .inr (16, [w1, w2, w3, w4, .int (nI (j + 20)), .ref ou, w5, w6, w7, w8, w9, w10, w11, w12, w13, w14, w15, w16, w17, w18, w19, w20, w21, w22, w23, w24, w25, w26, w27, w28, w29, w30, w31, w32, w33, w34, w35, w36, w37, w38, w39, w40, w41, w42, w43, w44, w45, w46, w47, w48, w49, w50, w51, w52, w53, w54, w55, w56, w57, w58, w59, w60, w61, w62])), (ou, .inl (y 1, 60000, .inl fz0)), (sg, .inr (0, [.ref bv, .int 0, w63, w64])), (bv, .inl (y 0, 20, .inl f))]) (va_A [(h0, .inr (16, [w1, w2, w3, w4, .int (nI j), .ref ou, w5, w6, w7, w8, w9, w10, w11, w12, w13, w14, w15, w16, w17, w18, w19, w20, w21, w22, w23, w24, w25, w26, w27, w28, w29, w30, w31, w32, w33, w34, w35, w36, w37, w38, w39, w40, w41, w42, w43, w44, w45, w46, w47, w48, w49, w50, w51, w52, w53, w54, w55, w56, w57, w58, w59, w60, w61, w62])), (ou, .inl (y 1, 60000, .inl g)), (sg, .inr (0, [.ref bv, .int 0, w63, w64])), (bv, .inl (y 0, 20, .inl f))] sz)) 0 0 (va_A [(h0, .inr (16, [w1, w2, w3, w4, .int (nI j), .ref ou, w5, w6, w7, w8, w9, w10, w11, w12, w13, w14, w15, w16, w17, w18, w19, w20, w21, w22, w23, w24, w25, w26, w27, w28, w29, w30, w31, w32, w33, w34, w35, w36, w37, w38, w39, w40, w41, w42, w43, w44, w45, w46, w47, w48, w49, w50, w51, w52, w53, w54, w55, w56, w57, w58, w59, w60, w61, w62])), (ou, .inl (y 1, 60000, .inl g)), (sg, .inr (0, [.ref bv, .int 0, w63, w64])), (bv, .inl (y 0, 20, .inl f))] sz) := by
  refine Met.ofW (cc := cX12_putText) (maxL := 3) (ret := none) (by decide) rfl ?_
  intro p e s m args below meth c s₁ B hml hv
  obtain ⟨rfl, hsz, hP, hK, hD0, hN, hE, hO, hT, hG⟩ := hv
  have hx := B.exec
  have hb := B.bytes
  have hr := B.returns
  have hts := atoms_spec (ws := wz_c_M_putText_20) B.pre
  have hown : s.vm.findClass RX12 = some m.cls := findClass_of_methodNamed B.named
  have hlocks := B.notSynchronized
  subst hsz
  have hD := hD0.self (sz := s.heap.size)
  generalize hAe : va_A [(h0, .inr (16, [w1, w2, w3, w4, .int (nI j), .ref ou, w5, w6, w7, w8, w9, w10, w11, w12, w13, w14, w15, w16, w17, w18, w19, w20, w21, w22, w23, w24, w25, w26, w27, w28, w29, w30, w31, w32, w33, w34, w35, w36, w37, w38, w39, w40, w41, w42, w43, w44, w45, w46, w47, w48, w49, w50, w51, w52, w53, w54, w55, w56, w57, w58, w59, w60, w61, w62])), (ou, .inl (y 1, 60000, .inl g)), (sg, .inr (0, [.ref bv, .int 0, w63, w64])), (bv, .inl (y 0, 20, .inl f))] s.heap.size = A at hD hE hT hG ⊢
  have hA : ∀ q : Nat, s.heap.size ≤ q → A q := fun q h => by rw [← hAe]; exact Or.inr h
  have hS : va_S A s.heap s.heap [] := va_S.rf
  have hl := lv_entry ([.ref h0, .ref sg]) (n := 3) (Nat.le_of_ble_eq_true rfl)
  rw [lg_entry_eq]
  generalize (lg_sl ([.ref h0, .ref sg]) ++ List.replicate (3 - (lg_sl ([.ref h0, .ref sg])).length) Slot.unset).toArray = ls at hl ⊢
  have hl : lv_has ls 3 [(0, .ref h0), (1, .ref sg)] := hl
  refine lv_iconst (v := 0) hx hb dX12_putText_0 (by decide) ?_
  refine lv_istore_n (lv' := [(2, .int 0), (0, .ref h0), (1, .ref sg)]) hx hb dX12_putText_1 rfl hl (by decide) rfl (fun ls hl => ?_)
  have hl : lv_has ls 3 [(2, .int (nI 0)), (0, .ref h0), (1, .ref sg)] := lv_sub hl [0, 1, 2] rfl
  refine zz_loop (I := fun (k1 : Nat) (ls : Array Slot) (H : Heap) (locs : List Loc) => ∃ ge0 : Nat → Int32, va_P D vwCl [(h0, .inr (16, [w1, w2, w3, w4, Value.int (nI (j + k1)), Value.ref ou, w5, w6, w7, w8, w9, w10, w11, w12, w13, w14, w15, w16, w17, w18, w19, w20, w21, w22, w23, w24, w25, w26, w27, w28, w29, w30, w31, w32, w33, w34, w35, w36, w37, w38, w39, w40, w41, w42, w43, w44, w45, w46, w47, w48, w49, w50, w51, w52, w53, w54, w55, w56, w57, w58, w59, w60, w61, w62])), (ou, .inl (y 1, 60000, .inl ge0)), (sg, .inr (0, [Value.ref bv, Value.int 0, w63, w64])), (bv, .inl (y 0, 20, .inl f))] H ∧ va_D A [(h0, .inr (16, [w1, w2, w3, w4, Value.int (nI (j + k1)), Value.ref ou, w5, w6, w7, w8, w9, w10, w11, w12, w13, w14, w15, w16, w17, w18, w19, w20, w21, w22, w23, w24, w25, w26, w27, w28, w29, w30, w31, w32, w33, w34, w35, w36, w37, w38, w39, w40, w41, w42, w43, w44, w45, w46, w47, w48, w49, w50, w51, w52, w53, w54, w55, w56, w57, w58, w59, w60, w61, w62])), (ou, .inl (y 1, 60000, .inl ge0)), (sg, .inr (0, [Value.ref bv, Value.int 0, w63, w64])), (bv, .inl (y 0, 20, .inl f))] ∧ va_S A s.heap H locs ∧ lv_has ls 3 [(2, Value.int (nI k1)), (0, Value.ref h0), (1, Value.ref sg)]) 0 20 (by decide) ⟨_, hP, hD, hS, hl⟩ (fun k1 ls H locs hk10 hk11 hI ih => ?_) (fun ls H locs hI => ?_)
  · obtain ⟨ge0, hP, hD, hS, hl⟩ := hI
    have hl : lv_has ls 3 [(2, .int (nI k1)), (0, .ref h0), (1, .ref sg)] := hl
    have hP : va_P D vwCl [(h0, .inr (16, [w1, w2, w3, w4, .int (nI (j + k1)), .ref ou, w5, w6, w7, w8, w9, w10, w11, w12, w13, w14, w15, w16, w17, w18, w19, w20, w21, w22, w23, w24, w25, w26, w27, w28, w29, w30, w31, w32, w33, w34, w35, w36, w37, w38, w39, w40, w41, w42, w43, w44, w45, w46, w47, w48, w49, w50, w51, w52, w53, w54, w55, w56, w57, w58, w59, w60, w61, w62])), (ou, .inl (y 1, 60000, .inl ge0)), (sg, .inr (0, [.ref bv, .int 0, w63, w64])), (bv, .inl (y 0, 20, .inl f))] H := hP
    have hD : va_D A [(h0, .inr (16, [w1, w2, w3, w4, .int (nI (j + k1)), .ref ou, w5, w6, w7, w8, w9, w10, w11, w12, w13, w14, w15, w16, w17, w18, w19, w20, w21, w22, w23, w24, w25, w26, w27, w28, w29, w30, w31, w32, w33, w34, w35, w36, w37, w38, w39, w40, w41, w42, w43, w44, w45, w46, w47, w48, w49, w50, w51, w52, w53, w54, w55, w56, w57, w58, w59, w60, w61, w62])), (ou, .inl (y 1, 60000, .inl ge0)), (sg, .inr (0, [.ref bv, .int 0, w63, w64])), (bv, .inl (y 0, 20, .inl f))] := hD
    refine lv_iload_n hx hb dX12_putText_2 rfl (lv_at hl 0 rfl) ?_
    refine lv_aload_n hx hb dX12_putText_3 rfl (lv_at hl 2 rfl) ?_
    have hPc := hP.sub (ws' := [(sg, .inr (0, [.ref bv, .int 0, w63, w64])), (bv, .inl (y 0, 20, .inl f))]) [2, 3] rfl
    have hDc := hD.sub (ws' := [(sg, .inr (0, [.ref bv, .int 0, w63, w64])), (bv, .inl (y 0, 20, .inl f))]) [2, 3] (by decide) rfl
    have hFc := va_free (wc := [(sg, .inr (0, [.ref bv, .int 0, w63, w64])), (bv, .inl (y 0, 20, .inl f))]) hD hS hA [2, 3] rfl
    refine va_calli (va_runV (As := []) (rest := [.int (nI k1)]) ⟨hx, hb, hml, hown, hts⟩ (c_len_w_20 l D y H.size sg bv w63 w64 f) (cwV 0 hts gv_c_M_putText_20_c_len_w_20_210 rfl rfl rfl (by decide +kernel) ⟨(Nat.le_of_ble_eq_true rfl), (Nat.le_of_ble_eq_true rfl)⟩) (zB.preV hPc hDc hK hN hE hO hT hG hS hFc (fun _ h => nomatch h) (List.forall_mem_cons.mpr ⟨List.mem_of_getElem? (i := 0) rfl, (fun _ h => nomatch h)⟩) (fun _ h => nomatch h) (fun _ h => nomatch h) (va_recv hK hPc (ci := 0) (q0 := 0) rfl rfl)) rfl rfl hl.1 rfl (lv_room (Nat.le_of_ble_eq_true rfl)) dX12_putText_4 ⟨(Nat.le_of_ble_eq_true rfl), (Nat.le_of_ble_eq_true rfl)⟩) hS (fun q _ h => hFc q h) hFc (fun r1 u t H1 locs ht hvm hw hB hz1 hk1 hS => ?_)
    obtain ⟨hP1, hD1⟩ := hB
    rw [ht] at hP1
    obtain ⟨hP, hD⟩ := va_join (wr := [(h0, .inr (16, [w1, w2, w3, w4, .int (nI (j + k1)), .ref ou, w5, w6, w7, w8, w9, w10, w11, w12, w13, w14, w15, w16, w17, w18, w19, w20, w21, w22, w23, w24, w25, w26, w27, w28, w29, w30, w31, w32, w33, w34, w35, w36, w37, w38, w39, w40, w41, w42, w43, w44, w45, w46, w47, w48, w49, w50, w51, w52, w53, w54, w55, w56, w57, w58, w59, w60, w61, w62])), (ou, .inl (y 1, 60000, .inl ge0))]) (w1 := [(sg, .inr (0, [.ref bv, .int 0, w63, w64])), (bv, .inl (y 0, 20, .inl f))]) hP hD [2, 3] [0, 1] rfl rfl (by decide) (by decide) hk1 hFc hP1 hD1
    generalize H1 = H at hP hS ⊢
    have hP : va_P D vwCl [(h0, .inr (16, [w1, w2, w3, w4, .int (nI (j + k1)), .ref ou, w5, w6, w7, w8, w9, w10, w11, w12, w13, w14, w15, w16, w17, w18, w19, w20, w21, w22, w23, w24, w25, w26, w27, w28, w29, w30, w31, w32, w33, w34, w35, w36, w37, w38, w39, w40, w41, w42, w43, w44, w45, w46, w47, w48, w49, w50, w51, w52, w53, w54, w55, w56, w57, w58, w59, w60, w61, w62])), (ou, .inl (y 1, 60000, .inl ge0)), (sg, .inr (0, [.ref bv, .int 0, w63, w64])), (bv, .inl (y 0, 20, .inl f))] H := hP
    have hD : va_D A [(h0, .inr (16, [w1, w2, w3, w4, .int (nI (j + k1)), .ref ou, w5, w6, w7, w8, w9, w10, w11, w12, w13, w14, w15, w16, w17, w18, w19, w20, w21, w22, w23, w24, w25, w26, w27, w28, w29, w30, w31, w32, w33, w34, w35, w36, w37, w38, w39, w40, w41, w42, w43, w44, w45, w46, w47, w48, w49, w50, w51, w52, w53, w54, w55, w56, w57, w58, w59, w60, w61, w62])), (ou, .inl (y 1, 60000, .inl ge0)), (sg, .inr (0, [.ref bv, .int 0, w63, w64])), (bv, .inl (y 0, 20, .inl f))] := hD
    have hw : r1 = 20 := hw
    subst hw
    refine lv_icmp_ge (tgt := 25) hx hb dX12_putText_7 (by decide) (fun c9 => absurd c9 (ax_c_M_putText_20_0 k1 hk11 hk10)) (fun _ => ?_)
    refine lv_aload_n hx hb dX12_putText_10 rfl (lv_at hl 1 rfl) ?_
    refine lv_aload_n hx hb dX12_putText_11 rfl (lv_at hl 2 rfl) ?_
    refine lv_iload_n hx hb dX12_putText_12 rfl (lv_at hl 0 rfl) ?_
    have hPc := hP.sub (ws' := [(sg, .inr (0, [.ref bv, .int 0, w63, w64])), (bv, .inl (y 0, 20, .inl f))]) [2, 3] rfl
    have hDc := hD.sub (ws' := [(sg, .inr (0, [.ref bv, .int 0, w63, w64])), (bv, .inl (y 0, 20, .inl f))]) [2, 3] (by decide) rfl
    have hFc := va_free (wc := [(sg, .inr (0, [.ref bv, .int 0, w63, w64])), (bv, .inl (y 0, 20, .inl f))]) hD hS hA [2, 3] rfl
    refine va_calli (va_runV (As := [.int (nI k1)]) (rest := [.ref h0]) ⟨hx, hb, hml, hown, hts⟩ (c_chr_w_20 l D y H.size sg bv w63 w64 k1 f (by omega)) (cwV 1 hts gv_c_M_putText_20_c_chr_w_20_215 rfl rfl rfl (by decide +kernel) ⟨(Nat.le_of_ble_eq_true rfl), (Nat.le_of_ble_eq_true rfl)⟩) (zB.preV hPc hDc hK hN hE hO hT hG hS hFc (fun _ h => nomatch h) (List.forall_mem_cons.mpr ⟨List.mem_of_getElem? (i := 0) rfl, (fun _ h => nomatch h)⟩) (fun _ h => nomatch h) (List.forall_mem_cons.mpr ⟨List.mem_of_getElem? (i := 0) rfl, (fun _ h => nomatch h)⟩) (va_recv hK hPc (ci := 0) (q0 := 0) rfl rfl)) rfl rfl hl.1 rfl (lv_room (Nat.le_of_ble_eq_true rfl)) dX12_putText_13 ⟨(Nat.le_of_ble_eq_true rfl), (Nat.le_of_ble_eq_true rfl)⟩) hS (fun q _ h => hFc q h) hFc (fun r2 u t H1 locs ht hvm hw hB hz1 hk1 hS => ?_)
    obtain ⟨hP1, hD1⟩ := hB
    rw [ht] at hP1
    obtain ⟨hP, hD⟩ := va_join (wr := [(h0, .inr (16, [w1, w2, w3, w4, .int (nI (j + k1)), .ref ou, w5, w6, w7, w8, w9, w10, w11, w12, w13, w14, w15, w16, w17, w18, w19, w20, w21, w22, w23, w24, w25, w26, w27, w28, w29, w30, w31, w32, w33, w34, w35, w36, w37, w38, w39, w40, w41, w42, w43, w44, w45, w46, w47, w48, w49, w50, w51, w52, w53, w54, w55, w56, w57, w58, w59, w60, w61, w62])), (ou, .inl (y 1, 60000, .inl ge0))]) (w1 := [(sg, .inr (0, [.ref bv, .int 0, w63, w64])), (bv, .inl (y 0, 20, .inl f))]) hP hD [2, 3] [0, 1] rfl rfl (by decide) (by decide) hk1 hFc hP1 hD1
    generalize H1 = H at hP hS ⊢
    have hP : va_P D vwCl [(h0, .inr (16, [w1, w2, w3, w4, .int (nI (j + k1)), .ref ou, w5, w6, w7, w8, w9, w10, w11, w12, w13, w14, w15, w16, w17, w18, w19, w20, w21, w22, w23, w24, w25, w26, w27, w28, w29, w30, w31, w32, w33, w34, w35, w36, w37, w38, w39, w40, w41, w42, w43, w44, w45, w46, w47, w48, w49, w50, w51, w52, w53, w54, w55, w56, w57, w58, w59, w60, w61, w62])), (ou, .inl (y 1, 60000, .inl ge0)), (sg, .inr (0, [.ref bv, .int 0, w63, w64])), (bv, .inl (y 0, 20, .inl f))] H := hP
    have hD : va_D A [(h0, .inr (16, [w1, w2, w3, w4, .int (nI (j + k1)), .ref ou, w5, w6, w7, w8, w9, w10, w11, w12, w13, w14, w15, w16, w17, w18, w19, w20, w21, w22, w23, w24, w25, w26, w27, w28, w29, w30, w31, w32, w33, w34, w35, w36, w37, w38, w39, w40, w41, w42, w43, w44, w45, w46, w47, w48, w49, w50, w51, w52, w53, w54, w55, w56, w57, w58, w59, w60, w61, w62])), (ou, .inl (y 1, 60000, .inl ge0)), (sg, .inr (0, [.ref bv, .int 0, w63, w64])), (bv, .inl (y 0, 20, .inl f))] := hD
    have hw : r2 = (f (nI k1).toNatClampNeg) &&& (255 : Int32) := hw
    subst hw
    have hPc := hP.sub (ws' := [(h0, .inr (16, [w1, w2, w3, w4, .int (nI (j + k1)), .ref ou, w5, w6, w7, w8, w9, w10, w11, w12, w13, w14, w15, w16, w17, w18, w19, w20, w21, w22, w23, w24, w25, w26, w27, w28, w29, w30, w31, w32, w33, w34, w35, w36, w37, w38, w39, w40, w41, w42, w43, w44, w45, w46, w47, w48, w49, w50, w51, w52, w53, w54, w55, w56, w57, w58, w59, w60, w61, w62])), (ou, .inl (y 1, 60000, .inl ge0))]) [0, 1] rfl
    have hDc := hD.sub (ws' := [(h0, .inr (16, [w1, w2, w3, w4, .int (nI (j + k1)), .ref ou, w5, w6, w7, w8, w9, w10, w11, w12, w13, w14, w15, w16, w17, w18, w19, w20, w21, w22, w23, w24, w25, w26, w27, w28, w29, w30, w31, w32, w33, w34, w35, w36, w37, w38, w39, w40, w41, w42, w43, w44, w45, w46, w47, w48, w49, w50, w51, w52, w53, w54, w55, w56, w57, w58, w59, w60, w61, w62])), (ou, .inl (y 1, 60000, .inl ge0))]) [0, 1] (by decide) rfl
    have hFc := va_free (wc := [(h0, .inr (16, [w1, w2, w3, w4, .int (nI (j + k1)), .ref ou, w5, w6, w7, w8, w9, w10, w11, w12, w13, w14, w15, w16, w17, w18, w19, w20, w21, w22, w23, w24, w25, w26, w27, w28, w29, w30, w31, w32, w33, w34, w35, w36, w37, w38, w39, w40, w41, w42, w43, w44, w45, w46, w47, w48, w49, w50, w51, w52, w53, w54, w55, w56, w57, w58, w59, w60, w61, w62])), (ou, .inl (y 1, 60000, .inl ge0))]) hD hS hA [0, 1] rfl
    refine va_callv (va_runV (As := [.int ((f (nI k1).toNatClampNeg) &&& (255 : Int32))]) (rest := []) ⟨hx, hb, hml, hown, hts⟩ (c_M_put l D y H.size h0 ou ((j + k1)) w1 w2 w3 w4 w5 w6 w7 w8 w9 w10 w11 w12 w13 w14 w15 w16 w17 w18 w19 w20 w21 w22 w23 w24 w25 w26 w27 w28 w29 w30 w31 w32 w33 w34 w35 w36 w37 w38 w39 w40 w41 w42 w43 w44 w45 w46 w47 w48 w49 w50 w51 w52 w53 w54 w55 w56 w57 w58 w59 w60 w61 w62 ge0 ((f (nI k1).toNatClampNeg) &&& (255 : Int32)) (by omega)) (cwV 1 hts gv_c_M_putText_20_c_M_put_605 rfl rfl rfl (by decide +kernel) ⟨(Nat.le_of_ble_eq_true rfl), (Nat.le_of_ble_eq_true rfl)⟩) (zB.preV hPc hDc hK hN hE hO hT hG hS hFc (fun _ h => nomatch h) (fun _ h => nomatch h) (fun _ h => nomatch h) (fun _ h => nomatch h) (va_recv hK hPc (ci := 16) (q0 := 0) rfl rfl)) rfl rfl hl.1 rfl (lv_room (Nat.le_of_ble_eq_true rfl)) dX12_putText_16 ⟨(Nat.le_of_ble_eq_true rfl), (Nat.le_of_ble_eq_true rfl)⟩) hS (fun q _ h => hFc q h) hFc (fun u t H1 locs ht hvm hw hB hz1 hk1 hS => ?_)
    obtain ⟨hP1, hD1⟩ := hB
    rw [ht] at hP1
    obtain ⟨hP, hD⟩ := va_join (wr := [(sg, .inr (0, [.ref bv, .int 0, w63, w64])), (bv, .inl (y 0, 20, .inl f))]) (w1 := [(h0, .inr (16, [w1, w2, w3, w4, .int (nI ((j + k1) + 1)), .ref ou, w5, w6, w7, w8, w9, w10, w11, w12, w13, w14, w15, w16, w17, w18, w19, w20, w21, w22, w23, w24, w25, w26, w27, w28, w29, w30, w31, w32, w33, w34, w35, w36, w37, w38, w39, w40, w41, w42, w43, w44, w45, w46, w47, w48, w49, w50, w51, w52, w53, w54, w55, w56, w57, w58, w59, w60, w61, w62])), (ou, .inl (y 1, 60000, .inl (upd ge0 (nI (j + k1)).toNatClampNeg (((f (nI k1).toNatClampNeg) &&& (255 : Int32)) &&& (255 : Int32)))))]) hP hD [0, 1] [2, 3] rfl rfl (by decide) (by decide) hk1 hFc hP1 hD1
    generalize H1 = H at hP hS ⊢
    have hP : va_P D vwCl [(sg, .inr (0, [.ref bv, .int 0, w63, w64])), (bv, .inl (y 0, 20, .inl f)), (h0, .inr (16, [w1, w2, w3, w4, .int (nI ((j + k1) + 1)), .ref ou, w5, w6, w7, w8, w9, w10, w11, w12, w13, w14, w15, w16, w17, w18, w19, w20, w21, w22, w23, w24, w25, w26, w27, w28, w29, w30, w31, w32, w33, w34, w35, w36, w37, w38, w39, w40, w41, w42, w43, w44, w45, w46, w47, w48, w49, w50, w51, w52, w53, w54, w55, w56, w57, w58, w59, w60, w61, w62])), (ou, .inl (y 1, 60000, .inl (upd ge0 (nI (j + k1)).toNatClampNeg (((f (nI k1).toNatClampNeg) &&& (255 : Int32)) &&& (255 : Int32)))))] H := hP
    have hD : va_D A [(sg, .inr (0, [.ref bv, .int 0, w63, w64])), (bv, .inl (y 0, 20, .inl f)), (h0, .inr (16, [w1, w2, w3, w4, .int (nI ((j + k1) + 1)), .ref ou, w5, w6, w7, w8, w9, w10, w11, w12, w13, w14, w15, w16, w17, w18, w19, w20, w21, w22, w23, w24, w25, w26, w27, w28, w29, w30, w31, w32, w33, w34, w35, w36, w37, w38, w39, w40, w41, w42, w43, w44, w45, w46, w47, w48, w49, w50, w51, w52, w53, w54, w55, w56, w57, w58, w59, w60, w61, w62])), (ou, .inl (y 1, 60000, .inl (upd ge0 (nI (j + k1)).toNatClampNeg (((f (nI k1).toNatClampNeg) &&& (255 : Int32)) &&& (255 : Int32)))))] := hD
    refine lv_iinc (v := nI (k1 + 1)) (lv' := [(2, .int (nI (k1 + 1))), (0, .ref h0), (1, .ref sg)]) hx hb dX12_putText_19 hl (k := 0) rfl (ax_c_M_putText_20_1 k1 hk11 hk10) (by decide) rfl (fun ls hl => ?_)
    refine lv_goto (tgt := 2) hx hb dX12_putText_22 (by decide) ?_
    have hP := hP.sub (ws' := [(h0, .inr (16, [w1, w2, w3, w4, .int (nI ((j + k1) + 1)), .ref ou, w5, w6, w7, w8, w9, w10, w11, w12, w13, w14, w15, w16, w17, w18, w19, w20, w21, w22, w23, w24, w25, w26, w27, w28, w29, w30, w31, w32, w33, w34, w35, w36, w37, w38, w39, w40, w41, w42, w43, w44, w45, w46, w47, w48, w49, w50, w51, w52, w53, w54, w55, w56, w57, w58, w59, w60, w61, w62])), (ou, .inl (y 1, 60000, .inl (upd ge0 (nI (j + k1)).toNatClampNeg (((f (nI k1).toNatClampNeg) &&& (255 : Int32)) &&& (255 : Int32))))), (sg, .inr (0, [.ref bv, .int 0, w63, w64])), (bv, .inl (y 0, 20, .inl f))]) [2, 3, 0, 1] rfl
    have hD := hD.sub (ws' := [(h0, .inr (16, [w1, w2, w3, w4, .int (nI ((j + k1) + 1)), .ref ou, w5, w6, w7, w8, w9, w10, w11, w12, w13, w14, w15, w16, w17, w18, w19, w20, w21, w22, w23, w24, w25, w26, w27, w28, w29, w30, w31, w32, w33, w34, w35, w36, w37, w38, w39, w40, w41, w42, w43, w44, w45, w46, w47, w48, w49, w50, w51, w52, w53, w54, w55, w56, w57, w58, w59, w60, w61, w62])), (ou, .inl (y 1, 60000, .inl (upd ge0 (nI (j + k1)).toNatClampNeg (((f (nI k1).toNatClampNeg) &&& (255 : Int32)) &&& (255 : Int32))))), (sg, .inr (0, [.ref bv, .int 0, w63, w64])), (bv, .inl (y 0, 20, .inl f))]) [2, 3, 0, 1] (by decide) rfl
    exact ih ls H locs ⟨_, hP, hD, hS, lv_sub hl [0, 1, 2] rfl⟩
  · obtain ⟨ge0, hP, hD, hS, hl⟩ := hI
    have hl : lv_has ls 3 [(2, .int (nI 20)), (0, .ref h0), (1, .ref sg)] := hl
    have hP : va_P D vwCl [(h0, .inr (16, [w1, w2, w3, w4, .int (nI (j + 20)), .ref ou, w5, w6, w7, w8, w9, w10, w11, w12, w13, w14, w15, w16, w17, w18, w19, w20, w21, w22, w23, w24, w25, w26, w27, w28, w29, w30, w31, w32, w33, w34, w35, w36, w37, w38, w39, w40, w41, w42, w43, w44, w45, w46, w47, w48, w49, w50, w51, w52, w53, w54, w55, w56, w57, w58, w59, w60, w61, w62])), (ou, .inl (y 1, 60000, .inl ge0)), (sg, .inr (0, [.ref bv, .int 0, w63, w64])), (bv, .inl (y 0, 20, .inl f))] H := hP
    have hD : va_D A [(h0, .inr (16, [w1, w2, w3, w4, .int (nI (j + 20)), .ref ou, w5, w6, w7, w8, w9, w10, w11, w12, w13, w14, w15, w16, w17, w18, w19, w20, w21, w22, w23, w24, w25, w26, w27, w28, w29, w30, w31, w32, w33, w34, w35, w36, w37, w38, w39, w40, w41, w42, w43, w44, w45, w46, w47, w48, w49, w50, w51, w52, w53, w54, w55, w56, w57, w58, w59, w60, w61, w62])), (ou, .inl (y 1, 60000, .inl ge0)), (sg, .inr (0, [.ref bv, .int 0, w63, w64])), (bv, .inl (y 0, 20, .inl f))] := hD
    refine lv_iload_n hx hb dX12_putText_2 rfl (lv_at hl 0 rfl) ?_
    refine lv_aload_n hx hb dX12_putText_3 rfl (lv_at hl 2 rfl) ?_
    have hPc := hP.sub (ws' := [(sg, .inr (0, [.ref bv, .int 0, w63, w64])), (bv, .inl (y 0, 20, .inl f))]) [2, 3] rfl
    have hDc := hD.sub (ws' := [(sg, .inr (0, [.ref bv, .int 0, w63, w64])), (bv, .inl (y 0, 20, .inl f))]) [2, 3] (by decide) rfl
    have hFc := va_free (wc := [(sg, .inr (0, [.ref bv, .int 0, w63, w64])), (bv, .inl (y 0, 20, .inl f))]) hD hS hA [2, 3] rfl
    refine va_calli (va_runV (As := []) (rest := [.int (nI 20)]) ⟨hx, hb, hml, hown, hts⟩ (c_len_w_20 l D y H.size sg bv w63 w64 f) (cwV 0 hts gv_c_M_putText_20_c_len_w_20_210 rfl rfl rfl (by decide +kernel) ⟨(Nat.le_of_ble_eq_true rfl), (Nat.le_of_ble_eq_true rfl)⟩) (zB.preV hPc hDc hK hN hE hO hT hG hS hFc (fun _ h => nomatch h) (List.forall_mem_cons.mpr ⟨List.mem_of_getElem? (i := 0) rfl, (fun _ h => nomatch h)⟩) (fun _ h => nomatch h) (fun _ h => nomatch h) (va_recv hK hPc (ci := 0) (q0 := 0) rfl rfl)) rfl rfl hl.1 rfl (lv_room (Nat.le_of_ble_eq_true rfl)) dX12_putText_4 ⟨(Nat.le_of_ble_eq_true rfl), (Nat.le_of_ble_eq_true rfl)⟩) hS (fun q _ h => hFc q h) hFc (fun r3 u t H1 locs ht hvm hw hB hz1 hk1 hS => ?_)
    obtain ⟨hP1, hD1⟩ := hB
    rw [ht] at hP1
    obtain ⟨hP, hD⟩ := va_join (wr := [(h0, .inr (16, [w1, w2, w3, w4, .int (nI (j + 20)), .ref ou, w5, w6, w7, w8, w9, w10, w11, w12, w13, w14, w15, w16, w17, w18, w19, w20, w21, w22, w23, w24, w25, w26, w27, w28, w29, w30, w31, w32, w33, w34, w35, w36, w37, w38, w39, w40, w41, w42, w43, w44, w45, w46, w47, w48, w49, w50, w51, w52, w53, w54, w55, w56, w57, w58, w59, w60, w61, w62])), (ou, .inl (y 1, 60000, .inl ge0))]) (w1 := [(sg, .inr (0, [.ref bv, .int 0, w63, w64])), (bv, .inl (y 0, 20, .inl f))]) hP hD [2, 3] [0, 1] rfl rfl (by decide) (by decide) hk1 hFc hP1 hD1
    generalize H1 = H at hP hS ⊢
    have hP : va_P D vwCl [(h0, .inr (16, [w1, w2, w3, w4, .int (nI (j + 20)), .ref ou, w5, w6, w7, w8, w9, w10, w11, w12, w13, w14, w15, w16, w17, w18, w19, w20, w21, w22, w23, w24, w25, w26, w27, w28, w29, w30, w31, w32, w33, w34, w35, w36, w37, w38, w39, w40, w41, w42, w43, w44, w45, w46, w47, w48, w49, w50, w51, w52, w53, w54, w55, w56, w57, w58, w59, w60, w61, w62])), (ou, .inl (y 1, 60000, .inl ge0)), (sg, .inr (0, [.ref bv, .int 0, w63, w64])), (bv, .inl (y 0, 20, .inl f))] H := hP
    have hD : va_D A [(h0, .inr (16, [w1, w2, w3, w4, .int (nI (j + 20)), .ref ou, w5, w6, w7, w8, w9, w10, w11, w12, w13, w14, w15, w16, w17, w18, w19, w20, w21, w22, w23, w24, w25, w26, w27, w28, w29, w30, w31, w32, w33, w34, w35, w36, w37, w38, w39, w40, w41, w42, w43, w44, w45, w46, w47, w48, w49, w50, w51, w52, w53, w54, w55, w56, w57, w58, w59, w60, w61, w62])), (ou, .inl (y 1, 60000, .inl ge0)), (sg, .inr (0, [.ref bv, .int 0, w63, w64])), (bv, .inl (y 0, 20, .inl f))] := hD
    have hw : r3 = 20 := hw
    subst hw
    refine lv_icmp_ge (tgt := 25) hx hb dX12_putText_7 (by decide) (fun _ => ?_) (fun c9 => absurd (by decide) c9)
    have hP9 := hP.sub (ws' := [(h0, .inr (16, [w1, w2, w3, w4, .int (nI (j + 20)), .ref ou, w5, w6, w7, w8, w9, w10, w11, w12, w13, w14, w15, w16, w17, w18, w19, w20, w21, w22, w23, w24, w25, w26, w27, w28, w29, w30, w31, w32, w33, w34, w35, w36, w37, w38, w39, w40, w41, w42, w43, w44, w45, w46, w47, w48, w49, w50, w51, w52, w53, w54, w55, w56, w57, w58, w59, w60, w61, w62])), (ou, .inl (y 1, 60000, .inl ge0)), (sg, .inr (0, [.ref bv, .int 0, w63, w64])), (bv, .inl (y 0, 20, .inl f))]) [0, 1, 2, 3] rfl
    have hD9 := hD.sub (ws' := [(h0, .inr (16, [w1, w2, w3, w4, .int (nI (j + 20)), .ref ou, w5, w6, w7, w8, w9, w10, w11, w12, w13, w14, w15, w16, w17, w18, w19, w20, w21, w22, w23, w24, w25, w26, w27, w28, w29, w30, w31, w32, w33, w34, w35, w36, w37, w38, w39, w40, w41, w42, w43, w44, w45, w46, w47, w48, w49, w50, w51, w52, w53, w54, w55, w56, w57, w58, w59, w60, w61, w62])), (ou, .inl (y 1, 60000, .inl ge0)), (sg, .inr (0, [.ref bv, .int 0, w63, w64])), (bv, .inl (y 0, 20, .inl f))]) [0, 1, 2, 3] (by decide) rfl
    refine W.widen (k := 0) (n := 0) (Nat.le_of_ble_eq_true rfl) (Nat.le_of_ble_eq_true rfl) ?_
    exact W.vret hx hb hr (fun t ht hW => ⟨⟨(), rfl, trivial, ge0, by rw [ht]; exact hP9, hD9⟩, hS.F ht⟩) hS.2.2 dX12_putText_25
def wz_c_M_putText_29 : List Cond := .code yX12_putText cX12_putText 3 none :: ([.methodLink RX12 210 yJ0_length_8abf5, .instanceMethod yJ0_length_8abf5, .selects RJ0 yJ0_length_8abf5 yJ0_length_8abf5, .initialized RJ0, .methodLink RX12 215 yJ0_charAt_5068e, .instanceMethod yJ0_charAt_5068e, .selects RJ0 yJ0_charAt_5068e yJ0_charAt_5068e, .methodLink RX12 605 yX12_put, .instanceMethod yX12_put, .selects RX12 yX12_put yX12_put, .initialized RX12] ++ (wz_c_len_w_29 ++ (wz_c_chr_w_29 ++ (wz_c_M_put ++ ([])))))
set_option maxRecDepth 100000 in
theorem gz_c_M_putText_29_c_len_w_29 : GoodIn wz_c_M_putText_29 wz_c_len_w_29 := goodIn_sub (fun w h => List.mem_cons_of_mem _ (List.mem_append_right _ (List.mem_append_left _ h))) (by decide +kernel)
set_option maxRecDepth 100000 in
theorem gz_c_M_putText_29_c_chr_w_29 : GoodIn wz_c_M_putText_29 wz_c_chr_w_29 := goodIn_sub (fun w h => List.mem_cons_of_mem _ (List.mem_append_right _ (List.mem_append_right _ (List.mem_append_left _ h)))) (by decide +kernel)
set_option maxRecDepth 100000 in
theorem gz_c_M_putText_29_c_M_put : GoodIn wz_c_M_putText_29 wz_c_M_put := goodIn_sub (fun w h => List.mem_cons_of_mem _ (List.mem_append_right _ (List.mem_append_right _ (List.mem_append_right _ (List.mem_append_left _ h))))) (by decide +kernel)
set_option maxRecDepth 100000 in
theorem gv_c_M_putText_29_c_len_w_29_210 : GoodIn wz_c_M_putText_29 (wsV RX12 210 RJ0 yJ0_length_8abf5 wz_c_len_w_29) := goodIn_app (goodIn_of _ (by decide +kernel)) gz_c_M_putText_29_c_len_w_29
set_option maxRecDepth 100000 in
theorem gv_c_M_putText_29_c_chr_w_29_215 : GoodIn wz_c_M_putText_29 (wsV RX12 215 RJ0 yJ0_charAt_5068e wz_c_chr_w_29) := goodIn_app (goodIn_of _ (by decide +kernel)) gz_c_M_putText_29_c_chr_w_29
set_option maxRecDepth 100000 in
theorem gv_c_M_putText_29_c_M_put_605 : GoodIn wz_c_M_putText_29 (wsV RX12 605 RX12 yX12_put wz_c_M_put) := goodIn_app (goodIn_of _ (by decide +kernel)) gz_c_M_putText_29_c_M_put
set_option maxHeartbeats 4000000 in
set_option maxRecDepth 100000 in
theorem ax_c_M_putText_29_0 : ∀ k1 : Nat, k1 < 29 → 0 ≤ k1 → ¬ (29 : Int32) ≤ (nI k1) := by decide +kernel
set_option maxHeartbeats 4000000 in
set_option maxRecDepth 100000 in
theorem ax_c_M_putText_29_1 : ∀ k1 : Nat, k1 < 29 → 0 ≤ k1 → nI k1 + Int32.ofInt 1 = nI (k1 + 1) := by decide +kernel
set_option maxHeartbeats 4000000 in
set_option maxRecDepth 100000 in
theorem c_M_putText_29 (l : Launch) (D : va_G) (y : Nat → ClassId) (sz : Nat) (h0 : Nat) (ou : Nat) (sg : Nat) (bv : Nat) (j : Nat) (w1 : Value) (w2 : Value) (w3 : Value) (w4 : Value) (w5 : Value) (w6 : Value) (w7 : Value) (w8 : Value) (w9 : Value) (w10 : Value) (w11 : Value) (w12 : Value) (w13 : Value) (w14 : Value) (w15 : Value) (w16 : Value) (w17 : Value) (w18 : Value) (w19 : Value) (w20 : Value) (w21 : Value) (w22 : Value) (w23 : Value) (w24 : Value) (w25 : Value) (w26 : Value) (w27 : Value) (w28 : Value) (w29 : Value) (w30 : Value) (w31 : Value) (w32 : Value) (w33 : Value) (w34 : Value) (w35 : Value) (w36 : Value) (w37 : Value) (w38 : Value) (w39 : Value) (w40 : Value) (w41 : Value) (w42 : Value) (w43 : Value) (w44 : Value) (w45 : Value) (w46 : Value) (w47 : Value) (w48 : Value) (w49 : Value) (w50 : Value) (w51 : Value) (w52 : Value) (w53 : Value) (w54 : Value) (w55 : Value) (w56 : Value) (w57 : Value) (w58 : Value) (w59 : Value) (w60 : Value) (w61 : Value) (w62 : Value) (w63 : Value) (w64 : Value) (g : Nat → Int32) (f : Nat → Int32) (hjn : j + 29 ≤ 60000) : Met l yX12_putText wz_c_M_putText_29 ({ frames := 4, cells := 0, slots := 0, locals := 85 }) (va_Pc [.ref h0, .ref sg] (zB D y [(h0, .inr (16, [w1, w2, w3, w4, .int (nI j), .ref ou, w5, w6, w7, w8, w9, w10, w11, w12, w13, w14, w15, w16, w17, w18, w19, w20, w21, w22, w23, w24, w25, w26, w27, w28, w29, w30, w31, w32, w33, w34, w35, w36, w37, w38, w39, w40, w41, w42, w43, w44, w45, w46, w47, w48, w49, w50, w51, w52, w53, w54, w55, w56, w57, w58, w59, w60, w61, w62])), (ou, .inl (y 1, 60000, .inl g)), (sg, .inr (0, [.ref bv, .int 0, w63, w64])), (bv, .inl (y 0, 29, .inl f))] sz [] [("java/lang/String", "COMPACT_STRINGS", "Z", .int 1)] [] [.inr (.inr (.inr (.inr ("jdk/internal/util/Preconditions", "SIOOBE_FORMATTER", "Ljava/util/function/BiFunction;"))))])) (va_Qv (fun _ : Unit => True) (fun _ t => ∃ fz0 : Nat → Int32, va_P D vwCl [(h0, .inr (16, [w1, w2, w3, w4, .int (nI (j + 29)), .ref ou, w5, w6, w7, w8, w9, w10, w11, w12, w13, w14, w15, w16, w17, w18, w19, w20, w21, w22, w23, w24, w25, w26, w27, w28, w29, w30, w31, w32, w33, w34, w35, w36, w37, w38, w39, w40, w41, w42, w43, w44, w45, w46, w47, w48, w49, w50, w51, w52, w53, w54, w55, w56, w57, w58, w59, w60, w61, w62])), (ou, .inl (y 1, 60000, .inl fz0)), (sg, .inr (0, [.ref bv, .int 0, w63, w64])), (bv, .inl (y 0, 29, .inl f))] t.heap ∧ va_D (va_A [(h0, .inr (16, [w1, w2, w3, w4, .int (nI j), .ref ou, w5, w6, w7, w8, w9, w10, w11, w12, w13, w14, w15, w16, w17, w18, w19, w20, w21, w22, w23, w24, w25, w26, w27, w28, w29, w30, w31, w32, w33, w34, w35, w36, w37, w38, w39, w40, w41, w42, w43, w44, w45, w46, w47, w48, w49, w50, w51, w52, w53, w54, w55, w56, w57, w58, w59, w60, w61, w62])), (ou, .inl (y 1, 60000, .inl g)), (sg, .inr (0, [.ref bv, .int 0, w63, w64])), (bv, .inl (y 0, 29, .inl f))] sz) [(h0, .inr (16, [w1, w2, w3, w4, .int (nI (j + 29)), .ref ou, w5, w6, w7, w8, w9, w10, w11, w12, w13, w14, w15, w16, w17, w18, w19, w20, w21, w22, w23, w24, w25, w26, w27, w28, w29, w30, w31, w32, w33, w34, w35, w36, w37, w38, w39, w40, w41, w42, w43, w44, w45, w46, w47, w48, w49, w50, w51, w52, w53, w54, w55, w56, w57, w58, w59, w60, w61, w62])), (ou, .inl (y 1, 60000, .inl fz0)), (sg, .inr (0, [.ref bv, .int 0, w63, w64])), (bv, .inl (y 0, 29, .inl f))]) (va_A [(h0, .inr (16, [w1, w2, w3, w4, .int (nI j), .ref ou, w5, w6, w7, w8, w9, w10, w11, w12, w13, w14, w15, w16, w17, w18, w19, w20, w21, w22, w23, w24, w25, w26, w27, w28, w29, w30, w31, w32, w33, w34, w35, w36, w37, w38, w39, w40, w41, w42, w43, w44, w45, w46, w47, w48, w49, w50, w51, w52, w53, w54, w55, w56, w57, w58, w59, w60, w61, w62])), (ou, .inl (y 1, 60000, .inl g)), (sg, .inr (0, [.ref bv, .int 0, w63, w64])), (bv, .inl (y 0, 29, .inl f))] sz)) 0 0 (va_A [(h0, .inr (16, [w1, w2, w3, w4, .int (nI j), .ref ou, w5, w6, w7, w8, w9, w10, w11, w12, w13, w14, w15, w16, w17, w18, w19, w20, w21, w22, w23, w24, w25, w26, w27, w28, w29, w30, w31, w32, w33, w34, w35, w36, w37, w38, w39, w40, w41, w42, w43, w44, w45, w46, w47, w48, w49, w50, w51, w52, w53, w54, w55, w56, w57, w58, w59, w60, w61, w62])), (ou, .inl (y 1, 60000, .inl g)), (sg, .inr (0, [.ref bv, .int 0, w63, w64])), (bv, .inl (y 0, 29, .inl f))] sz) := by
  refine Met.ofW (cc := cX12_putText) (maxL := 3) (ret := none) (by decide) rfl ?_
  intro p e s m args below meth c s₁ B hml hv
  obtain ⟨rfl, hsz, hP, hK, hD0, hN, hE, hO, hT, hG⟩ := hv
  have hx := B.exec
  have hb := B.bytes
  have hr := B.returns
  have hts := atoms_spec (ws := wz_c_M_putText_29) B.pre
  have hown : s.vm.findClass RX12 = some m.cls := findClass_of_methodNamed B.named
  have hlocks := B.notSynchronized
  subst hsz
  have hD := hD0.self (sz := s.heap.size)
  generalize hAe : va_A [(h0, .inr (16, [w1, w2, w3, w4, .int (nI j), .ref ou, w5, w6, w7, w8, w9, w10, w11, w12, w13, w14, w15, w16, w17, w18, w19, w20, w21, w22, w23, w24, w25, w26, w27, w28, w29, w30, w31, w32, w33, w34, w35, w36, w37, w38, w39, w40, w41, w42, w43, w44, w45, w46, w47, w48, w49, w50, w51, w52, w53, w54, w55, w56, w57, w58, w59, w60, w61, w62])), (ou, .inl (y 1, 60000, .inl g)), (sg, .inr (0, [.ref bv, .int 0, w63, w64])), (bv, .inl (y 0, 29, .inl f))] s.heap.size = A at hD hE hT hG ⊢
  have hA : ∀ q : Nat, s.heap.size ≤ q → A q := fun q h => by rw [← hAe]; exact Or.inr h
  have hS : va_S A s.heap s.heap [] := va_S.rf
  have hl := lv_entry ([.ref h0, .ref sg]) (n := 3) (Nat.le_of_ble_eq_true rfl)
  rw [lg_entry_eq]
  generalize (lg_sl ([.ref h0, .ref sg]) ++ List.replicate (3 - (lg_sl ([.ref h0, .ref sg])).length) Slot.unset).toArray = ls at hl ⊢
  have hl : lv_has ls 3 [(0, .ref h0), (1, .ref sg)] := hl
  refine lv_iconst (v := 0) hx hb dX12_putText_0 (by decide) ?_
  refine lv_istore_n (lv' := [(2, .int 0), (0, .ref h0), (1, .ref sg)]) hx hb dX12_putText_1 rfl hl (by decide) rfl (fun ls hl => ?_)
  have hl : lv_has ls 3 [(2, .int (nI 0)), (0, .ref h0), (1, .ref sg)] := lv_sub hl [0, 1, 2] rfl
  refine zz_loop (I := fun (k1 : Nat) (ls : Array Slot) (H : Heap) (locs : List Loc) => ∃ ge0 : Nat → Int32, va_P D vwCl [(h0, .inr (16, [w1, w2, w3, w4, Value.int (nI (j + k1)), Value.ref ou, w5, w6, w7, w8, w9, w10, w11, w12, w13, w14, w15, w16, w17, w18, w19, w20, w21, w22, w23, w24, w25, w26, w27, w28, w29, w30, w31, w32, w33, w34, w35, w36, w37, w38, w39, w40, w41, w42, w43, w44, w45, w46, w47, w48, w49, w50, w51, w52, w53, w54, w55, w56, w57, w58, w59, w60, w61, w62])), (ou, .inl (y 1, 60000, .inl ge0)), (sg, .inr (0, [Value.ref bv, Value.int 0, w63, w64])), (bv, .inl (y 0, 29, .inl f))] H ∧ va_D A [(h0, .inr (16, [w1, w2, w3, w4, Value.int (nI (j + k1)), Value.ref ou, w5, w6, w7, w8, w9, w10, w11, w12, w13, w14, w15, w16, w17, w18, w19, w20, w21, w22, w23, w24, w25, w26, w27, w28, w29, w30, w31, w32, w33, w34, w35, w36, w37, w38, w39, w40, w41, w42, w43, w44, w45, w46, w47, w48, w49, w50, w51, w52, w53, w54, w55, w56, w57, w58, w59, w60, w61, w62])), (ou, .inl (y 1, 60000, .inl ge0)), (sg, .inr (0, [Value.ref bv, Value.int 0, w63, w64])), (bv, .inl (y 0, 29, .inl f))] ∧ va_S A s.heap H locs ∧ lv_has ls 3 [(2, Value.int (nI k1)), (0, Value.ref h0), (1, Value.ref sg)]) 0 29 (by decide) ⟨_, hP, hD, hS, hl⟩ (fun k1 ls H locs hk10 hk11 hI ih => ?_) (fun ls H locs hI => ?_)
  · obtain ⟨ge0, hP, hD, hS, hl⟩ := hI
    have hl : lv_has ls 3 [(2, .int (nI k1)), (0, .ref h0), (1, .ref sg)] := hl
    have hP : va_P D vwCl [(h0, .inr (16, [w1, w2, w3, w4, .int (nI (j + k1)), .ref ou, w5, w6, w7, w8, w9, w10, w11, w12, w13, w14, w15, w16, w17, w18, w19, w20, w21, w22, w23, w24, w25, w26, w27, w28, w29, w30, w31, w32, w33, w34, w35, w36, w37, w38, w39, w40, w41, w42, w43, w44, w45, w46, w47, w48, w49, w50, w51, w52, w53, w54, w55, w56, w57, w58, w59, w60, w61, w62])), (ou, .inl (y 1, 60000, .inl ge0)), (sg, .inr (0, [.ref bv, .int 0, w63, w64])), (bv, .inl (y 0, 29, .inl f))] H := hP
    have hD : va_D A [(h0, .inr (16, [w1, w2, w3, w4, .int (nI (j + k1)), .ref ou, w5, w6, w7, w8, w9, w10, w11, w12, w13, w14, w15, w16, w17, w18, w19, w20, w21, w22, w23, w24, w25, w26, w27, w28, w29, w30, w31, w32, w33, w34, w35, w36, w37, w38, w39, w40, w41, w42, w43, w44, w45, w46, w47, w48, w49, w50, w51, w52, w53, w54, w55, w56, w57, w58, w59, w60, w61, w62])), (ou, .inl (y 1, 60000, .inl ge0)), (sg, .inr (0, [.ref bv, .int 0, w63, w64])), (bv, .inl (y 0, 29, .inl f))] := hD
    refine lv_iload_n hx hb dX12_putText_2 rfl (lv_at hl 0 rfl) ?_
    refine lv_aload_n hx hb dX12_putText_3 rfl (lv_at hl 2 rfl) ?_
    have hPc := hP.sub (ws' := [(sg, .inr (0, [.ref bv, .int 0, w63, w64])), (bv, .inl (y 0, 29, .inl f))]) [2, 3] rfl
    have hDc := hD.sub (ws' := [(sg, .inr (0, [.ref bv, .int 0, w63, w64])), (bv, .inl (y 0, 29, .inl f))]) [2, 3] (by decide) rfl
    have hFc := va_free (wc := [(sg, .inr (0, [.ref bv, .int 0, w63, w64])), (bv, .inl (y 0, 29, .inl f))]) hD hS hA [2, 3] rfl
    refine va_calli (va_runV (As := []) (rest := [.int (nI k1)]) ⟨hx, hb, hml, hown, hts⟩ (c_len_w_29 l D y H.size sg bv w63 w64 f) (cwV 0 hts gv_c_M_putText_29_c_len_w_29_210 rfl rfl rfl (by decide +kernel) ⟨(Nat.le_of_ble_eq_true rfl), (Nat.le_of_ble_eq_true rfl)⟩) (zB.preV hPc hDc hK hN hE hO hT hG hS hFc (fun _ h => nomatch h) (List.forall_mem_cons.mpr ⟨List.mem_of_getElem? (i := 0) rfl, (fun _ h => nomatch h)⟩) (fun _ h => nomatch h) (fun _ h => nomatch h) (va_recv hK hPc (ci := 0) (q0 := 0) rfl rfl)) rfl rfl hl.1 rfl (lv_room (Nat.le_of_ble_eq_true rfl)) dX12_putText_4 ⟨(Nat.le_of_ble_eq_true rfl), (Nat.le_of_ble_eq_true rfl)⟩) hS (fun q _ h => hFc q h) hFc (fun r1 u t H1 locs ht hvm hw hB hz1 hk1 hS => ?_)
    obtain ⟨hP1, hD1⟩ := hB
    rw [ht] at hP1
    obtain ⟨hP, hD⟩ := va_join (wr := [(h0, .inr (16, [w1, w2, w3, w4, .int (nI (j + k1)), .ref ou, w5, w6, w7, w8, w9, w10, w11, w12, w13, w14, w15, w16, w17, w18, w19, w20, w21, w22, w23, w24, w25, w26, w27, w28, w29, w30, w31, w32, w33, w34, w35, w36, w37, w38, w39, w40, w41, w42, w43, w44, w45, w46, w47, w48, w49, w50, w51, w52, w53, w54, w55, w56, w57, w58, w59, w60, w61, w62])), (ou, .inl (y 1, 60000, .inl ge0))]) (w1 := [(sg, .inr (0, [.ref bv, .int 0, w63, w64])), (bv, .inl (y 0, 29, .inl f))]) hP hD [2, 3] [0, 1] rfl rfl (by decide) (by decide) hk1 hFc hP1 hD1
    generalize H1 = H at hP hS ⊢
    have hP : va_P D vwCl [(h0, .inr (16, [w1, w2, w3, w4, .int (nI (j + k1)), .ref ou, w5, w6, w7, w8, w9, w10, w11, w12, w13, w14, w15, w16, w17, w18, w19, w20, w21, w22, w23, w24, w25, w26, w27, w28, w29, w30, w31, w32, w33, w34, w35, w36, w37, w38, w39, w40, w41, w42, w43, w44, w45, w46, w47, w48, w49, w50, w51, w52, w53, w54, w55, w56, w57, w58, w59, w60, w61, w62])), (ou, .inl (y 1, 60000, .inl ge0)), (sg, .inr (0, [.ref bv, .int 0, w63, w64])), (bv, .inl (y 0, 29, .inl f))] H := hP
    have hD : va_D A [(h0, .inr (16, [w1, w2, w3, w4, .int (nI (j + k1)), .ref ou, w5, w6, w7, w8, w9, w10, w11, w12, w13, w14, w15, w16, w17, w18, w19, w20, w21, w22, w23, w24, w25, w26, w27, w28, w29, w30, w31, w32, w33, w34, w35, w36, w37, w38, w39, w40, w41, w42, w43, w44, w45, w46, w47, w48, w49, w50, w51, w52, w53, w54, w55, w56, w57, w58, w59, w60, w61, w62])), (ou, .inl (y 1, 60000, .inl ge0)), (sg, .inr (0, [.ref bv, .int 0, w63, w64])), (bv, .inl (y 0, 29, .inl f))] := hD
    have hw : r1 = 29 := hw
    subst hw
    refine lv_icmp_ge (tgt := 25) hx hb dX12_putText_7 (by decide) (fun c9 => absurd c9 (ax_c_M_putText_29_0 k1 hk11 hk10)) (fun _ => ?_)
    refine lv_aload_n hx hb dX12_putText_10 rfl (lv_at hl 1 rfl) ?_
    refine lv_aload_n hx hb dX12_putText_11 rfl (lv_at hl 2 rfl) ?_
    refine lv_iload_n hx hb dX12_putText_12 rfl (lv_at hl 0 rfl) ?_
    have hPc := hP.sub (ws' := [(sg, .inr (0, [.ref bv, .int 0, w63, w64])), (bv, .inl (y 0, 29, .inl f))]) [2, 3] rfl
    have hDc := hD.sub (ws' := [(sg, .inr (0, [.ref bv, .int 0, w63, w64])), (bv, .inl (y 0, 29, .inl f))]) [2, 3] (by decide) rfl
    have hFc := va_free (wc := [(sg, .inr (0, [.ref bv, .int 0, w63, w64])), (bv, .inl (y 0, 29, .inl f))]) hD hS hA [2, 3] rfl
    refine va_calli (va_runV (As := [.int (nI k1)]) (rest := [.ref h0]) ⟨hx, hb, hml, hown, hts⟩ (c_chr_w_29 l D y H.size sg bv w63 w64 k1 f (by omega)) (cwV 1 hts gv_c_M_putText_29_c_chr_w_29_215 rfl rfl rfl (by decide +kernel) ⟨(Nat.le_of_ble_eq_true rfl), (Nat.le_of_ble_eq_true rfl)⟩) (zB.preV hPc hDc hK hN hE hO hT hG hS hFc (fun _ h => nomatch h) (List.forall_mem_cons.mpr ⟨List.mem_of_getElem? (i := 0) rfl, (fun _ h => nomatch h)⟩) (fun _ h => nomatch h) (List.forall_mem_cons.mpr ⟨List.mem_of_getElem? (i := 0) rfl, (fun _ h => nomatch h)⟩) (va_recv hK hPc (ci := 0) (q0 := 0) rfl rfl)) rfl rfl hl.1 rfl (lv_room (Nat.le_of_ble_eq_true rfl)) dX12_putText_13 ⟨(Nat.le_of_ble_eq_true rfl), (Nat.le_of_ble_eq_true rfl)⟩) hS (fun q _ h => hFc q h) hFc (fun r2 u t H1 locs ht hvm hw hB hz1 hk1 hS => ?_)
    obtain ⟨hP1, hD1⟩ := hB
    rw [ht] at hP1
    obtain ⟨hP, hD⟩ := va_join (wr := [(h0, .inr (16, [w1, w2, w3, w4, .int (nI (j + k1)), .ref ou, w5, w6, w7, w8, w9, w10, w11, w12, w13, w14, w15, w16, w17, w18, w19, w20, w21, w22, w23, w24, w25, w26, w27, w28, w29, w30, w31, w32, w33, w34, w35, w36, w37, w38, w39, w40, w41, w42, w43, w44, w45, w46, w47, w48, w49, w50, w51, w52, w53, w54, w55, w56, w57, w58, w59, w60, w61, w62])), (ou, .inl (y 1, 60000, .inl ge0))]) (w1 := [(sg, .inr (0, [.ref bv, .int 0, w63, w64])), (bv, .inl (y 0, 29, .inl f))]) hP hD [2, 3] [0, 1] rfl rfl (by decide) (by decide) hk1 hFc hP1 hD1
    generalize H1 = H at hP hS ⊢
    have hP : va_P D vwCl [(h0, .inr (16, [w1, w2, w3, w4, .int (nI (j + k1)), .ref ou, w5, w6, w7, w8, w9, w10, w11, w12, w13, w14, w15, w16, w17, w18, w19, w20, w21, w22, w23, w24, w25, w26, w27, w28, w29, w30, w31, w32, w33, w34, w35, w36, w37, w38, w39, w40, w41, w42, w43, w44, w45, w46, w47, w48, w49, w50, w51, w52, w53, w54, w55, w56, w57, w58, w59, w60, w61, w62])), (ou, .inl (y 1, 60000, .inl ge0)), (sg, .inr (0, [.ref bv, .int 0, w63, w64])), (bv, .inl (y 0, 29, .inl f))] H := hP
    have hD : va_D A [(h0, .inr (16, [w1, w2, w3, w4, .int (nI (j + k1)), .ref ou, w5, w6, w7, w8, w9, w10, w11, w12, w13, w14, w15, w16, w17, w18, w19, w20, w21, w22, w23, w24, w25, w26, w27, w28, w29, w30, w31, w32, w33, w34, w35, w36, w37, w38, w39, w40, w41, w42, w43, w44, w45, w46, w47, w48, w49, w50, w51, w52, w53, w54, w55, w56, w57, w58, w59, w60, w61, w62])), (ou, .inl (y 1, 60000, .inl ge0)), (sg, .inr (0, [.ref bv, .int 0, w63, w64])), (bv, .inl (y 0, 29, .inl f))] := hD
    have hw : r2 = (f (nI k1).toNatClampNeg) &&& (255 : Int32) := hw
    subst hw
    have hPc := hP.sub (ws' := [(h0, .inr (16, [w1, w2, w3, w4, .int (nI (j + k1)), .ref ou, w5, w6, w7, w8, w9, w10, w11, w12, w13, w14, w15, w16, w17, w18, w19, w20, w21, w22, w23, w24, w25, w26, w27, w28, w29, w30, w31, w32, w33, w34, w35, w36, w37, w38, w39, w40, w41, w42, w43, w44, w45, w46, w47, w48, w49, w50, w51, w52, w53, w54, w55, w56, w57, w58, w59, w60, w61, w62])), (ou, .inl (y 1, 60000, .inl ge0))]) [0, 1] rfl
    have hDc := hD.sub (ws' := [(h0, .inr (16, [w1, w2, w3, w4, .int (nI (j + k1)), .ref ou, w5, w6, w7, w8, w9, w10, w11, w12, w13, w14, w15, w16, w17, w18, w19, w20, w21, w22, w23, w24, w25, w26, w27, w28, w29, w30, w31, w32, w33, w34, w35, w36, w37, w38, w39, w40, w41, w42, w43, w44, w45, w46, w47, w48, w49, w50, w51, w52, w53, w54, w55, w56, w57, w58, w59, w60, w61, w62])), (ou, .inl (y 1, 60000, .inl ge0))]) [0, 1] (by decide) rfl
    have hFc := va_free (wc := [(h0, .inr (16, [w1, w2, w3, w4, .int (nI (j + k1)), .ref ou, w5, w6, w7, w8, w9, w10, w11, w12, w13, w14, w15, w16, w17, w18, w19, w20, w21, w22, w23, w24, w25, w26, w27, w28, w29, w30, w31, w32, w33, w34, w35, w36, w37, w38, w39, w40, w41, w42, w43, w44, w45, w46, w47, w48, w49, w50, w51, w52, w53, w54, w55, w56, w57, w58, w59, w60, w61, w62])), (ou, .inl (y 1, 60000, .inl ge0))]) hD hS hA [0, 1] rfl
    refine va_callv (va_runV (As := [.int ((f (nI k1).toNatClampNeg) &&& (255 : Int32))]) (rest := []) ⟨hx, hb, hml, hown, hts⟩ (c_M_put l D y H.size h0 ou ((j + k1)) w1 w2 w3 w4 w5 w6 w7 w8 w9 w10 w11 w12 w13 w14 w15 w16 w17 w18 w19 w20 w21 w22 w23 w24 w25 w26 w27 w28 w29 w30 w31 w32 w33 w34 w35 w36 w37 w38 w39 w40 w41 w42 w43 w44 w45 w46 w47 w48 w49 w50 w51 w52 w53 w54 w55 w56 w57 w58 w59 w60 w61 w62 ge0 ((f (nI k1).toNatClampNeg) &&& (255 : Int32)) (by omega)) (cwV 1 hts gv_c_M_putText_29_c_M_put_605 rfl rfl rfl (by decide +kernel) ⟨(Nat.le_of_ble_eq_true rfl), (Nat.le_of_ble_eq_true rfl)⟩) (zB.preV hPc hDc hK hN hE hO hT hG hS hFc (fun _ h => nomatch h) (fun _ h => nomatch h) (fun _ h => nomatch h) (fun _ h => nomatch h) (va_recv hK hPc (ci := 16) (q0 := 0) rfl rfl)) rfl rfl hl.1 rfl (lv_room (Nat.le_of_ble_eq_true rfl)) dX12_putText_16 ⟨(Nat.le_of_ble_eq_true rfl), (Nat.le_of_ble_eq_true rfl)⟩) hS (fun q _ h => hFc q h) hFc (fun u t H1 locs ht hvm hw hB hz1 hk1 hS => ?_)
    obtain ⟨hP1, hD1⟩ := hB
    rw [ht] at hP1
    obtain ⟨hP, hD⟩ := va_join (wr := [(sg, .inr (0, [.ref bv, .int 0, w63, w64])), (bv, .inl (y 0, 29, .inl f))]) (w1 := [(h0, .inr (16, [w1, w2, w3, w4, .int (nI ((j + k1) + 1)), .ref ou, w5, w6, w7, w8, w9, w10, w11, w12, w13, w14, w15, w16, w17, w18, w19, w20, w21, w22, w23, w24, w25, w26, w27, w28, w29, w30, w31, w32, w33, w34, w35, w36, w37, w38, w39, w40, w41, w42, w43, w44, w45, w46, w47, w48, w49, w50, w51, w52, w53, w54, w55, w56, w57, w58, w59, w60, w61, w62])), (ou, .inl (y 1, 60000, .inl (upd ge0 (nI (j + k1)).toNatClampNeg (((f (nI k1).toNatClampNeg) &&& (255 : Int32)) &&& (255 : Int32)))))]) hP hD [0, 1] [2, 3] rfl rfl (by decide) (by decide) hk1 hFc hP1 hD1
    generalize H1 = H at hP hS ⊢
    have hP : va_P D vwCl [(sg, .inr (0, [.ref bv, .int 0, w63, w64])), (bv, .inl (y 0, 29, .inl f)), (h0, .inr (16, [w1, w2, w3, w4, .int (nI ((j + k1) + 1)), .ref ou, w5, w6, w7, w8, w9, w10, w11, w12, w13, w14, w15, w16, w17, w18, w19, w20, w21, w22, w23, w24, w25, w26, w27, w28, w29, w30, w31, w32, w33, w34, w35, w36, w37, w38, w39, w40, w41, w42, w43, w44, w45, w46, w47, w48, w49, w50, w51, w52, w53, w54, w55, w56, w57, w58, w59, w60, w61, w62])), (ou, .inl (y 1, 60000, .inl (upd ge0 (nI (j + k1)).toNatClampNeg (((f (nI k1).toNatClampNeg) &&& (255 : Int32)) &&& (255 : Int32)))))] H := hP
    have hD : va_D A [(sg, .inr (0, [.ref bv, .int 0, w63, w64])), (bv, .inl (y 0, 29, .inl f)), (h0, .inr (16, [w1, w2, w3, w4, .int (nI ((j + k1) + 1)), .ref ou, w5, w6, w7, w8, w9, w10, w11, w12, w13, w14, w15, w16, w17, w18, w19, w20, w21, w22, w23, w24, w25, w26, w27, w28, w29, w30, w31, w32, w33, w34, w35, w36, w37, w38, w39, w40, w41, w42, w43, w44, w45, w46, w47, w48, w49, w50, w51, w52, w53, w54, w55, w56, w57, w58, w59, w60, w61, w62])), (ou, .inl (y 1, 60000, .inl (upd ge0 (nI (j + k1)).toNatClampNeg (((f (nI k1).toNatClampNeg) &&& (255 : Int32)) &&& (255 : Int32)))))] := hD
    refine lv_iinc (v := nI (k1 + 1)) (lv' := [(2, .int (nI (k1 + 1))), (0, .ref h0), (1, .ref sg)]) hx hb dX12_putText_19 hl (k := 0) rfl (ax_c_M_putText_29_1 k1 hk11 hk10) (by decide) rfl (fun ls hl => ?_)
    refine lv_goto (tgt := 2) hx hb dX12_putText_22 (by decide) ?_
    have hP := hP.sub (ws' := [(h0, .inr (16, [w1, w2, w3, w4, .int (nI ((j + k1) + 1)), .ref ou, w5, w6, w7, w8, w9, w10, w11, w12, w13, w14, w15, w16, w17, w18, w19, w20, w21, w22, w23, w24, w25, w26, w27, w28, w29, w30, w31, w32, w33, w34, w35, w36, w37, w38, w39, w40, w41, w42, w43, w44, w45, w46, w47, w48, w49, w50, w51, w52, w53, w54, w55, w56, w57, w58, w59, w60, w61, w62])), (ou, .inl (y 1, 60000, .inl (upd ge0 (nI (j + k1)).toNatClampNeg (((f (nI k1).toNatClampNeg) &&& (255 : Int32)) &&& (255 : Int32))))), (sg, .inr (0, [.ref bv, .int 0, w63, w64])), (bv, .inl (y 0, 29, .inl f))]) [2, 3, 0, 1] rfl
    have hD := hD.sub (ws' := [(h0, .inr (16, [w1, w2, w3, w4, .int (nI ((j + k1) + 1)), .ref ou, w5, w6, w7, w8, w9, w10, w11, w12, w13, w14, w15, w16, w17, w18, w19, w20, w21, w22, w23, w24, w25, w26, w27, w28, w29, w30, w31, w32, w33, w34, w35, w36, w37, w38, w39, w40, w41, w42, w43, w44, w45, w46, w47, w48, w49, w50, w51, w52, w53, w54, w55, w56, w57, w58, w59, w60, w61, w62])), (ou, .inl (y 1, 60000, .inl (upd ge0 (nI (j + k1)).toNatClampNeg (((f (nI k1).toNatClampNeg) &&& (255 : Int32)) &&& (255 : Int32))))), (sg, .inr (0, [.ref bv, .int 0, w63, w64])), (bv, .inl (y 0, 29, .inl f))]) [2, 3, 0, 1] (by decide) rfl
    exact ih ls H locs ⟨_, hP, hD, hS, lv_sub hl [0, 1, 2] rfl⟩
  · obtain ⟨ge0, hP, hD, hS, hl⟩ := hI
    have hl : lv_has ls 3 [(2, .int (nI 29)), (0, .ref h0), (1, .ref sg)] := hl
    have hP : va_P D vwCl [(h0, .inr (16, [w1, w2, w3, w4, .int (nI (j + 29)), .ref ou, w5, w6, w7, w8, w9, w10, w11, w12, w13, w14, w15, w16, w17, w18, w19, w20, w21, w22, w23, w24, w25, w26, w27, w28, w29, w30, w31, w32, w33, w34, w35, w36, w37, w38, w39, w40, w41, w42, w43, w44, w45, w46, w47, w48, w49, w50, w51, w52, w53, w54, w55, w56, w57, w58, w59, w60, w61, w62])), (ou, .inl (y 1, 60000, .inl ge0)), (sg, .inr (0, [.ref bv, .int 0, w63, w64])), (bv, .inl (y 0, 29, .inl f))] H := hP
    have hD : va_D A [(h0, .inr (16, [w1, w2, w3, w4, .int (nI (j + 29)), .ref ou, w5, w6, w7, w8, w9, w10, w11, w12, w13, w14, w15, w16, w17, w18, w19, w20, w21, w22, w23, w24, w25, w26, w27, w28, w29, w30, w31, w32, w33, w34, w35, w36, w37, w38, w39, w40, w41, w42, w43, w44, w45, w46, w47, w48, w49, w50, w51, w52, w53, w54, w55, w56, w57, w58, w59, w60, w61, w62])), (ou, .inl (y 1, 60000, .inl ge0)), (sg, .inr (0, [.ref bv, .int 0, w63, w64])), (bv, .inl (y 0, 29, .inl f))] := hD
    refine lv_iload_n hx hb dX12_putText_2 rfl (lv_at hl 0 rfl) ?_
    refine lv_aload_n hx hb dX12_putText_3 rfl (lv_at hl 2 rfl) ?_
    have hPc := hP.sub (ws' := [(sg, .inr (0, [.ref bv, .int 0, w63, w64])), (bv, .inl (y 0, 29, .inl f))]) [2, 3] rfl
    have hDc := hD.sub (ws' := [(sg, .inr (0, [.ref bv, .int 0, w63, w64])), (bv, .inl (y 0, 29, .inl f))]) [2, 3] (by decide) rfl
    have hFc := va_free (wc := [(sg, .inr (0, [.ref bv, .int 0, w63, w64])), (bv, .inl (y 0, 29, .inl f))]) hD hS hA [2, 3] rfl
    refine va_calli (va_runV (As := []) (rest := [.int (nI 29)]) ⟨hx, hb, hml, hown, hts⟩ (c_len_w_29 l D y H.size sg bv w63 w64 f) (cwV 0 hts gv_c_M_putText_29_c_len_w_29_210 rfl rfl rfl (by decide +kernel) ⟨(Nat.le_of_ble_eq_true rfl), (Nat.le_of_ble_eq_true rfl)⟩) (zB.preV hPc hDc hK hN hE hO hT hG hS hFc (fun _ h => nomatch h) (List.forall_mem_cons.mpr ⟨List.mem_of_getElem? (i := 0) rfl, (fun _ h => nomatch h)⟩) (fun _ h => nomatch h) (fun _ h => nomatch h) (va_recv hK hPc (ci := 0) (q0 := 0) rfl rfl)) rfl rfl hl.1 rfl (lv_room (Nat.le_of_ble_eq_true rfl)) dX12_putText_4 ⟨(Nat.le_of_ble_eq_true rfl), (Nat.le_of_ble_eq_true rfl)⟩) hS (fun q _ h => hFc q h) hFc (fun r3 u t H1 locs ht hvm hw hB hz1 hk1 hS => ?_)
    obtain ⟨hP1, hD1⟩ := hB
    rw [ht] at hP1
    obtain ⟨hP, hD⟩ := va_join (wr := [(h0, .inr (16, [w1, w2, w3, w4, .int (nI (j + 29)), .ref ou, w5, w6, w7, w8, w9, w10, w11, w12, w13, w14, w15, w16, w17, w18, w19, w20, w21, w22, w23, w24, w25, w26, w27, w28, w29, w30, w31, w32, w33, w34, w35, w36, w37, w38, w39, w40, w41, w42, w43, w44, w45, w46, w47, w48, w49, w50, w51, w52, w53, w54, w55, w56, w57, w58, w59, w60, w61, w62])), (ou, .inl (y 1, 60000, .inl ge0))]) (w1 := [(sg, .inr (0, [.ref bv, .int 0, w63, w64])), (bv, .inl (y 0, 29, .inl f))]) hP hD [2, 3] [0, 1] rfl rfl (by decide) (by decide) hk1 hFc hP1 hD1
    generalize H1 = H at hP hS ⊢
    have hP : va_P D vwCl [(h0, .inr (16, [w1, w2, w3, w4, .int (nI (j + 29)), .ref ou, w5, w6, w7, w8, w9, w10, w11, w12, w13, w14, w15, w16, w17, w18, w19, w20, w21, w22, w23, w24, w25, w26, w27, w28, w29, w30, w31, w32, w33, w34, w35, w36, w37, w38, w39, w40, w41, w42, w43, w44, w45, w46, w47, w48, w49, w50, w51, w52, w53, w54, w55, w56, w57, w58, w59, w60, w61, w62])), (ou, .inl (y 1, 60000, .inl ge0)), (sg, .inr (0, [.ref bv, .int 0, w63, w64])), (bv, .inl (y 0, 29, .inl f))] H := hP
    have hD : va_D A [(h0, .inr (16, [w1, w2, w3, w4, .int (nI (j + 29)), .ref ou, w5, w6, w7, w8, w9, w10, w11, w12, w13, w14, w15, w16, w17, w18, w19, w20, w21, w22, w23, w24, w25, w26, w27, w28, w29, w30, w31, w32, w33, w34, w35, w36, w37, w38, w39, w40, w41, w42, w43, w44, w45, w46, w47, w48, w49, w50, w51, w52, w53, w54, w55, w56, w57, w58, w59, w60, w61, w62])), (ou, .inl (y 1, 60000, .inl ge0)), (sg, .inr (0, [.ref bv, .int 0, w63, w64])), (bv, .inl (y 0, 29, .inl f))] := hD
    have hw : r3 = 29 := hw
    subst hw
    refine lv_icmp_ge (tgt := 25) hx hb dX12_putText_7 (by decide) (fun _ => ?_) (fun c9 => absurd (by decide) c9)
    have hP9 := hP.sub (ws' := [(h0, .inr (16, [w1, w2, w3, w4, .int (nI (j + 29)), .ref ou, w5, w6, w7, w8, w9, w10, w11, w12, w13, w14, w15, w16, w17, w18, w19, w20, w21, w22, w23, w24, w25, w26, w27, w28, w29, w30, w31, w32, w33, w34, w35, w36, w37, w38, w39, w40, w41, w42, w43, w44, w45, w46, w47, w48, w49, w50, w51, w52, w53, w54, w55, w56, w57, w58, w59, w60, w61, w62])), (ou, .inl (y 1, 60000, .inl ge0)), (sg, .inr (0, [.ref bv, .int 0, w63, w64])), (bv, .inl (y 0, 29, .inl f))]) [0, 1, 2, 3] rfl
    have hD9 := hD.sub (ws' := [(h0, .inr (16, [w1, w2, w3, w4, .int (nI (j + 29)), .ref ou, w5, w6, w7, w8, w9, w10, w11, w12, w13, w14, w15, w16, w17, w18, w19, w20, w21, w22, w23, w24, w25, w26, w27, w28, w29, w30, w31, w32, w33, w34, w35, w36, w37, w38, w39, w40, w41, w42, w43, w44, w45, w46, w47, w48, w49, w50, w51, w52, w53, w54, w55, w56, w57, w58, w59, w60, w61, w62])), (ou, .inl (y 1, 60000, .inl ge0)), (sg, .inr (0, [.ref bv, .int 0, w63, w64])), (bv, .inl (y 0, 29, .inl f))]) [0, 1, 2, 3] (by decide) rfl
    refine W.widen (k := 0) (n := 0) (Nat.le_of_ble_eq_true rfl) (Nat.le_of_ble_eq_true rfl) ?_
    exact W.vret hx hb hr (fun t ht hW => ⟨⟨(), rfl, trivial, ge0, by rw [ht]; exact hP9, hD9⟩, hS.F ht⟩) hS.2.2 dX12_putText_25
def wz_c_M_putText_25 : List Cond := .code yX12_putText cX12_putText 3 none :: ([.methodLink RX12 210 yJ0_length_8abf5, .instanceMethod yJ0_length_8abf5, .selects RJ0 yJ0_length_8abf5 yJ0_length_8abf5, .initialized RJ0, .methodLink RX12 215 yJ0_charAt_5068e, .instanceMethod yJ0_charAt_5068e, .selects RJ0 yJ0_charAt_5068e yJ0_charAt_5068e, .methodLink RX12 605 yX12_put, .instanceMethod yX12_put, .selects RX12 yX12_put yX12_put, .initialized RX12] ++ (wz_c_len_w_25 ++ (wz_c_chr_w_25 ++ (wz_c_M_put ++ ([])))))
set_option maxRecDepth 100000 in
theorem gz_c_M_putText_25_c_len_w_25 : GoodIn wz_c_M_putText_25 wz_c_len_w_25 := goodIn_sub (fun w h => List.mem_cons_of_mem _ (List.mem_append_right _ (List.mem_append_left _ h))) (by decide +kernel)
set_option maxRecDepth 100000 in
theorem gz_c_M_putText_25_c_chr_w_25 : GoodIn wz_c_M_putText_25 wz_c_chr_w_25 := goodIn_sub (fun w h => List.mem_cons_of_mem _ (List.mem_append_right _ (List.mem_append_right _ (List.mem_append_left _ h)))) (by decide +kernel)
set_option maxRecDepth 100000 in
theorem gz_c_M_putText_25_c_M_put : GoodIn wz_c_M_putText_25 wz_c_M_put := goodIn_sub (fun w h => List.mem_cons_of_mem _ (List.mem_append_right _ (List.mem_append_right _ (List.mem_append_right _ (List.mem_append_left _ h))))) (by decide +kernel)
set_option maxRecDepth 100000 in
theorem gv_c_M_putText_25_c_len_w_25_210 : GoodIn wz_c_M_putText_25 (wsV RX12 210 RJ0 yJ0_length_8abf5 wz_c_len_w_25) := goodIn_app (goodIn_of _ (by decide +kernel)) gz_c_M_putText_25_c_len_w_25
set_option maxRecDepth 100000 in
theorem gv_c_M_putText_25_c_chr_w_25_215 : GoodIn wz_c_M_putText_25 (wsV RX12 215 RJ0 yJ0_charAt_5068e wz_c_chr_w_25) := goodIn_app (goodIn_of _ (by decide +kernel)) gz_c_M_putText_25_c_chr_w_25
set_option maxRecDepth 100000 in
theorem gv_c_M_putText_25_c_M_put_605 : GoodIn wz_c_M_putText_25 (wsV RX12 605 RX12 yX12_put wz_c_M_put) := goodIn_app (goodIn_of _ (by decide +kernel)) gz_c_M_putText_25_c_M_put
set_option maxHeartbeats 4000000 in
set_option maxRecDepth 100000 in
theorem ax_c_M_putText_25_0 : ∀ k1 : Nat, k1 < 25 → 0 ≤ k1 → ¬ (25 : Int32) ≤ (nI k1) := by decide +kernel
set_option maxHeartbeats 4000000 in
set_option maxRecDepth 100000 in
theorem ax_c_M_putText_25_1 : ∀ k1 : Nat, k1 < 25 → 0 ≤ k1 → nI k1 + Int32.ofInt 1 = nI (k1 + 1) := by decide +kernel
set_option maxHeartbeats 4000000 in
set_option maxRecDepth 100000 in
theorem c_M_putText_25 (l : Launch) (D : va_G) (y : Nat → ClassId) (sz : Nat) (h0 : Nat) (ou : Nat) (sg : Nat) (bv : Nat) (j : Nat) (w1 : Value) (w2 : Value) (w3 : Value) (w4 : Value) (w5 : Value) (w6 : Value) (w7 : Value) (w8 : Value) (w9 : Value) (w10 : Value) (w11 : Value) (w12 : Value) (w13 : Value) (w14 : Value) (w15 : Value) (w16 : Value) (w17 : Value) (w18 : Value) (w19 : Value) (w20 : Value) (w21 : Value) (w22 : Value) (w23 : Value) (w24 : Value) (w25 : Value) (w26 : Value) (w27 : Value) (w28 : Value) (w29 : Value) (w30 : Value) (w31 : Value) (w32 : Value) (w33 : Value) (w34 : Value) (w35 : Value) (w36 : Value) (w37 : Value) (w38 : Value) (w39 : Value) (w40 : Value) (w41 : Value) (w42 : Value) (w43 : Value) (w44 : Value) (w45 : Value) (w46 : Value) (w47 : Value) (w48 : Value) (w49 : Value) (w50 : Value) (w51 : Value) (w52 : Value) (w53 : Value) (w54 : Value) (w55 : Value) (w56 : Value) (w57 : Value) (w58 : Value) (w59 : Value) (w60 : Value) (w61 : Value) (w62 : Value) (w63 : Value) (w64 : Value) (g : Nat → Int32) (f : Nat → Int32) (hjn : j + 25 ≤ 60000) : Met l yX12_putText wz_c_M_putText_25 ({ frames := 4, cells := 0, slots := 0, locals := 85 }) (va_Pc [.ref h0, .ref sg] (zB D y [(h0, .inr (16, [w1, w2, w3, w4, .int (nI j), .ref ou, w5, w6, w7, w8, w9, w10, w11, w12, w13, w14, w15, w16, w17, w18, w19, w20, w21, w22, w23, w24, w25, w26, w27, w28, w29, w30, w31, w32, w33, w34, w35, w36, w37, w38, w39, w40, w41, w42, w43, w44, w45, w46, w47, w48, w49, w50, w51, w52, w53, w54, w55, w56, w57, w58, w59, w60, w61, w62])), (ou, .inl (y 1, 60000, .inl g)), (sg, .inr (0, [.ref bv, .int 0, w63, w64])), (bv, .inl (y 0, 25, .inl f))] sz [] [("java/lang/String", "COMPACT_STRINGS", "Z", .int 1)] [] [.inr (.inr (.inr (.inr ("jdk/internal/util/Preconditions", "SIOOBE_FORMATTER", "Ljava/util/function/BiFunction;"))))])) (va_Qv (fun _ : Unit => True) (fun _ t => ∃ fz0 : Nat → Int32, va_P D vwCl [(h0, .inr (16, [w1, w2, w3, w4, .int (nI (j + 25)), .ref ou, w5, w6, w7, w8, w9, w10, w11, w12, w13, w14, w15, w16, w17, w18, w19, w20, w21, w22, w23, w24, w25, w26, w27, w28, w29, w30, w31, w32, w33, w34, w35, w36, w37, w38, w39, w40, w41, w42, w43, w44, w45, w46, w47, w48, w49, w50, w51, w52, w53, w54, w55, w56, w57, w58, w59, w60, w61, w62])), (ou, .inl (y 1, 60000, .inl fz0)), (sg, .inr (0, [.ref bv, .int 0, w63, w64])), (bv, .inl (y 0, 25, .inl f))] t.heap ∧ va_D (va_A [(h0, .inr (16, [w1, w2, w3, w4, .int (nI j), .ref ou, w5, w6, w7, w8, w9, w10, w11, w12, w13, w14, w15, w16, w17, w18, w19, w20, w21, w22, w23, w24, w25, w26, w27, w28, w29, w30, w31, w32, w33, w34, w35, w36, w37, w38, w39, w40, w41, w42, w43, w44, w45, w46, w47, w48, w49, w50, w51, w52, w53, w54, w55, w56, w57, w58, w59, w60, w61, w62])), (ou, .inl (y 1, 60000, .inl g)), (sg, .inr (0, [.ref bv, .int 0, w63, w64])), (bv, .inl (y 0, 25, .inl f))] sz) [(h0, .inr (16, [w1, w2, w3, w4, .int (nI (j + 25)), .ref ou, w5, w6, w7, w8, w9, w10, w11, w12, w13, w14, w15, w16, w17, w18, w19, w20, w21, w22, w23, w24, w25, w26, w27, w28, w29, w30, w31, w32, w33, w34, w35, w36, w37, w38, w39, w40, w41, w42, w43, w44, w45, w46, w47, w48, w49, w50, w51, w52, w53, w54, w55, w56, w57, w58, w59, w60, w61, w62])), (ou, .inl (y 1, 60000, .inl fz0)), (sg, .inr (0, [.ref bv, .int 0, w63, w64])), (bv, .inl (y 0, 25, .inl f))]) (va_A [(h0, .inr (16, [w1, w2, w3, w4, .int (nI j), .ref ou, w5, w6, w7, w8, w9, w10, w11, w12, w13, w14, w15, w16, w17, w18, w19, w20, w21, w22, w23, w24, w25, w26, w27, w28, w29, w30, w31, w32, w33, w34, w35, w36, w37, w38, w39, w40, w41, w42, w43, w44, w45, w46, w47, w48, w49, w50, w51, w52, w53, w54, w55, w56, w57, w58, w59, w60, w61, w62])), (ou, .inl (y 1, 60000, .inl g)), (sg, .inr (0, [.ref bv, .int 0, w63, w64])), (bv, .inl (y 0, 25, .inl f))] sz)) 0 0 (va_A [(h0, .inr (16, [w1, w2, w3, w4, .int (nI j), .ref ou, w5, w6, w7, w8, w9, w10, w11, w12, w13, w14, w15, w16, w17, w18, w19, w20, w21, w22, w23, w24, w25, w26, w27, w28, w29, w30, w31, w32, w33, w34, w35, w36, w37, w38, w39, w40, w41, w42, w43, w44, w45, w46, w47, w48, w49, w50, w51, w52, w53, w54, w55, w56, w57, w58, w59, w60, w61, w62])), (ou, .inl (y 1, 60000, .inl g)), (sg, .inr (0, [.ref bv, .int 0, w63, w64])), (bv, .inl (y 0, 25, .inl f))] sz) := by
  refine Met.ofW (cc := cX12_putText) (maxL := 3) (ret := none) (by decide) rfl ?_
  intro p e s m args below meth c s₁ B hml hv
  obtain ⟨rfl, hsz, hP, hK, hD0, hN, hE, hO, hT, hG⟩ := hv
  have hx := B.exec
  have hb := B.bytes
  have hr := B.returns
  have hts := atoms_spec (ws := wz_c_M_putText_25) B.pre
  have hown : s.vm.findClass RX12 = some m.cls := findClass_of_methodNamed B.named
  have hlocks := B.notSynchronized
  subst hsz
  have hD := hD0.self (sz := s.heap.size)
  generalize hAe : va_A [(h0, .inr (16, [w1, w2, w3, w4, .int (nI j), .ref ou, w5, w6, w7, w8, w9, w10, w11, w12, w13, w14, w15, w16, w17, w18, w19, w20, w21, w22, w23, w24, w25, w26, w27, w28, w29, w30, w31, w32, w33, w34, w35, w36, w37, w38, w39, w40, w41, w42, w43, w44, w45, w46, w47, w48, w49, w50, w51, w52, w53, w54, w55, w56, w57, w58, w59, w60, w61, w62])), (ou, .inl (y 1, 60000, .inl g)), (sg, .inr (0, [.ref bv, .int 0, w63, w64])), (bv, .inl (y 0, 25, .inl f))] s.heap.size = A at hD hE hT hG ⊢
  have hA : ∀ q : Nat, s.heap.size ≤ q → A q := fun q h => by rw [← hAe]; exact Or.inr h
  have hS : va_S A s.heap s.heap [] := va_S.rf
  have hl := lv_entry ([.ref h0, .ref sg]) (n := 3) (Nat.le_of_ble_eq_true rfl)
  rw [lg_entry_eq]
  generalize (lg_sl ([.ref h0, .ref sg]) ++ List.replicate (3 - (lg_sl ([.ref h0, .ref sg])).length) Slot.unset).toArray = ls at hl ⊢
  have hl : lv_has ls 3 [(0, .ref h0), (1, .ref sg)] := hl
  refine lv_iconst (v := 0) hx hb dX12_putText_0 (by decide) ?_
  refine lv_istore_n (lv' := [(2, .int 0), (0, .ref h0), (1, .ref sg)]) hx hb dX12_putText_1 rfl hl (by decide) rfl (fun ls hl => ?_)
  have hl : lv_has ls 3 [(2, .int (nI 0)), (0, .ref h0), (1, .ref sg)] := lv_sub hl [0, 1, 2] rfl
  refine zz_loop (I := fun (k1 : Nat) (ls : Array Slot) (H : Heap) (locs : List Loc) => ∃ ge0 : Nat → Int32, va_P D vwCl [(h0, .inr (16, [w1, w2, w3, w4, Value.int (nI (j + k1)), Value.ref ou, w5, w6, w7, w8, w9, w10, w11, w12, w13, w14, w15, w16, w17, w18, w19, w20, w21, w22, w23, w24, w25, w26, w27, w28, w29, w30, w31, w32, w33, w34, w35, w36, w37, w38, w39, w40, w41, w42, w43, w44, w45, w46, w47, w48, w49, w50, w51, w52, w53, w54, w55, w56, w57, w58, w59, w60, w61, w62])), (ou, .inl (y 1, 60000, .inl ge0)), (sg, .inr (0, [Value.ref bv, Value.int 0, w63, w64])), (bv, .inl (y 0, 25, .inl f))] H ∧ va_D A [(h0, .inr (16, [w1, w2, w3, w4, Value.int (nI (j + k1)), Value.ref ou, w5, w6, w7, w8, w9, w10, w11, w12, w13, w14, w15, w16, w17, w18, w19, w20, w21, w22, w23, w24, w25, w26, w27, w28, w29, w30, w31, w32, w33, w34, w35, w36, w37, w38, w39, w40, w41, w42, w43, w44, w45, w46, w47, w48, w49, w50, w51, w52, w53, w54, w55, w56, w57, w58, w59, w60, w61, w62])), (ou, .inl (y 1, 60000, .inl ge0)), (sg, .inr (0, [Value.ref bv, Value.int 0, w63, w64])), (bv, .inl (y 0, 25, .inl f))] ∧ va_S A s.heap H locs ∧ lv_has ls 3 [(2, Value.int (nI k1)), (0, Value.ref h0), (1, Value.ref sg)]) 0 25 (by decide) ⟨_, hP, hD, hS, hl⟩ (fun k1 ls H locs hk10 hk11 hI ih => ?_) (fun ls H locs hI => ?_)
  · obtain ⟨ge0, hP, hD, hS, hl⟩ := hI
    have hl : lv_has ls 3 [(2, .int (nI k1)), (0, .ref h0), (1, .ref sg)] := hl
    have hP : va_P D vwCl [(h0, .inr (16, [w1, w2, w3, w4, .int (nI (j + k1)), .ref ou, w5, w6, w7, w8, w9, w10, w11, w12, w13, w14, w15, w16, w17, w18, w19, w20, w21, w22, w23, w24, w25, w26, w27, w28, w29, w30, w31, w32, w33, w34, w35, w36, w37, w38, w39, w40, w41, w42, w43, w44, w45, w46, w47, w48, w49, w50, w51, w52, w53, w54, w55, w56, w57, w58, w59, w60, w61, w62])), (ou, .inl (y 1, 60000, .inl ge0)), (sg, .inr (0, [.ref bv, .int 0, w63, w64])), (bv, .inl (y 0, 25, .inl f))] H := hP
    have hD : va_D A [(h0, .inr (16, [w1, w2, w3, w4, .int (nI (j + k1)), .ref ou, w5, w6, w7, w8, w9, w10, w11, w12, w13, w14, w15, w16, w17, w18, w19, w20, w21, w22, w23, w24, w25, w26, w27, w28, w29, w30, w31, w32, w33, w34, w35, w36, w37, w38, w39, w40, w41, w42, w43, w44, w45, w46, w47, w48, w49, w50, w51, w52, w53, w54, w55, w56, w57, w58, w59, w60, w61, w62])), (ou, .inl (y 1, 60000, .inl ge0)), (sg, .inr (0, [.ref bv, .int 0, w63, w64])), (bv, .inl (y 0, 25, .inl f))] := hD
    refine lv_iload_n hx hb dX12_putText_2 rfl (lv_at hl 0 rfl) ?_
    refine lv_aload_n hx hb dX12_putText_3 rfl (lv_at hl 2 rfl) ?_
    have hPc := hP.sub (ws' := [(sg, .inr (0, [.ref bv, .int 0, w63, w64])), (bv, .inl (y 0, 25, .inl f))]) [2, 3] rfl
    have hDc := hD.sub (ws' := [(sg, .inr (0, [.ref bv, .int 0, w63, w64])), (bv, .inl (y 0, 25, .inl f))]) [2, 3] (by decide) rfl
    have hFc := va_free (wc := [(sg, .inr (0, [.ref bv, .int 0, w63, w64])), (bv, .inl (y 0, 25, .inl f))]) hD hS hA [2, 3] rfl
    refine va_calli (va_runV (As := []) (rest := [.int (nI k1)]) ⟨hx, hb, hml, hown, hts⟩ (c_len_w_25 l D y H.size sg bv w63 w64 f) (cwV 0 hts gv_c_M_putText_25_c_len_w_25_210 rfl rfl rfl (by decide +kernel) ⟨(Nat.le_of_ble_eq_true rfl), (Nat.le_of_ble_eq_true rfl)⟩) (zB.preV hPc hDc hK hN hE hO hT hG hS hFc (fun _ h => nomatch h) (List.forall_mem_cons.mpr ⟨List.mem_of_getElem? (i := 0) rfl, (fun _ h => nomatch h)⟩) (fun _ h => nomatch h) (fun _ h => nomatch h) (va_recv hK hPc (ci := 0) (q0 := 0) rfl rfl)) rfl rfl hl.1 rfl (lv_room (Nat.le_of_ble_eq_true rfl)) dX12_putText_4 ⟨(Nat.le_of_ble_eq_true rfl), (Nat.le_of_ble_eq_true rfl)⟩) hS (fun q _ h => hFc q h) hFc (fun r1 u t H1 locs ht hvm hw hB hz1 hk1 hS => ?_)
    obtain ⟨hP1, hD1⟩ := hB
    rw [ht] at hP1
    obtain ⟨hP, hD⟩ := va_join (wr := [(h0, .inr (16, [w1, w2, w3, w4, .int (nI (j + k1)), .ref ou, w5, w6, w7, w8, w9, w10, w11, w12, w13, w14, w15, w16, w17, w18, w19, w20, w21, w22, w23, w24, w25, w26, w27, w28, w29, w30, w31, w32, w33, w34, w35, w36, w37, w38, w39, w40, w41, w42, w43, w44, w45, w46, w47, w48, w49, w50, w51, w52, w53, w54, w55, w56, w57, w58, w59, w60, w61, w62])), (ou, .inl (y 1, 60000, .inl ge0))]) (w1 := [(sg, .inr (0, [.ref bv, .int 0, w63, w64])), (bv, .inl (y 0, 25, .inl f))]) hP hD [2, 3] [0, 1] rfl rfl (by decide) (by decide) hk1 hFc hP1 hD1
    generalize H1 = H at hP hS ⊢
    have hP : va_P D vwCl [(h0, .inr (16, [w1, w2, w3, w4, .int (nI (j + k1)), .ref ou, w5, w6, w7, w8, w9, w10, w11, w12, w13, w14, w15, w16, w17, w18, w19, w20, w21, w22, w23, w24, w25, w26, w27, w28, w29, w30, w31, w32, w33, w34, w35, w36, w37, w38, w39, w40, w41, w42, w43, w44, w45, w46, w47, w48, w49, w50, w51, w52, w53, w54, w55, w56, w57, w58, w59, w60, w61, w62])), (ou, .inl (y 1, 60000, .inl ge0)), (sg, .inr (0, [.ref bv, .int 0, w63, w64])), (bv, .inl (y 0, 25, .inl f))] H := hP
    have hD : va_D A [(h0, .inr (16, [w1, w2, w3, w4, .int (nI (j + k1)), .ref ou, w5, w6, w7, w8, w9, w10, w11, w12, w13, w14, w15, w16, w17, w18, w19, w20, w21, w22, w23, w24, w25, w26, w27, w28, w29, w30, w31, w32, w33, w34, w35, w36, w37, w38, w39, w40, w41, w42, w43, w44, w45, w46, w47, w48, w49, w50, w51, w52, w53, w54, w55, w56, w57, w58, w59, w60, w61, w62])), (ou, .inl (y 1, 60000, .inl ge0)), (sg, .inr (0, [.ref bv, .int 0, w63, w64])), (bv, .inl (y 0, 25, .inl f))] := hD
    have hw : r1 = 25 := hw
    subst hw
    refine lv_icmp_ge (tgt := 25) hx hb dX12_putText_7 (by decide) (fun c9 => absurd c9 (ax_c_M_putText_25_0 k1 hk11 hk10)) (fun _ => ?_)
    refine lv_aload_n hx hb dX12_putText_10 rfl (lv_at hl 1 rfl) ?_
    refine lv_aload_n hx hb dX12_putText_11 rfl (lv_at hl 2 rfl) ?_
    refine lv_iload_n hx hb dX12_putText_12 rfl (lv_at hl 0 rfl) ?_
    have hPc := hP.sub (ws' := [(sg, .inr (0, [.ref bv, .int 0, w63, w64])), (bv, .inl (y 0, 25, .inl f))]) [2, 3] rfl
    have hDc := hD.sub (ws' := [(sg, .inr (0, [.ref bv, .int 0, w63, w64])), (bv, .inl (y 0, 25, .inl f))]) [2, 3] (by decide) rfl
    have hFc := va_free (wc := [(sg, .inr (0, [.ref bv, .int 0, w63, w64])), (bv, .inl (y 0, 25, .inl f))]) hD hS hA [2, 3] rfl
    refine va_calli (va_runV (As := [.int (nI k1)]) (rest := [.ref h0]) ⟨hx, hb, hml, hown, hts⟩ (c_chr_w_25 l D y H.size sg bv w63 w64 k1 f (by omega)) (cwV 1 hts gv_c_M_putText_25_c_chr_w_25_215 rfl rfl rfl (by decide +kernel) ⟨(Nat.le_of_ble_eq_true rfl), (Nat.le_of_ble_eq_true rfl)⟩) (zB.preV hPc hDc hK hN hE hO hT hG hS hFc (fun _ h => nomatch h) (List.forall_mem_cons.mpr ⟨List.mem_of_getElem? (i := 0) rfl, (fun _ h => nomatch h)⟩) (fun _ h => nomatch h) (List.forall_mem_cons.mpr ⟨List.mem_of_getElem? (i := 0) rfl, (fun _ h => nomatch h)⟩) (va_recv hK hPc (ci := 0) (q0 := 0) rfl rfl)) rfl rfl hl.1 rfl (lv_room (Nat.le_of_ble_eq_true rfl)) dX12_putText_13 ⟨(Nat.le_of_ble_eq_true rfl), (Nat.le_of_ble_eq_true rfl)⟩) hS (fun q _ h => hFc q h) hFc (fun r2 u t H1 locs ht hvm hw hB hz1 hk1 hS => ?_)
    obtain ⟨hP1, hD1⟩ := hB
    rw [ht] at hP1
    obtain ⟨hP, hD⟩ := va_join (wr := [(h0, .inr (16, [w1, w2, w3, w4, .int (nI (j + k1)), .ref ou, w5, w6, w7, w8, w9, w10, w11, w12, w13, w14, w15, w16, w17, w18, w19, w20, w21, w22, w23, w24, w25, w26, w27, w28, w29, w30, w31, w32, w33, w34, w35, w36, w37, w38, w39, w40, w41, w42, w43, w44, w45, w46, w47, w48, w49, w50, w51, w52, w53, w54, w55, w56, w57, w58, w59, w60, w61, w62])), (ou, .inl (y 1, 60000, .inl ge0))]) (w1 := [(sg, .inr (0, [.ref bv, .int 0, w63, w64])), (bv, .inl (y 0, 25, .inl f))]) hP hD [2, 3] [0, 1] rfl rfl (by decide) (by decide) hk1 hFc hP1 hD1
    generalize H1 = H at hP hS ⊢
    have hP : va_P D vwCl [(h0, .inr (16, [w1, w2, w3, w4, .int (nI (j + k1)), .ref ou, w5, w6, w7, w8, w9, w10, w11, w12, w13, w14, w15, w16, w17, w18, w19, w20, w21, w22, w23, w24, w25, w26, w27, w28, w29, w30, w31, w32, w33, w34, w35, w36, w37, w38, w39, w40, w41, w42, w43, w44, w45, w46, w47, w48, w49, w50, w51, w52, w53, w54, w55, w56, w57, w58, w59, w60, w61, w62])), (ou, .inl (y 1, 60000, .inl ge0)), (sg, .inr (0, [.ref bv, .int 0, w63, w64])), (bv, .inl (y 0, 25, .inl f))] H := hP
    have hD : va_D A [(h0, .inr (16, [w1, w2, w3, w4, .int (nI (j + k1)), .ref ou, w5, w6, w7, w8, w9, w10, w11, w12, w13, w14, w15, w16, w17, w18, w19, w20, w21, w22, w23, w24, w25, w26, w27, w28, w29, w30, w31, w32, w33, w34, w35, w36, w37, w38, w39, w40, w41, w42, w43, w44, w45, w46, w47, w48, w49, w50, w51, w52, w53, w54, w55, w56, w57, w58, w59, w60, w61, w62])), (ou, .inl (y 1, 60000, .inl ge0)), (sg, .inr (0, [.ref bv, .int 0, w63, w64])), (bv, .inl (y 0, 25, .inl f))] := hD
    have hw : r2 = (f (nI k1).toNatClampNeg) &&& (255 : Int32) := hw
    subst hw
    have hPc := hP.sub (ws' := [(h0, .inr (16, [w1, w2, w3, w4, .int (nI (j + k1)), .ref ou, w5, w6, w7, w8, w9, w10, w11, w12, w13, w14, w15, w16, w17, w18, w19, w20, w21, w22, w23, w24, w25, w26, w27, w28, w29, w30, w31, w32, w33, w34, w35, w36, w37, w38, w39, w40, w41, w42, w43, w44, w45, w46, w47, w48, w49, w50, w51, w52, w53, w54, w55, w56, w57, w58, w59, w60, w61, w62])), (ou, .inl (y 1, 60000, .inl ge0))]) [0, 1] rfl
    have hDc := hD.sub (ws' := [(h0, .inr (16, [w1, w2, w3, w4, .int (nI (j + k1)), .ref ou, w5, w6, w7, w8, w9, w10, w11, w12, w13, w14, w15, w16, w17, w18, w19, w20, w21, w22, w23, w24, w25, w26, w27, w28, w29, w30, w31, w32, w33, w34, w35, w36, w37, w38, w39, w40, w41, w42, w43, w44, w45, w46, w47, w48, w49, w50, w51, w52, w53, w54, w55, w56, w57, w58, w59, w60, w61, w62])), (ou, .inl (y 1, 60000, .inl ge0))]) [0, 1] (by decide) rfl
    have hFc := va_free (wc := [(h0, .inr (16, [w1, w2, w3, w4, .int (nI (j + k1)), .ref ou, w5, w6, w7, w8, w9, w10, w11, w12, w13, w14, w15, w16, w17, w18, w19, w20, w21, w22, w23, w24, w25, w26, w27, w28, w29, w30, w31, w32, w33, w34, w35, w36, w37, w38, w39, w40, w41, w42, w43, w44, w45, w46, w47, w48, w49, w50, w51, w52, w53, w54, w55, w56, w57, w58, w59, w60, w61, w62])), (ou, .inl (y 1, 60000, .inl ge0))]) hD hS hA [0, 1] rfl
    refine va_callv (va_runV (As := [.int ((f (nI k1).toNatClampNeg) &&& (255 : Int32))]) (rest := []) ⟨hx, hb, hml, hown, hts⟩ (c_M_put l D y H.size h0 ou ((j + k1)) w1 w2 w3 w4 w5 w6 w7 w8 w9 w10 w11 w12 w13 w14 w15 w16 w17 w18 w19 w20 w21 w22 w23 w24 w25 w26 w27 w28 w29 w30 w31 w32 w33 w34 w35 w36 w37 w38 w39 w40 w41 w42 w43 w44 w45 w46 w47 w48 w49 w50 w51 w52 w53 w54 w55 w56 w57 w58 w59 w60 w61 w62 ge0 ((f (nI k1).toNatClampNeg) &&& (255 : Int32)) (by omega)) (cwV 1 hts gv_c_M_putText_25_c_M_put_605 rfl rfl rfl (by decide +kernel) ⟨(Nat.le_of_ble_eq_true rfl), (Nat.le_of_ble_eq_true rfl)⟩) (zB.preV hPc hDc hK hN hE hO hT hG hS hFc (fun _ h => nomatch h) (fun _ h => nomatch h) (fun _ h => nomatch h) (fun _ h => nomatch h) (va_recv hK hPc (ci := 16) (q0 := 0) rfl rfl)) rfl rfl hl.1 rfl (lv_room (Nat.le_of_ble_eq_true rfl)) dX12_putText_16 ⟨(Nat.le_of_ble_eq_true rfl), (Nat.le_of_ble_eq_true rfl)⟩) hS (fun q _ h => hFc q h) hFc (fun u t H1 locs ht hvm hw hB hz1 hk1 hS => ?_)
    obtain ⟨hP1, hD1⟩ := hB
    rw [ht] at hP1
    obtain ⟨hP, hD⟩ := va_join (wr := [(sg, .inr (0, [.ref bv, .int 0, w63, w64])), (bv, .inl (y 0, 25, .inl f))]) (w1 := [(h0, .inr (16, [w1, w2, w3, w4, .int (nI ((j + k1) + 1)), .ref ou, w5, w6, w7, w8, w9, w10, w11, w12, w13, w14, w15, w16, w17, w18, w19, w20, w21, w22, w23, w24, w25, w26, w27, w28, w29, w30, w31, w32, w33, w34, w35, w36, w37, w38, w39, w40, w41, w42, w43, w44, w45, w46, w47, w48, w49, w50, w51, w52, w53, w54, w55, w56, w57, w58, w59, w60, w61, w62])), (ou, .inl (y 1, 60000, .inl (upd ge0 (nI (j + k1)).toNatClampNeg (((f (nI k1).toNatClampNeg) &&& (255 : Int32)) &&& (255 : Int32)))))]) hP hD [0, 1] [2, 3] rfl rfl (by decide) (by decide) hk1 hFc hP1 hD1
    generalize H1 = H at hP hS ⊢
    have hP : va_P D vwCl [(sg, .inr (0, [.ref bv, .int 0, w63, w64])), (bv, .inl (y 0, 25, .inl f)), (h0, .inr (16, [w1, w2, w3, w4, .int (nI ((j + k1) + 1)), .ref ou, w5, w6, w7, w8, w9, w10, w11, w12, w13, w14, w15, w16, w17, w18, w19, w20, w21, w22, w23, w24, w25, w26, w27, w28, w29, w30, w31, w32, w33, w34, w35, w36, w37, w38, w39, w40, w41, w42, w43, w44, w45, w46, w47, w48, w49, w50, w51, w52, w53, w54, w55, w56, w57, w58, w59, w60, w61, w62])), (ou, .inl (y 1, 60000, .inl (upd ge0 (nI (j + k1)).toNatClampNeg (((f (nI k1).toNatClampNeg) &&& (255 : Int32)) &&& (255 : Int32)))))] H := hP
    have hD : va_D A [(sg, .inr (0, [.ref bv, .int 0, w63, w64])), (bv, .inl (y 0, 25, .inl f)), (h0, .inr (16, [w1, w2, w3, w4, .int (nI ((j + k1) + 1)), .ref ou, w5, w6, w7, w8, w9, w10, w11, w12, w13, w14, w15, w16, w17, w18, w19, w20, w21, w22, w23, w24, w25, w26, w27, w28, w29, w30, w31, w32, w33, w34, w35, w36, w37, w38, w39, w40, w41, w42, w43, w44, w45, w46, w47, w48, w49, w50, w51, w52, w53, w54, w55, w56, w57, w58, w59, w60, w61, w62])), (ou, .inl (y 1, 60000, .inl (upd ge0 (nI (j + k1)).toNatClampNeg (((f (nI k1).toNatClampNeg) &&& (255 : Int32)) &&& (255 : Int32)))))] := hD
    refine lv_iinc (v := nI (k1 + 1)) (lv' := [(2, .int (nI (k1 + 1))), (0, .ref h0), (1, .ref sg)]) hx hb dX12_putText_19 hl (k := 0) rfl (ax_c_M_putText_25_1 k1 hk11 hk10) (by decide) rfl (fun ls hl => ?_)
    refine lv_goto (tgt := 2) hx hb dX12_putText_22 (by decide) ?_
    have hP := hP.sub (ws' := [(h0, .inr (16, [w1, w2, w3, w4, .int (nI ((j + k1) + 1)), .ref ou, w5, w6, w7, w8, w9, w10, w11, w12, w13, w14, w15, w16, w17, w18, w19, w20, w21, w22, w23, w24, w25, w26, w27, w28, w29, w30, w31, w32, w33, w34, w35, w36, w37, w38, w39, w40, w41, w42, w43, w44, w45, w46, w47, w48, w49, w50, w51, w52, w53, w54, w55, w56, w57, w58, w59, w60, w61, w62])), (ou, .inl (y 1, 60000, .inl (upd ge0 (nI (j + k1)).toNatClampNeg (((f (nI k1).toNatClampNeg) &&& (255 : Int32)) &&& (255 : Int32))))), (sg, .inr (0, [.ref bv, .int 0, w63, w64])), (bv, .inl (y 0, 25, .inl f))]) [2, 3, 0, 1] rfl
    have hD := hD.sub (ws' := [(h0, .inr (16, [w1, w2, w3, w4, .int (nI ((j + k1) + 1)), .ref ou, w5, w6, w7, w8, w9, w10, w11, w12, w13, w14, w15, w16, w17, w18, w19, w20, w21, w22, w23, w24, w25, w26, w27, w28, w29, w30, w31, w32, w33, w34, w35, w36, w37, w38, w39, w40, w41, w42, w43, w44, w45, w46, w47, w48, w49, w50, w51, w52, w53, w54, w55, w56, w57, w58, w59, w60, w61, w62])), (ou, .inl (y 1, 60000, .inl (upd ge0 (nI (j + k1)).toNatClampNeg (((f (nI k1).toNatClampNeg) &&& (255 : Int32)) &&& (255 : Int32))))), (sg, .inr (0, [.ref bv, .int 0, w63, w64])), (bv, .inl (y 0, 25, .inl f))]) [2, 3, 0, 1] (by decide) rfl
    exact ih ls H locs ⟨_, hP, hD, hS, lv_sub hl [0, 1, 2] rfl⟩
  · obtain ⟨ge0, hP, hD, hS, hl⟩ := hI
    have hl : lv_has ls 3 [(2, .int (nI 25)), (0, .ref h0), (1, .ref sg)] := hl
    have hP : va_P D vwCl [(h0, .inr (16, [w1, w2, w3, w4, .int (nI (j + 25)), .ref ou, w5, w6, w7, w8, w9, w10, w11, w12, w13, w14, w15, w16, w17, w18, w19, w20, w21, w22, w23, w24, w25, w26, w27, w28, w29, w30, w31, w32, w33, w34, w35, w36, w37, w38, w39, w40, w41, w42, w43, w44, w45, w46, w47, w48, w49, w50, w51, w52, w53, w54, w55, w56, w57, w58, w59, w60, w61, w62])), (ou, .inl (y 1, 60000, .inl ge0)), (sg, .inr (0, [.ref bv, .int 0, w63, w64])), (bv, .inl (y 0, 25, .inl f))] H := hP
    have hD : va_D A [(h0, .inr (16, [w1, w2, w3, w4, .int (nI (j + 25)), .ref ou, w5, w6, w7, w8, w9, w10, w11, w12, w13, w14, w15, w16, w17, w18, w19, w20, w21, w22, w23, w24, w25, w26, w27, w28, w29, w30, w31, w32, w33, w34, w35, w36, w37, w38, w39, w40, w41, w42, w43, w44, w45, w46, w47, w48, w49, w50, w51, w52, w53, w54, w55, w56, w57, w58, w59, w60, w61, w62])), (ou, .inl (y 1, 60000, .inl ge0)), (sg, .inr (0, [.ref bv, .int 0, w63, w64])), (bv, .inl (y 0, 25, .inl f))] := hD
    refine lv_iload_n hx hb dX12_putText_2 rfl (lv_at hl 0 rfl) ?_
    refine lv_aload_n hx hb dX12_putText_3 rfl (lv_at hl 2 rfl) ?_
    have hPc := hP.sub (ws' := [(sg, .inr (0, [.ref bv, .int 0, w63, w64])), (bv, .inl (y 0, 25, .inl f))]) [2, 3] rfl
    have hDc := hD.sub (ws' := [(sg, .inr (0, [.ref bv, .int 0, w63, w64])), (bv, .inl (y 0, 25, .inl f))]) [2, 3] (by decide) rfl
    have hFc := va_free (wc := [(sg, .inr (0, [.ref bv, .int 0, w63, w64])), (bv, .inl (y 0, 25, .inl f))]) hD hS hA [2, 3] rfl
    refine va_calli (va_runV (As := []) (rest := [.int (nI 25)]) ⟨hx, hb, hml, hown, hts⟩ (c_len_w_25 l D y H.size sg bv w63 w64 f) (cwV 0 hts gv_c_M_putText_25_c_len_w_25_210 rfl rfl rfl (by decide +kernel) ⟨(Nat.le_of_ble_eq_true rfl), (Nat.le_of_ble_eq_true rfl)⟩) (zB.preV hPc hDc hK hN hE hO hT hG hS hFc (fun _ h => nomatch h) (List.forall_mem_cons.mpr ⟨List.mem_of_getElem? (i := 0) rfl, (fun _ h => nomatch h)⟩) (fun _ h => nomatch h) (fun _ h => nomatch h) (va_recv hK hPc (ci := 0) (q0 := 0) rfl rfl)) rfl rfl hl.1 rfl (lv_room (Nat.le_of_ble_eq_true rfl)) dX12_putText_4 ⟨(Nat.le_of_ble_eq_true rfl), (Nat.le_of_ble_eq_true rfl)⟩) hS (fun q _ h => hFc q h) hFc (fun r3 u t H1 locs ht hvm hw hB hz1 hk1 hS => ?_)
    obtain ⟨hP1, hD1⟩ := hB
    rw [ht] at hP1
    obtain ⟨hP, hD⟩ := va_join (wr := [(h0, .inr (16, [w1, w2, w3, w4, .int (nI (j + 25)), .ref ou, w5, w6, w7, w8, w9, w10, w11, w12, w13, w14, w15, w16, w17, w18, w19, w20, w21, w22, w23, w24, w25, w26, w27, w28, w29, w30, w31, w32, w33, w34, w35, w36, w37, w38, w39, w40, w41, w42, w43, w44, w45, w46, w47, w48, w49, w50, w51, w52, w53, w54, w55, w56, w57, w58, w59, w60, w61, w62])), (ou, .inl (y 1, 60000, .inl ge0))]) (w1 := [(sg, .inr (0, [.ref bv, .int 0, w63, w64])), (bv, .inl (y 0, 25, .inl f))]) hP hD [2, 3] [0, 1] rfl rfl (by decide) (by decide) hk1 hFc hP1 hD1
    generalize H1 = H at hP hS ⊢
    have hP : va_P D vwCl [(h0, .inr (16, [w1, w2, w3, w4, .int (nI (j + 25)), .ref ou, w5, w6, w7, w8, w9, w10, w11, w12, w13, w14, w15, w16, w17, w18, w19, w20, w21, w22, w23, w24, w25, w26, w27, w28, w29, w30, w31, w32, w33, w34, w35, w36, w37, w38, w39, w40, w41, w42, w43, w44, w45, w46, w47, w48, w49, w50, w51, w52, w53, w54, w55, w56, w57, w58, w59, w60, w61, w62])), (ou, .inl (y 1, 60000, .inl ge0)), (sg, .inr (0, [.ref bv, .int 0, w63, w64])), (bv, .inl (y 0, 25, .inl f))] H := hP
    have hD : va_D A [(h0, .inr (16, [w1, w2, w3, w4, .int (nI (j + 25)), .ref ou, w5, w6, w7, w8, w9, w10, w11, w12, w13, w14, w15, w16, w17, w18, w19, w20, w21, w22, w23, w24, w25, w26, w27, w28, w29, w30, w31, w32, w33, w34, w35, w36, w37, w38, w39, w40, w41, w42, w43, w44, w45, w46, w47, w48, w49, w50, w51, w52, w53, w54, w55, w56, w57, w58, w59, w60, w61, w62])), (ou, .inl (y 1, 60000, .inl ge0)), (sg, .inr (0, [.ref bv, .int 0, w63, w64])), (bv, .inl (y 0, 25, .inl f))] := hD
    have hw : r3 = 25 := hw
    subst hw
    refine lv_icmp_ge (tgt := 25) hx hb dX12_putText_7 (by decide) (fun _ => ?_) (fun c9 => absurd (by decide) c9)
    have hP9 := hP.sub (ws' := [(h0, .inr (16, [w1, w2, w3, w4, .int (nI (j + 25)), .ref ou, w5, w6, w7, w8, w9, w10, w11, w12, w13, w14, w15, w16, w17, w18, w19, w20, w21, w22, w23, w24, w25, w26, w27, w28, w29, w30, w31, w32, w33, w34, w35, w36, w37, w38, w39, w40, w41, w42, w43, w44, w45, w46, w47, w48, w49, w50, w51, w52, w53, w54, w55, w56, w57, w58, w59, w60, w61, w62])), (ou, .inl (y 1, 60000, .inl ge0)), (sg, .inr (0, [.ref bv, .int 0, w63, w64])), (bv, .inl (y 0, 25, .inl f))]) [0, 1, 2, 3] rfl
    have hD9 := hD.sub (ws' := [(h0, .inr (16, [w1, w2, w3, w4, .int (nI (j + 25)), .ref ou, w5, w6, w7, w8, w9, w10, w11, w12, w13, w14, w15, w16, w17, w18, w19, w20, w21, w22, w23, w24, w25, w26, w27, w28, w29, w30, w31, w32, w33, w34, w35, w36, w37, w38, w39, w40, w41, w42, w43, w44, w45, w46, w47, w48, w49, w50, w51, w52, w53, w54, w55, w56, w57, w58, w59, w60, w61, w62])), (ou, .inl (y 1, 60000, .inl ge0)), (sg, .inr (0, [.ref bv, .int 0, w63, w64])), (bv, .inl (y 0, 25, .inl f))]) [0, 1, 2, 3] (by decide) rfl
    refine W.widen (k := 0) (n := 0) (Nat.le_of_ble_eq_true rfl) (Nat.le_of_ble_eq_true rfl) ?_
    exact W.vret hx hb hr (fun t ht hW => ⟨⟨(), rfl, trivial, ge0, by rw [ht]; exact hP9, hD9⟩, hS.F ht⟩) hS.2.2 dX12_putText_25
def wz_c_M_putText_18 : List Cond := .code yX12_putText cX12_putText 3 none :: ([.methodLink RX12 210 yJ0_length_8abf5, .instanceMethod yJ0_length_8abf5, .selects RJ0 yJ0_length_8abf5 yJ0_length_8abf5, .initialized RJ0, .methodLink RX12 215 yJ0_charAt_5068e, .instanceMethod yJ0_charAt_5068e, .selects RJ0 yJ0_charAt_5068e yJ0_charAt_5068e, .methodLink RX12 605 yX12_put, .instanceMethod yX12_put, .selects RX12 yX12_put yX12_put, .initialized RX12] ++ (wz_c_len_w_18 ++ (wz_c_chr_w_18 ++ (wz_c_M_put ++ ([])))))
set_option maxRecDepth 100000 in
theorem gz_c_M_putText_18_c_len_w_18 : GoodIn wz_c_M_putText_18 wz_c_len_w_18 := goodIn_sub (fun w h => List.mem_cons_of_mem _ (List.mem_append_right _ (List.mem_append_left _ h))) (by decide +kernel)
set_option maxRecDepth 100000 in
theorem gz_c_M_putText_18_c_chr_w_18 : GoodIn wz_c_M_putText_18 wz_c_chr_w_18 := goodIn_sub (fun w h => List.mem_cons_of_mem _ (List.mem_append_right _ (List.mem_append_right _ (List.mem_append_left _ h)))) (by decide +kernel)
set_option maxRecDepth 100000 in
theorem gz_c_M_putText_18_c_M_put : GoodIn wz_c_M_putText_18 wz_c_M_put := goodIn_sub (fun w h => List.mem_cons_of_mem _ (List.mem_append_right _ (List.mem_append_right _ (List.mem_append_right _ (List.mem_append_left _ h))))) (by decide +kernel)
set_option maxRecDepth 100000 in
theorem gv_c_M_putText_18_c_len_w_18_210 : GoodIn wz_c_M_putText_18 (wsV RX12 210 RJ0 yJ0_length_8abf5 wz_c_len_w_18) := goodIn_app (goodIn_of _ (by decide +kernel)) gz_c_M_putText_18_c_len_w_18
set_option maxRecDepth 100000 in
theorem gv_c_M_putText_18_c_chr_w_18_215 : GoodIn wz_c_M_putText_18 (wsV RX12 215 RJ0 yJ0_charAt_5068e wz_c_chr_w_18) := goodIn_app (goodIn_of _ (by decide +kernel)) gz_c_M_putText_18_c_chr_w_18
set_option maxRecDepth 100000 in
theorem gv_c_M_putText_18_c_M_put_605 : GoodIn wz_c_M_putText_18 (wsV RX12 605 RX12 yX12_put wz_c_M_put) := goodIn_app (goodIn_of _ (by decide +kernel)) gz_c_M_putText_18_c_M_put
set_option maxHeartbeats 4000000 in
set_option maxRecDepth 100000 in
theorem ax_c_M_putText_18_0 : ∀ k1 : Nat, k1 < 18 → 0 ≤ k1 → ¬ (18 : Int32) ≤ (nI k1) := by decide +kernel
set_option maxHeartbeats 4000000 in
set_option maxRecDepth 100000 in
theorem ax_c_M_putText_18_1 : ∀ k1 : Nat, k1 < 18 → 0 ≤ k1 → nI k1 + Int32.ofInt 1 = nI (k1 + 1) := by decide +kernel
set_option maxHeartbeats 4000000 in
set_option maxRecDepth 100000 in
theorem c_M_putText_18 (l : Launch) (D : va_G) (y : Nat → ClassId) (sz : Nat) (h0 : Nat) (ou : Nat) (sg : Nat) (bv : Nat) (j : Nat) (w1 : Value) (w2 : Value) (w3 : Value) (w4 : Value) (w5 : Value) (w6 : Value) (w7 : Value) (w8 : Value) (w9 : Value) (w10 : Value) (w11 : Value) (w12 : Value) (w13 : Value) (w14 : Value) (w15 : Value) (w16 : Value) (w17 : Value) (w18 : Value) (w19 : Value) (w20 : Value) (w21 : Value) (w22 : Value) (w23 : Value) (w24 : Value) (w25 : Value) (w26 : Value) (w27 : Value) (w28 : Value) (w29 : Value) (w30 : Value) (w31 : Value) (w32 : Value) (w33 : Value) (w34 : Value) (w35 : Value) (w36 : Value) (w37 : Value) (w38 : Value) (w39 : Value) (w40 : Value) (w41 : Value) (w42 : Value) (w43 : Value) (w44 : Value) (w45 : Value) (w46 : Value) (w47 : Value) (w48 : Value) (w49 : Value) (w50 : Value) (w51 : Value) (w52 : Value) (w53 : Value) (w54 : Value) (w55 : Value) (w56 : Value) (w57 : Value) (w58 : Value) (w59 : Value) (w60 : Value) (w61 : Value) (w62 : Value) (w63 : Value) (w64 : Value) (g : Nat → Int32) (f : Nat → Int32) (hjn : j + 18 ≤ 60000) : Met l yX12_putText wz_c_M_putText_18 ({ frames := 4, cells := 0, slots := 0, locals := 85 }) (va_Pc [.ref h0, .ref sg] (zB D y [(h0, .inr (16, [w1, w2, w3, w4, .int (nI j), .ref ou, w5, w6, w7, w8, w9, w10, w11, w12, w13, w14, w15, w16, w17, w18, w19, w20, w21, w22, w23, w24, w25, w26, w27, w28, w29, w30, w31, w32, w33, w34, w35, w36, w37, w38, w39, w40, w41, w42, w43, w44, w45, w46, w47, w48, w49, w50, w51, w52, w53, w54, w55, w56, w57, w58, w59, w60, w61, w62])), (ou, .inl (y 1, 60000, .inl g)), (sg, .inr (0, [.ref bv, .int 0, w63, w64])), (bv, .inl (y 0, 18, .inl f))] sz [] [("java/lang/String", "COMPACT_STRINGS", "Z", .int 1)] [] [.inr (.inr (.inr (.inr ("jdk/internal/util/Preconditions", "SIOOBE_FORMATTER", "Ljava/util/function/BiFunction;"))))])) (va_Qv (fun _ : Unit => True) (fun _ t => ∃ fz0 : Nat → Int32, va_P D vwCl [(h0, .inr (16, [w1, w2, w3, w4, .int (nI (j + 18)), .ref ou, w5, w6, w7, w8, w9, w10, w11, w12, w13, w14, w15, w16, w17, w18, w19, w20, w21, w22, w23, w24, w25, w26, w27, w28, w29, w30, w31, w32, w33, w34, w35, w36, w37, w38, w39, w40, w41, w42, w43, w44, w45, w46, w47, w48, w49, w50, w51, w52, w53, w54, w55, w56, w57, w58, w59, w60, w61, w62])), (ou, .inl (y 1, 60000, .inl fz0)), (sg, .inr (0, [.ref bv, .int 0, w63, w64])), (bv, .inl (y 0, 18, .inl f))] t.heap ∧ va_D (va_A [(h0, .inr (16, [w1, w2, w3, w4, .int (nI j), .ref ou, w5, w6, w7, w8, w9, w10, w11, w12, w13, w14, w15, w16, w17, w18, w19, w20, w21, w22, w23, w24, w25, w26, w27, w28, w29, w30, w31, w32, w33, w34, w35, w36, w37, w38, w39, w40, w41, w42, w43, w44, w45, w46, w47, w48, w49, w50, w51, w52, w53, w54, w55, w56, w57, w58, w59, w60, w61, w62])), (ou, .inl (y 1, 60000, .inl g)), (sg, .inr (0, [.ref bv, .int 0, w63, w64])), (bv, .inl (y 0, 18, .inl f))] sz) [(h0, .inr (16, [w1, w2, w3, w4, .int (nI (j + 18)), .ref ou, w5, w6, w7, w8, w9, w10, w11, w12, w13, w14, w15, w16, w17, w18, w19, w20, w21, w22, w23, w24, w25, w26, w27, w28, w29, w30, w31, w32, w33, w34, w35, w36, w37, w38, w39, w40, w41, w42, w43, w44, w45, w46, w47, w48, w49, w50, w51, w52, w53, w54, w55, w56, w57, w58, w59, w60, w61, w62])), (ou, .inl (y 1, 60000, .inl fz0)), (sg, .inr (0, [.ref bv, .int 0, w63, w64])), (bv, .inl (y 0, 18, .inl f))]) (va_A [(h0, .inr (16, [w1, w2, w3, w4, .int (nI j), .ref ou, w5, w6, w7, w8, w9, w10, w11, w12, w13, w14, w15, w16, w17, w18, w19, w20, w21, w22, w23, w24, w25, w26, w27, w28, w29, w30, w31, w32, w33, w34, w35, w36, w37, w38, w39, w40, w41, w42, w43, w44, w45, w46, w47, w48, w49, w50, w51, w52, w53, w54, w55, w56, w57, w58, w59, w60, w61, w62])), (ou, .inl (y 1, 60000, .inl g)), (sg, .inr (0, [.ref bv, .int 0, w63, w64])), (bv, .inl (y 0, 18, .inl f))] sz)) 0 0 (va_A [(h0, .inr (16, [w1, w2, w3, w4, .int (nI j), .ref ou, w5, w6, w7, w8, w9, w10, w11, w12, w13, w14, w15, w16, w17, w18, w19, w20, w21, w22, w23, w24, w25, w26, w27, w28, w29, w30, w31, w32, w33, w34, w35, w36, w37, w38, w39, w40, w41, w42, w43, w44, w45, w46, w47, w48, w49, w50, w51, w52, w53, w54, w55, w56, w57, w58, w59, w60, w61, w62])), (ou, .inl (y 1, 60000, .inl g)), (sg, .inr (0, [.ref bv, .int 0, w63, w64])), (bv, .inl (y 0, 18, .inl f))] sz) := by
  refine Met.ofW (cc := cX12_putText) (maxL := 3) (ret := none) (by decide) rfl ?_
  intro p e s m args below meth c s₁ B hml hv
  obtain ⟨rfl, hsz, hP, hK, hD0, hN, hE, hO, hT, hG⟩ := hv
  have hx := B.exec
  have hb := B.bytes
  have hr := B.returns
  have hts := atoms_spec (ws := wz_c_M_putText_18) B.pre
  have hown : s.vm.findClass RX12 = some m.cls := findClass_of_methodNamed B.named
  have hlocks := B.notSynchronized
  subst hsz
  have hD := hD0.self (sz := s.heap.size)
  generalize hAe : va_A [(h0, .inr (16, [w1, w2, w3, w4, .int (nI j), .ref ou, w5, w6, w7, w8, w9, w10, w11, w12, w13, w14, w15, w16, w17, w18, w19, w20, w21, w22, w23, w24, w25, w26, w27, w28, w29, w30, w31, w32, w33, w34, w35, w36, w37, w38, w39, w40, w41, w42, w43, w44, w45, w46, w47, w48, w49, w50, w51, w52, w53, w54, w55, w56, w57, w58, w59, w60, w61, w62])), (ou, .inl (y 1, 60000, .inl g)), (sg, .inr (0, [.ref bv, .int 0, w63, w64])), (bv, .inl (y 0, 18, .inl f))] s.heap.size = A at hD hE hT hG ⊢
  have hA : ∀ q : Nat, s.heap.size ≤ q → A q := fun q h => by rw [← hAe]; exact Or.inr h
  have hS : va_S A s.heap s.heap [] := va_S.rf
  have hl := lv_entry ([.ref h0, .ref sg]) (n := 3) (Nat.le_of_ble_eq_true rfl)
  rw [lg_entry_eq]
  generalize (lg_sl ([.ref h0, .ref sg]) ++ List.replicate (3 - (lg_sl ([.ref h0, .ref sg])).length) Slot.unset).toArray = ls at hl ⊢
  have hl : lv_has ls 3 [(0, .ref h0), (1, .ref sg)] := hl
  refine lv_iconst (v := 0) hx hb dX12_putText_0 (by decide) ?_
  refine lv_istore_n (lv' := [(2, .int 0), (0, .ref h0), (1, .ref sg)]) hx hb dX12_putText_1 rfl hl (by decide) rfl (fun ls hl => ?_)
  have hl : lv_has ls 3 [(2, .int (nI 0)), (0, .ref h0), (1, .ref sg)] := lv_sub hl [0, 1, 2] rfl
  refine zz_loop (I := fun (k1 : Nat) (ls : Array Slot) (H : Heap) (locs : List Loc) => ∃ ge0 : Nat → Int32, va_P D vwCl [(h0, .inr (16, [w1, w2, w3, w4, Value.int (nI (j + k1)), Value.ref ou, w5, w6, w7, w8, w9, w10, w11, w12, w13, w14, w15, w16, w17, w18, w19, w20, w21, w22, w23, w24, w25, w26, w27, w28, w29, w30, w31, w32, w33, w34, w35, w36, w37, w38, w39, w40, w41, w42, w43, w44, w45, w46, w47, w48, w49, w50, w51, w52, w53, w54, w55, w56, w57, w58, w59, w60, w61, w62])), (ou, .inl (y 1, 60000, .inl ge0)), (sg, .inr (0, [Value.ref bv, Value.int 0, w63, w64])), (bv, .inl (y 0, 18, .inl f))] H ∧ va_D A [(h0, .inr (16, [w1, w2, w3, w4, Value.int (nI (j + k1)), Value.ref ou, w5, w6, w7, w8, w9, w10, w11, w12, w13, w14, w15, w16, w17, w18, w19, w20, w21, w22, w23, w24, w25, w26, w27, w28, w29, w30, w31, w32, w33, w34, w35, w36, w37, w38, w39, w40, w41, w42, w43, w44, w45, w46, w47, w48, w49, w50, w51, w52, w53, w54, w55, w56, w57, w58, w59, w60, w61, w62])), (ou, .inl (y 1, 60000, .inl ge0)), (sg, .inr (0, [Value.ref bv, Value.int 0, w63, w64])), (bv, .inl (y 0, 18, .inl f))] ∧ va_S A s.heap H locs ∧ lv_has ls 3 [(2, Value.int (nI k1)), (0, Value.ref h0), (1, Value.ref sg)]) 0 18 (by decide) ⟨_, hP, hD, hS, hl⟩ (fun k1 ls H locs hk10 hk11 hI ih => ?_) (fun ls H locs hI => ?_)
  · obtain ⟨ge0, hP, hD, hS, hl⟩ := hI
    have hl : lv_has ls 3 [(2, .int (nI k1)), (0, .ref h0), (1, .ref sg)] := hl
    have hP : va_P D vwCl [(h0, .inr (16, [w1, w2, w3, w4, .int (nI (j + k1)), .ref ou, w5, w6, w7, w8, w9, w10, w11, w12, w13, w14, w15, w16, w17, w18, w19, w20, w21, w22, w23, w24, w25, w26, w27, w28, w29, w30, w31, w32, w33, w34, w35, w36, w37, w38, w39, w40, w41, w42, w43, w44, w45, w46, w47, w48, w49, w50, w51, w52, w53, w54, w55, w56, w57, w58, w59, w60, w61, w62])), (ou, .inl (y 1, 60000, .inl ge0)), (sg, .inr (0, [.ref bv, .int 0, w63, w64])), (bv, .inl (y 0, 18, .inl f))] H := hP
    have hD : va_D A [(h0, .inr (16, [w1, w2, w3, w4, .int (nI (j + k1)), .ref ou, w5, w6, w7, w8, w9, w10, w11, w12, w13, w14, w15, w16, w17, w18, w19, w20, w21, w22, w23, w24, w25, w26, w27, w28, w29, w30, w31, w32, w33, w34, w35, w36, w37, w38, w39, w40, w41, w42, w43, w44, w45, w46, w47, w48, w49, w50, w51, w52, w53, w54, w55, w56, w57, w58, w59, w60, w61, w62])), (ou, .inl (y 1, 60000, .inl ge0)), (sg, .inr (0, [.ref bv, .int 0, w63, w64])), (bv, .inl (y 0, 18, .inl f))] := hD
    refine lv_iload_n hx hb dX12_putText_2 rfl (lv_at hl 0 rfl) ?_
    refine lv_aload_n hx hb dX12_putText_3 rfl (lv_at hl 2 rfl) ?_
    have hPc := hP.sub (ws' := [(sg, .inr (0, [.ref bv, .int 0, w63, w64])), (bv, .inl (y 0, 18, .inl f))]) [2, 3] rfl
    have hDc := hD.sub (ws' := [(sg, .inr (0, [.ref bv, .int 0, w63, w64])), (bv, .inl (y 0, 18, .inl f))]) [2, 3] (by decide) rfl
    have hFc := va_free (wc := [(sg, .inr (0, [.ref bv, .int 0, w63, w64])), (bv, .inl (y 0, 18, .inl f))]) hD hS hA [2, 3] rfl
    refine va_calli (va_runV (As := []) (rest := [.int (nI k1)]) ⟨hx, hb, hml, hown, hts⟩ (c_len_w_18 l D y H.size sg bv w63 w64 f) (cwV 0 hts gv_c_M_putText_18_c_len_w_18_210 rfl rfl rfl (by decide +kernel) ⟨(Nat.le_of_ble_eq_true rfl), (Nat.le_of_ble_eq_true rfl)⟩) (zB.preV hPc hDc hK hN hE hO hT hG hS hFc (fun _ h => nomatch h) (List.forall_mem_cons.mpr ⟨List.mem_of_getElem? (i := 0) rfl, (fun _ h => nomatch h)⟩) (fun _ h => nomatch h) (fun _ h => nomatch h) (va_recv hK hPc (ci := 0) (q0 := 0) rfl rfl)) rfl rfl hl.1 rfl (lv_room (Nat.le_of_ble_eq_true rfl)) dX12_putText_4 ⟨(Nat.le_of_ble_eq_true rfl), (Nat.le_of_ble_eq_true rfl)⟩) hS (fun q _ h => hFc q h) hFc (fun r1 u t H1 locs ht hvm hw hB hz1 hk1 hS => ?_)
    obtain ⟨hP1, hD1⟩ := hB
    rw [ht] at hP1
    obtain ⟨hP, hD⟩ := va_join (wr := [(h0, .inr (16, [w1, w2, w3, w4, .int (nI (j + k1)), .ref ou, w5, w6, w7, w8, w9, w10, w11, w12, w13, w14, w15, w16, w17, w18, w19, w20, w21, w22, w23, w24, w25, w26, w27, w28, w29, w30, w31, w32, w33, w34, w35, w36, w37, w38, w39, w40, w41, w42, w43, w44, w45, w46, w47, w48, w49, w50, w51, w52, w53, w54, w55, w56, w57, w58, w59, w60, w61, w62])), (ou, .inl (y 1, 60000, .inl ge0))]) (w1 := [(sg, .inr (0, [.ref bv, .int 0, w63, w64])), (bv, .inl (y 0, 18, .inl f))]) hP hD [2, 3] [0, 1] rfl rfl (by decide) (by decide) hk1 hFc hP1 hD1
    generalize H1 = H at hP hS ⊢
    have hP : va_P D vwCl [(h0, .inr (16, [w1, w2, w3, w4, .int (nI (j + k1)), .ref ou, w5, w6, w7, w8, w9, w10, w11, w12, w13, w14, w15, w16, w17, w18, w19, w20, w21, w22, w23, w24, w25, w26, w27, w28, w29, w30, w31, w32, w33, w34, w35, w36, w37, w38, w39, w40, w41, w42, w43, w44, w45, w46, w47, w48, w49, w50, w51, w52, w53, w54, w55, w56, w57, w58, w59, w60, w61, w62])), (ou, .inl (y 1, 60000, .inl ge0)), (sg, .inr (0, [.ref bv, .int 0, w63, w64])), (bv, .inl (y 0, 18, .inl f))] H := hP
    have hD : va_D A [(h0, .inr (16, [w1, w2, w3, w4, .int (nI (j + k1)), .ref ou, w5, w6, w7, w8, w9, w10, w11, w12, w13, w14, w15, w16, w17, w18, w19, w20, w21, w22, w23, w24, w25, w26, w27, w28, w29, w30, w31, w32, w33, w34, w35, w36, w37, w38, w39, w40, w41, w42, w43, w44, w45, w46, w47, w48, w49, w50, w51, w52, w53, w54, w55, w56, w57, w58, w59, w60, w61, w62])), (ou, .inl (y 1, 60000, .inl ge0)), (sg, .inr (0, [.ref bv, .int 0, w63, w64])), (bv, .inl (y 0, 18, .inl f))] := hD
    have hw : r1 = 18 := hw
    subst hw
    refine lv_icmp_ge (tgt := 25) hx hb dX12_putText_7 (by decide) (fun c9 => absurd c9 (ax_c_M_putText_18_0 k1 hk11 hk10)) (fun _ => ?_)
    refine lv_aload_n hx hb dX12_putText_10 rfl (lv_at hl 1 rfl) ?_
    refine lv_aload_n hx hb dX12_putText_11 rfl (lv_at hl 2 rfl) ?_
    refine lv_iload_n hx hb dX12_putText_12 rfl (lv_at hl 0 rfl) ?_
    have hPc := hP.sub (ws' := [(sg, .inr (0, [.ref bv, .int 0, w63, w64])), (bv, .inl (y 0, 18, .inl f))]) [2, 3] rfl
    have hDc := hD.sub (ws' := [(sg, .inr (0, [.ref bv, .int 0, w63, w64])), (bv, .inl (y 0, 18, .inl f))]) [2, 3] (by decide) rfl
    have hFc := va_free (wc := [(sg, .inr (0, [.ref bv, .int 0, w63, w64])), (bv, .inl (y 0, 18, .inl f))]) hD hS hA [2, 3] rfl
    refine va_calli (va_runV (As := [.int (nI k1)]) (rest := [.ref h0]) ⟨hx, hb, hml, hown, hts⟩ (c_chr_w_18 l D y H.size sg bv w63 w64 k1 f (by omega)) (cwV 1 hts gv_c_M_putText_18_c_chr_w_18_215 rfl rfl rfl (by decide +kernel) ⟨(Nat.le_of_ble_eq_true rfl), (Nat.le_of_ble_eq_true rfl)⟩) (zB.preV hPc hDc hK hN hE hO hT hG hS hFc (fun _ h => nomatch h) (List.forall_mem_cons.mpr ⟨List.mem_of_getElem? (i := 0) rfl, (fun _ h => nomatch h)⟩) (fun _ h => nomatch h) (List.forall_mem_cons.mpr ⟨List.mem_of_getElem? (i := 0) rfl, (fun _ h => nomatch h)⟩) (va_recv hK hPc (ci := 0) (q0 := 0) rfl rfl)) rfl rfl hl.1 rfl (lv_room (Nat.le_of_ble_eq_true rfl)) dX12_putText_13 ⟨(Nat.le_of_ble_eq_true rfl), (Nat.le_of_ble_eq_true rfl)⟩) hS (fun q _ h => hFc q h) hFc (fun r2 u t H1 locs ht hvm hw hB hz1 hk1 hS => ?_)
    obtain ⟨hP1, hD1⟩ := hB
    rw [ht] at hP1
    obtain ⟨hP, hD⟩ := va_join (wr := [(h0, .inr (16, [w1, w2, w3, w4, .int (nI (j + k1)), .ref ou, w5, w6, w7, w8, w9, w10, w11, w12, w13, w14, w15, w16, w17, w18, w19, w20, w21, w22, w23, w24, w25, w26, w27, w28, w29, w30, w31, w32, w33, w34, w35, w36, w37, w38, w39, w40, w41, w42, w43, w44, w45, w46, w47, w48, w49, w50, w51, w52, w53, w54, w55, w56, w57, w58, w59, w60, w61, w62])), (ou, .inl (y 1, 60000, .inl ge0))]) (w1 := [(sg, .inr (0, [.ref bv, .int 0, w63, w64])), (bv, .inl (y 0, 18, .inl f))]) hP hD [2, 3] [0, 1] rfl rfl (by decide) (by decide) hk1 hFc hP1 hD1
    generalize H1 = H at hP hS ⊢
    have hP : va_P D vwCl [(h0, .inr (16, [w1, w2, w3, w4, .int (nI (j + k1)), .ref ou, w5, w6, w7, w8, w9, w10, w11, w12, w13, w14, w15, w16, w17, w18, w19, w20, w21, w22, w23, w24, w25, w26, w27, w28, w29, w30, w31, w32, w33, w34, w35, w36, w37, w38, w39, w40, w41, w42, w43, w44, w45, w46, w47, w48, w49, w50, w51, w52, w53, w54, w55, w56, w57, w58, w59, w60, w61, w62])), (ou, .inl (y 1, 60000, .inl ge0)), (sg, .inr (0, [.ref bv, .int 0, w63, w64])), (bv, .inl (y 0, 18, .inl f))] H := hP
    have hD : va_D A [(h0, .inr (16, [w1, w2, w3, w4, .int (nI (j + k1)), .ref ou, w5, w6, w7, w8, w9, w10, w11, w12, w13, w14, w15, w16, w17, w18, w19, w20, w21, w22, w23, w24, w25, w26, w27, w28, w29, w30, w31, w32, w33, w34, w35, w36, w37, w38, w39, w40, w41, w42, w43, w44, w45, w46, w47, w48, w49, w50, w51, w52, w53, w54, w55, w56, w57, w58, w59, w60, w61, w62])), (ou, .inl (y 1, 60000, .inl ge0)), (sg, .inr (0, [.ref bv, .int 0, w63, w64])), (bv, .inl (y 0, 18, .inl f))] := hD
    have hw : r2 = (f (nI k1).toNatClampNeg) &&& (255 : Int32) := hw
    subst hw
    have hPc := hP.sub (ws' := [(h0, .inr (16, [w1, w2, w3, w4, .int (nI (j + k1)), .ref ou, w5, w6, w7, w8, w9, w10, w11, w12, w13, w14, w15, w16, w17, w18, w19, w20, w21, w22, w23, w24, w25, w26, w27, w28, w29, w30, w31, w32, w33, w34, w35, w36, w37, w38, w39, w40, w41, w42, w43, w44, w45, w46, w47, w48, w49, w50, w51, w52, w53, w54, w55, w56, w57, w58, w59, w60, w61, w62])), (ou, .inl (y 1, 60000, .inl ge0))]) [0, 1] rfl
    have hDc := hD.sub (ws' := [(h0, .inr (16, [w1, w2, w3, w4, .int (nI (j + k1)), .ref ou, w5, w6, w7, w8, w9, w10, w11, w12, w13, w14, w15, w16, w17, w18, w19, w20, w21, w22, w23, w24, w25, w26, w27, w28, w29, w30, w31, w32, w33, w34, w35, w36, w37, w38, w39, w40, w41, w42, w43, w44, w45, w46, w47, w48, w49, w50, w51, w52, w53, w54, w55, w56, w57, w58, w59, w60, w61, w62])), (ou, .inl (y 1, 60000, .inl ge0))]) [0, 1] (by decide) rfl
    have hFc := va_free (wc := [(h0, .inr (16, [w1, w2, w3, w4, .int (nI (j + k1)), .ref ou, w5, w6, w7, w8, w9, w10, w11, w12, w13, w14, w15, w16, w17, w18, w19, w20, w21, w22, w23, w24, w25, w26, w27, w28, w29, w30, w31, w32, w33, w34, w35, w36, w37, w38, w39, w40, w41, w42, w43, w44, w45, w46, w47, w48, w49, w50, w51, w52, w53, w54, w55, w56, w57, w58, w59, w60, w61, w62])), (ou, .inl (y 1, 60000, .inl ge0))]) hD hS hA [0, 1] rfl
    refine va_callv (va_runV (As := [.int ((f (nI k1).toNatClampNeg) &&& (255 : Int32))]) (rest := []) ⟨hx, hb, hml, hown, hts⟩ (c_M_put l D y H.size h0 ou ((j + k1)) w1 w2 w3 w4 w5 w6 w7 w8 w9 w10 w11 w12 w13 w14 w15 w16 w17 w18 w19 w20 w21 w22 w23 w24 w25 w26 w27 w28 w29 w30 w31 w32 w33 w34 w35 w36 w37 w38 w39 w40 w41 w42 w43 w44 w45 w46 w47 w48 w49 w50 w51 w52 w53 w54 w55 w56 w57 w58 w59 w60 w61 w62 ge0 ((f (nI k1).toNatClampNeg) &&& (255 : Int32)) (by omega)) (cwV 1 hts gv_c_M_putText_18_c_M_put_605 rfl rfl rfl (by decide +kernel) ⟨(Nat.le_of_ble_eq_true rfl), (Nat.le_of_ble_eq_true rfl)⟩) (zB.preV hPc hDc hK hN hE hO hT hG hS hFc (fun _ h => nomatch h) (fun _ h => nomatch h) (fun _ h => nomatch h) (fun _ h => nomatch h) (va_recv hK hPc (ci := 16) (q0 := 0) rfl rfl)) rfl rfl hl.1 rfl (lv_room (Nat.le_of_ble_eq_true rfl)) dX12_putText_16 ⟨(Nat.le_of_ble_eq_true rfl), (Nat.le_of_ble_eq_true rfl)⟩) hS (fun q _ h => hFc q h) hFc (fun u t H1 locs ht hvm hw hB hz1 hk1 hS => ?_)
    obtain ⟨hP1, hD1⟩ := hB
    rw [ht] at hP1
    obtain ⟨hP, hD⟩ := va_join (wr := [(sg, .inr (0, [.ref bv, .int 0, w63, w64])), (bv, .inl (y 0, 18, .inl f))]) (w1 := [(h0, .inr (16, [w1, w2, w3, w4, .int (nI ((j + k1) + 1)), .ref ou, w5, w6, w7, w8, w9, w10, w11, w12, w13, w14, w15, w16, w17, w18, w19, w20, w21, w22, w23, w24, w25, w26, w27, w28, w29, w30, w31, w32, w33, w34, w35, w36, w37, w38, w39, w40, w41, w42, w43, w44, w45, w46, w47, w48, w49, w50, w51, w52, w53, w54, w55, w56, w57, w58, w59, w60, w61, w62])), (ou, .inl (y 1, 60000, .inl (upd ge0 (nI (j + k1)).toNatClampNeg (((f (nI k1).toNatClampNeg) &&& (255 : Int32)) &&& (255 : Int32)))))]) hP hD [0, 1] [2, 3] rfl rfl (by decide) (by decide) hk1 hFc hP1 hD1
    generalize H1 = H at hP hS ⊢
    have hP : va_P D vwCl [(sg, .inr (0, [.ref bv, .int 0, w63, w64])), (bv, .inl (y 0, 18, .inl f)), (h0, .inr (16, [w1, w2, w3, w4, .int (nI ((j + k1) + 1)), .ref ou, w5, w6, w7, w8, w9, w10, w11, w12, w13, w14, w15, w16, w17, w18, w19, w20, w21, w22, w23, w24, w25, w26, w27, w28, w29, w30, w31, w32, w33, w34, w35, w36, w37, w38, w39, w40, w41, w42, w43, w44, w45, w46, w47, w48, w49, w50, w51, w52, w53, w54, w55, w56, w57, w58, w59, w60, w61, w62])), (ou, .inl (y 1, 60000, .inl (upd ge0 (nI (j + k1)).toNatClampNeg (((f (nI k1).toNatClampNeg) &&& (255 : Int32)) &&& (255 : Int32)))))] H := hP
    have hD : va_D A [(sg, .inr (0, [.ref bv, .int 0, w63, w64])), (bv, .inl (y 0, 18, .inl f)), (h0, .inr (16, [w1, w2, w3, w4, .int (nI ((j + k1) + 1)), .ref ou, w5, w6, w7, w8, w9, w10, w11, w12, w13, w14, w15, w16, w17, w18, w19, w20, w21, w22, w23, w24, w25, w26, w27, w28, w29, w30, w31, w32, w33, w34, w35, w36, w37, w38, w39, w40, w41, w42, w43, w44, w45, w46, w47, w48, w49, w50, w51, w52, w53, w54, w55, w56, w57, w58, w59, w60, w61, w62])), (ou, .inl (y 1, 60000, .inl (upd ge0 (nI (j + k1)).toNatClampNeg (((f (nI k1).toNatClampNeg) &&& (255 : Int32)) &&& (255 : Int32)))))] := hD
    refine lv_iinc (v := nI (k1 + 1)) (lv' := [(2, .int (nI (k1 + 1))), (0, .ref h0), (1, .ref sg)]) hx hb dX12_putText_19 hl (k := 0) rfl (ax_c_M_putText_18_1 k1 hk11 hk10) (by decide) rfl (fun ls hl => ?_)
    refine lv_goto (tgt := 2) hx hb dX12_putText_22 (by decide) ?_
    have hP := hP.sub (ws' := [(h0, .inr (16, [w1, w2, w3, w4, .int (nI ((j + k1) + 1)), .ref ou, w5, w6, w7, w8, w9, w10, w11, w12, w13, w14, w15, w16, w17, w18, w19, w20, w21, w22, w23, w24, w25, w26, w27, w28, w29, w30, w31, w32, w33, w34, w35, w36, w37, w38, w39, w40, w41, w42, w43, w44, w45, w46, w47, w48, w49, w50, w51, w52, w53, w54, w55, w56, w57, w58, w59, w60, w61, w62])), (ou, .inl (y 1, 60000, .inl (upd ge0 (nI (j + k1)).toNatClampNeg (((f (nI k1).toNatClampNeg) &&& (255 : Int32)) &&& (255 : Int32))))), (sg, .inr (0, [.ref bv, .int 0, w63, w64])), (bv, .inl (y 0, 18, .inl f))]) [2, 3, 0, 1] rfl
    have hD := hD.sub (ws' := [(h0, .inr (16, [w1, w2, w3, w4, .int (nI ((j + k1) + 1)), .ref ou, w5, w6, w7, w8, w9, w10, w11, w12, w13, w14, w15, w16, w17, w18, w19, w20, w21, w22, w23, w24, w25, w26, w27, w28, w29, w30, w31, w32, w33, w34, w35, w36, w37, w38, w39, w40, w41, w42, w43, w44, w45, w46, w47, w48, w49, w50, w51, w52, w53, w54, w55, w56, w57, w58, w59, w60, w61, w62])), (ou, .inl (y 1, 60000, .inl (upd ge0 (nI (j + k1)).toNatClampNeg (((f (nI k1).toNatClampNeg) &&& (255 : Int32)) &&& (255 : Int32))))), (sg, .inr (0, [.ref bv, .int 0, w63, w64])), (bv, .inl (y 0, 18, .inl f))]) [2, 3, 0, 1] (by decide) rfl
    exact ih ls H locs ⟨_, hP, hD, hS, lv_sub hl [0, 1, 2] rfl⟩
  · obtain ⟨ge0, hP, hD, hS, hl⟩ := hI
    have hl : lv_has ls 3 [(2, .int (nI 18)), (0, .ref h0), (1, .ref sg)] := hl
    have hP : va_P D vwCl [(h0, .inr (16, [w1, w2, w3, w4, .int (nI (j + 18)), .ref ou, w5, w6, w7, w8, w9, w10, w11, w12, w13, w14, w15, w16, w17, w18, w19, w20, w21, w22, w23, w24, w25, w26, w27, w28, w29, w30, w31, w32, w33, w34, w35, w36, w37, w38, w39, w40, w41, w42, w43, w44, w45, w46, w47, w48, w49, w50, w51, w52, w53, w54, w55, w56, w57, w58, w59, w60, w61, w62])), (ou, .inl (y 1, 60000, .inl ge0)), (sg, .inr (0, [.ref bv, .int 0, w63, w64])), (bv, .inl (y 0, 18, .inl f))] H := hP
    have hD : va_D A [(h0, .inr (16, [w1, w2, w3, w4, .int (nI (j + 18)), .ref ou, w5, w6, w7, w8, w9, w10, w11, w12, w13, w14, w15, w16, w17, w18, w19, w20, w21, w22, w23, w24, w25, w26, w27, w28, w29, w30, w31, w32, w33, w34, w35, w36, w37, w38, w39, w40, w41, w42, w43, w44, w45, w46, w47, w48, w49, w50, w51, w52, w53, w54, w55, w56, w57, w58, w59, w60, w61, w62])), (ou, .inl (y 1, 60000, .inl ge0)), (sg, .inr (0, [.ref bv, .int 0, w63, w64])), (bv, .inl (y 0, 18, .inl f))] := hD
    refine lv_iload_n hx hb dX12_putText_2 rfl (lv_at hl 0 rfl) ?_
    refine lv_aload_n hx hb dX12_putText_3 rfl (lv_at hl 2 rfl) ?_
    have hPc := hP.sub (ws' := [(sg, .inr (0, [.ref bv, .int 0, w63, w64])), (bv, .inl (y 0, 18, .inl f))]) [2, 3] rfl
    have hDc := hD.sub (ws' := [(sg, .inr (0, [.ref bv, .int 0, w63, w64])), (bv, .inl (y 0, 18, .inl f))]) [2, 3] (by decide) rfl
    have hFc := va_free (wc := [(sg, .inr (0, [.ref bv, .int 0, w63, w64])), (bv, .inl (y 0, 18, .inl f))]) hD hS hA [2, 3] rfl
    refine va_calli (va_runV (As := []) (rest := [.int (nI 18)]) ⟨hx, hb, hml, hown, hts⟩ (c_len_w_18 l D y H.size sg bv w63 w64 f) (cwV 0 hts gv_c_M_putText_18_c_len_w_18_210 rfl rfl rfl (by decide +kernel) ⟨(Nat.le_of_ble_eq_true rfl), (Nat.le_of_ble_eq_true rfl)⟩) (zB.preV hPc hDc hK hN hE hO hT hG hS hFc (fun _ h => nomatch h) (List.forall_mem_cons.mpr ⟨List.mem_of_getElem? (i := 0) rfl, (fun _ h => nomatch h)⟩) (fun _ h => nomatch h) (fun _ h => nomatch h) (va_recv hK hPc (ci := 0) (q0 := 0) rfl rfl)) rfl rfl hl.1 rfl (lv_room (Nat.le_of_ble_eq_true rfl)) dX12_putText_4 ⟨(Nat.le_of_ble_eq_true rfl), (Nat.le_of_ble_eq_true rfl)⟩) hS (fun q _ h => hFc q h) hFc (fun r3 u t H1 locs ht hvm hw hB hz1 hk1 hS => ?_)
    obtain ⟨hP1, hD1⟩ := hB
    rw [ht] at hP1
    obtain ⟨hP, hD⟩ := va_join (wr := [(h0, .inr (16, [w1, w2, w3, w4, .int (nI (j + 18)), .ref ou, w5, w6, w7, w8, w9, w10, w11, w12, w13, w14, w15, w16, w17, w18, w19, w20, w21, w22, w23, w24, w25, w26, w27, w28, w29, w30, w31, w32, w33, w34, w35, w36, w37, w38, w39, w40, w41, w42, w43, w44, w45, w46, w47, w48, w49, w50, w51, w52, w53, w54, w55, w56, w57, w58, w59, w60, w61, w62])), (ou, .inl (y 1, 60000, .inl ge0))]) (w1 := [(sg, .inr (0, [.ref bv, .int 0, w63, w64])), (bv, .inl (y 0, 18, .inl f))]) hP hD [2, 3] [0, 1] rfl rfl (by decide) (by decide) hk1 hFc hP1 hD1
    generalize H1 = H at hP hS ⊢
    have hP : va_P D vwCl [(h0, .inr (16, [w1, w2, w3, w4, .int (nI (j + 18)), .ref ou, w5, w6, w7, w8, w9, w10, w11, w12, w13, w14, w15, w16, w17, w18, w19, w20, w21, w22, w23, w24, w25, w26, w27, w28, w29, w30, w31, w32, w33, w34, w35, w36, w37, w38, w39, w40, w41, w42, w43, w44, w45, w46, w47, w48, w49, w50, w51, w52, w53, w54, w55, w56, w57, w58, w59, w60, w61, w62])), (ou, .inl (y 1, 60000, .inl ge0)), (sg, .inr (0, [.ref bv, .int 0, w63, w64])), (bv, .inl (y 0, 18, .inl f))] H := hP
    have hD : va_D A [(h0, .inr (16, [w1, w2, w3, w4, .int (nI (j + 18)), .ref ou, w5, w6, w7, w8, w9, w10, w11, w12, w13, w14, w15, w16, w17, w18, w19, w20, w21, w22, w23, w24, w25, w26, w27, w28, w29, w30, w31, w32, w33, w34, w35, w36, w37, w38, w39, w40, w41, w42, w43, w44, w45, w46, w47, w48, w49, w50, w51, w52, w53, w54, w55, w56, w57, w58, w59, w60, w61, w62])), (ou, .inl (y 1, 60000, .inl ge0)), (sg, .inr (0, [.ref bv, .int 0, w63, w64])), (bv, .inl (y 0, 18, .inl f))] := hD
    have hw : r3 = 18 := hw
    subst hw
    refine lv_icmp_ge (tgt := 25) hx hb dX12_putText_7 (by decide) (fun _ => ?_) (fun c9 => absurd (by decide) c9)
    have hP9 := hP.sub (ws' := [(h0, .inr (16, [w1, w2, w3, w4, .int (nI (j + 18)), .ref ou, w5, w6, w7, w8, w9, w10, w11, w12, w13, w14, w15, w16, w17, w18, w19, w20, w21, w22, w23, w24, w25, w26, w27, w28, w29, w30, w31, w32, w33, w34, w35, w36, w37, w38, w39, w40, w41, w42, w43, w44, w45, w46, w47, w48, w49, w50, w51, w52, w53, w54, w55, w56, w57, w58, w59, w60, w61, w62])), (ou, .inl (y 1, 60000, .inl ge0)), (sg, .inr (0, [.ref bv, .int 0, w63, w64])), (bv, .inl (y 0, 18, .inl f))]) [0, 1, 2, 3] rfl
    have hD9 := hD.sub (ws' := [(h0, .inr (16, [w1, w2, w3, w4, .int (nI (j + 18)), .ref ou, w5, w6, w7, w8, w9, w10, w11, w12, w13, w14, w15, w16, w17, w18, w19, w20, w21, w22, w23, w24, w25, w26, w27, w28, w29, w30, w31, w32, w33, w34, w35, w36, w37, w38, w39, w40, w41, w42, w43, w44, w45, w46, w47, w48, w49, w50, w51, w52, w53, w54, w55, w56, w57, w58, w59, w60, w61, w62])), (ou, .inl (y 1, 60000, .inl ge0)), (sg, .inr (0, [.ref bv, .int 0, w63, w64])), (bv, .inl (y 0, 18, .inl f))]) [0, 1, 2, 3] (by decide) rfl
    refine W.widen (k := 0) (n := 0) (Nat.le_of_ble_eq_true rfl) (Nat.le_of_ble_eq_true rfl) ?_
    exact W.vret hx hb hr (fun t ht hW => ⟨⟨(), rfl, trivial, ge0, by rw [ht]; exact hP9, hD9⟩, hS.F ht⟩) hS.2.2 dX12_putText_25
def wz_c_M_signOf_14 : List Cond := .code yX12_signOf cX12_signOf 1 (some .int) :: ([] ++ ([]))
set_option maxHeartbeats 4000000 in
set_option maxRecDepth 100000 in
theorem c_M_signOf_14 (l : Launch) (D : va_G) (y : Nat → ClassId) (sz : Nat)  : Met l yX12_signOf wz_c_M_signOf_14 ({ frames := 0, cells := 0, slots := 0, locals := 0 }) (va_Pc [.int 14] (zB D y [] sz [] [] [] [])) (va_Qi (fun (r : Int32) (_ : Unit) => r = 79) (fun _ t => va_P D vwCl [] t.heap ∧ va_D (va_A [] sz) []) (va_A [] sz)) 0 0 (va_A [] sz) := by
  refine Met.ofW (cc := cX12_signOf) (maxL := 1) (ret := (some .int)) (by decide) rfl ?_
  intro p e s m args below meth c s₁ B hml hv
  obtain ⟨rfl, hsz, hP, hK, hD0, hN, hE, hO, hT, hG⟩ := hv
  have hx := B.exec
  have hb := B.bytes
  have hr := B.returns
  have hts := atoms_spec (ws := wz_c_M_signOf_14) B.pre
  have hown : s.vm.findClass RX12 = some m.cls := findClass_of_methodNamed B.named
  have hlocks := B.notSynchronized
  subst hsz
  have hD := hD0.self (sz := s.heap.size)
  generalize hAe : va_A [] s.heap.size = A at hD hE hT hG ⊢
  have hA : ∀ q : Nat, s.heap.size ≤ q → A q := fun q h => by rw [← hAe]; exact Or.inr h
  have hS : va_S A s.heap s.heap [] := va_S.rf
  have hl := lv_entry ([.int 14]) (n := 1) (Nat.le_of_ble_eq_true rfl)
  rw [lg_entry_eq]
  generalize (lg_sl ([.int 14]) ++ List.replicate (1 - (lg_sl ([.int 14])).length) Slot.unset).toArray = ls at hl ⊢
  have hl : lv_has ls 1 [(0, .int 14)] := hl
  refine lv_iload_n hx hb dX12_signOf_0 rfl (lv_at hl 0 rfl) ?_
  refine lv_bipush (v := 26) hx hb dX12_signOf_1 (by decide) ?_
  refine lv_icmp_ge (tgt := 13) hx hb dX12_signOf_3 (by decide) (fun c9 => absurd c9 (by decide)) (fun _ => ?_)
  refine lv_bipush (v := 65) hx hb dX12_signOf_6 (by decide) ?_
  refine lv_iload_n hx hb dX12_signOf_8 rfl (lv_at hl 0 rfl) ?_
  refine lv_iadd hx hb dX12_signOf_9 ?_
  refine lv_topi (fun v1 ev1 => ?_)
  have ev1 : v1 = 79 := ev1.trans (by decide +kernel)
  subst ev1
  refine lv_goto (tgt := 51) hx hb dX12_signOf_10 (by decide) ?_
  have hP9 := hP.sub (ws' := []) [] rfl
  have hD9 := hD.sub (ws' := []) [] (by decide) rfl
  refine W.widen (k := 0) (n := 0) (Nat.le_of_ble_eq_true rfl) (Nat.le_of_ble_eq_true rfl) ?_
  exact W.iret (v := 79) hx hb hr (fun t ht hW => ⟨⟨79, (), rfl, rfl, by rw [ht]; exact hP9, hD9⟩, hS.F ht⟩) hS.2.2 dX12_signOf_51
def wz_c_M_signOf_19 : List Cond := .code yX12_signOf cX12_signOf 1 (some .int) :: ([] ++ ([]))
set_option maxHeartbeats 4000000 in
set_option maxRecDepth 100000 in
theorem c_M_signOf_19 (l : Launch) (D : va_G) (y : Nat → ClassId) (sz : Nat)  : Met l yX12_signOf wz_c_M_signOf_19 ({ frames := 0, cells := 0, slots := 0, locals := 0 }) (va_Pc [.int 19] (zB D y [] sz [] [] [] [])) (va_Qi (fun (r : Int32) (_ : Unit) => r = 84) (fun _ t => va_P D vwCl [] t.heap ∧ va_D (va_A [] sz) []) (va_A [] sz)) 0 0 (va_A [] sz) := by
  refine Met.ofW (cc := cX12_signOf) (maxL := 1) (ret := (some .int)) (by decide) rfl ?_
  intro p e s m args below meth c s₁ B hml hv
  obtain ⟨rfl, hsz, hP, hK, hD0, hN, hE, hO, hT, hG⟩ := hv
  have hx := B.exec
  have hb := B.bytes
  have hr := B.returns
  have hts := atoms_spec (ws := wz_c_M_signOf_19) B.pre
  have hown : s.vm.findClass RX12 = some m.cls := findClass_of_methodNamed B.named
  have hlocks := B.notSynchronized
  subst hsz
  have hD := hD0.self (sz := s.heap.size)
  generalize hAe : va_A [] s.heap.size = A at hD hE hT hG ⊢
  have hA : ∀ q : Nat, s.heap.size ≤ q → A q := fun q h => by rw [← hAe]; exact Or.inr h
  have hS : va_S A s.heap s.heap [] := va_S.rf
  have hl := lv_entry ([.int 19]) (n := 1) (Nat.le_of_ble_eq_true rfl)
  rw [lg_entry_eq]
  generalize (lg_sl ([.int 19]) ++ List.replicate (1 - (lg_sl ([.int 19])).length) Slot.unset).toArray = ls at hl ⊢
  have hl : lv_has ls 1 [(0, .int 19)] := hl
  refine lv_iload_n hx hb dX12_signOf_0 rfl (lv_at hl 0 rfl) ?_
  refine lv_bipush (v := 26) hx hb dX12_signOf_1 (by decide) ?_
  refine lv_icmp_ge (tgt := 13) hx hb dX12_signOf_3 (by decide) (fun c9 => absurd c9 (by decide)) (fun _ => ?_)
  refine lv_bipush (v := 65) hx hb dX12_signOf_6 (by decide) ?_
  refine lv_iload_n hx hb dX12_signOf_8 rfl (lv_at hl 0 rfl) ?_
  refine lv_iadd hx hb dX12_signOf_9 ?_
  refine lv_topi (fun v1 ev1 => ?_)
  have ev1 : v1 = 84 := ev1.trans (by decide +kernel)
  subst ev1
  refine lv_goto (tgt := 51) hx hb dX12_signOf_10 (by decide) ?_
  have hP9 := hP.sub (ws' := []) [] rfl
  have hD9 := hD.sub (ws' := []) [] (by decide) rfl
  refine W.widen (k := 0) (n := 0) (Nat.le_of_ble_eq_true rfl) (Nat.le_of_ble_eq_true rfl) ?_
  exact W.iret (v := 84) hx hb hr (fun t ht hW => ⟨⟨84, (), rfl, rfl, by rw [ht]; exact hP9, hD9⟩, hS.F ht⟩) hS.2.2 dX12_signOf_51
def wz_c_M_signOf_45 : List Cond := .code yX12_signOf cX12_signOf 1 (some .int) :: ([] ++ ([]))
set_option maxHeartbeats 4000000 in
set_option maxRecDepth 100000 in
theorem c_M_signOf_45 (l : Launch) (D : va_G) (y : Nat → ClassId) (sz : Nat)  : Met l yX12_signOf wz_c_M_signOf_45 ({ frames := 0, cells := 0, slots := 0, locals := 0 }) (va_Pc [.int 45] (zB D y [] sz [] [] [] [])) (va_Qi (fun (r : Int32) (_ : Unit) => r = 116) (fun _ t => va_P D vwCl [] t.heap ∧ va_D (va_A [] sz) []) (va_A [] sz)) 0 0 (va_A [] sz) := by
  refine Met.ofW (cc := cX12_signOf) (maxL := 1) (ret := (some .int)) (by decide) rfl ?_
  intro p e s m args below meth c s₁ B hml hv
  obtain ⟨rfl, hsz, hP, hK, hD0, hN, hE, hO, hT, hG⟩ := hv
  have hx := B.exec
  have hb := B.bytes
  have hr := B.returns
  have hts := atoms_spec (ws := wz_c_M_signOf_45) B.pre
  have hown : s.vm.findClass RX12 = some m.cls := findClass_of_methodNamed B.named
  have hlocks := B.notSynchronized
  subst hsz
  have hD := hD0.self (sz := s.heap.size)
  generalize hAe : va_A [] s.heap.size = A at hD hE hT hG ⊢
  have hA : ∀ q : Nat, s.heap.size ≤ q → A q := fun q h => by rw [← hAe]; exact Or.inr h
  have hS : va_S A s.heap s.heap [] := va_S.rf
  have hl := lv_entry ([.int 45]) (n := 1) (Nat.le_of_ble_eq_true rfl)
  rw [lg_entry_eq]
  generalize (lg_sl ([.int 45]) ++ List.replicate (1 - (lg_sl ([.int 45])).length) Slot.unset).toArray = ls at hl ⊢
  have hl : lv_has ls 1 [(0, .int 45)] := hl
  refine lv_iload_n hx hb dX12_signOf_0 rfl (lv_at hl 0 rfl) ?_
  refine lv_bipush (v := 26) hx hb dX12_signOf_1 (by decide) ?_
  refine lv_icmp_ge (tgt := 13) hx hb dX12_signOf_3 (by decide) (fun _ => ?_) (fun c9 => absurd (by decide) c9)
  refine lv_iload_n hx hb dX12_signOf_13 rfl (lv_at hl 0 rfl) ?_
  refine lv_bipush (v := 52) hx hb dX12_signOf_14 (by decide) ?_
  refine lv_icmp_ge (tgt := 26) hx hb dX12_signOf_16 (by decide) (fun c9 => absurd c9 (by decide)) (fun _ => ?_)
  refine lv_bipush (v := 71) hx hb dX12_signOf_19 (by decide) ?_
  refine lv_iload_n hx hb dX12_signOf_21 rfl (lv_at hl 0 rfl) ?_
  refine lv_iadd hx hb dX12_signOf_22 ?_
  refine lv_topi (fun v1 ev1 => ?_)
  have ev1 : v1 = 116 := ev1.trans (by decide +kernel)
  subst ev1
  refine lv_goto (tgt := 51) hx hb dX12_signOf_23 (by decide) ?_
  have hP9 := hP.sub (ws' := []) [] rfl
  have hD9 := hD.sub (ws' := []) [] (by decide) rfl
  refine W.widen (k := 0) (n := 0) (Nat.le_of_ble_eq_true rfl) (Nat.le_of_ble_eq_true rfl) ?_
  exact W.iret (v := 116) hx hb hr (fun t ht hW => ⟨⟨116, (), rfl, rfl, by rw [ht]; exact hP9, hD9⟩, hS.F ht⟩) hS.2.2 dX12_signOf_51
def wz_c_M_signOf_48 : List Cond := .code yX12_signOf cX12_signOf 1 (some .int) :: ([] ++ ([]))
set_option maxHeartbeats 4000000 in
set_option maxRecDepth 100000 in
theorem c_M_signOf_48 (l : Launch) (D : va_G) (y : Nat → ClassId) (sz : Nat)  : Met l yX12_signOf wz_c_M_signOf_48 ({ frames := 0, cells := 0, slots := 0, locals := 0 }) (va_Pc [.int 48] (zB D y [] sz [] [] [] [])) (va_Qi (fun (r : Int32) (_ : Unit) => r = 119) (fun _ t => va_P D vwCl [] t.heap ∧ va_D (va_A [] sz) []) (va_A [] sz)) 0 0 (va_A [] sz) := by
  refine Met.ofW (cc := cX12_signOf) (maxL := 1) (ret := (some .int)) (by decide) rfl ?_
  intro p e s m args below meth c s₁ B hml hv
  obtain ⟨rfl, hsz, hP, hK, hD0, hN, hE, hO, hT, hG⟩ := hv
  have hx := B.exec
  have hb := B.bytes
  have hr := B.returns
  have hts := atoms_spec (ws := wz_c_M_signOf_48) B.pre
  have hown : s.vm.findClass RX12 = some m.cls := findClass_of_methodNamed B.named
  have hlocks := B.notSynchronized
  subst hsz
  have hD := hD0.self (sz := s.heap.size)
  generalize hAe : va_A [] s.heap.size = A at hD hE hT hG ⊢
  have hA : ∀ q : Nat, s.heap.size ≤ q → A q := fun q h => by rw [← hAe]; exact Or.inr h
  have hS : va_S A s.heap s.heap [] := va_S.rf
  have hl := lv_entry ([.int 48]) (n := 1) (Nat.le_of_ble_eq_true rfl)
  rw [lg_entry_eq]
  generalize (lg_sl ([.int 48]) ++ List.replicate (1 - (lg_sl ([.int 48])).length) Slot.unset).toArray = ls at hl ⊢
  have hl : lv_has ls 1 [(0, .int 48)] := hl
  refine lv_iload_n hx hb dX12_signOf_0 rfl (lv_at hl 0 rfl) ?_
  refine lv_bipush (v := 26) hx hb dX12_signOf_1 (by decide) ?_
  refine lv_icmp_ge (tgt := 13) hx hb dX12_signOf_3 (by decide) (fun _ => ?_) (fun c9 => absurd (by decide) c9)
  refine lv_iload_n hx hb dX12_signOf_13 rfl (lv_at hl 0 rfl) ?_
  refine lv_bipush (v := 52) hx hb dX12_signOf_14 (by decide) ?_
  refine lv_icmp_ge (tgt := 26) hx hb dX12_signOf_16 (by decide) (fun c9 => absurd c9 (by decide)) (fun _ => ?_)
  refine lv_bipush (v := 71) hx hb dX12_signOf_19 (by decide) ?_
  refine lv_iload_n hx hb dX12_signOf_21 rfl (lv_at hl 0 rfl) ?_
  refine lv_iadd hx hb dX12_signOf_22 ?_
  refine lv_topi (fun v1 ev1 => ?_)
  have ev1 : v1 = 119 := ev1.trans (by decide +kernel)
  subst ev1
  refine lv_goto (tgt := 51) hx hb dX12_signOf_23 (by decide) ?_
  have hP9 := hP.sub (ws' := []) [] rfl
  have hD9 := hD.sub (ws' := []) [] (by decide) rfl
  refine W.widen (k := 0) (n := 0) (Nat.le_of_ble_eq_true rfl) (Nat.le_of_ble_eq_true rfl) ?_
  exact W.iret (v := 119) hx hb hr (fun t ht hW => ⟨⟨119, (), rfl, rfl, by rw [ht]; exact hP9, hD9⟩, hS.F ht⟩) hS.2.2 dX12_signOf_51
def wz_c_M_label_0 : List Cond := .code yX12_label cX12_label 1 (some (.object "java/lang/String")) :: ([] ++ ([]))
set_option maxHeartbeats 4000000 in
set_option maxRecDepth 100000 in
theorem c_M_label_0 (l : Launch) (D : va_G) (y : Nat → ClassId) (sz : Nat) (sa7 : Nat) (st7 : Nat) : Met l yX12_label wz_c_M_label_0 ({ frames := 0, cells := 0, slots := 0, locals := 0 }) (va_Pc [.int 0] (zB D y [] sz [] [] [] [.inr (.inl (sa7, st7, 11, zs7)), .inr (.inr (.inl (RX12, 204, "SEALED KEYS", sa7)))])) (va_Qq (fun (r : Option Nat) (_ : Unit) => r = some sa7) (fun _ t => va_P D vwCl [] t.heap ∧ va_D (va_A [] sz) []) (va_A [] sz)) 0 0 (va_A [] sz) := by
  refine Met.ofW (cc := cX12_label) (maxL := 1) (ret := (some (.object "java/lang/String"))) (by decide) rfl ?_
  intro p e s m args below meth c s₁ B hml hv
  obtain ⟨rfl, hsz, hP, hK, hD0, hN, hE, hO, hT, hG⟩ := hv
  have hx := B.exec
  have hb := B.bytes
  have hr := B.returns
  have hts := atoms_spec (ws := wz_c_M_label_0) B.pre
  have hown : s.vm.findClass RX12 = some m.cls := findClass_of_methodNamed B.named
  have hlocks := B.notSynchronized
  subst hsz
  have hD := hD0.self (sz := s.heap.size)
  generalize hAe : va_A [] s.heap.size = A at hD hE hT hG ⊢
  have hA : ∀ q : Nat, s.heap.size ≤ q → A q := fun q h => by rw [← hAe]; exact Or.inr h
  have hS : va_S A s.heap s.heap [] := va_S.rf
  have hl := lv_entry ([.int 0]) (n := 1) (Nat.le_of_ble_eq_true rfl)
  rw [lg_entry_eq]
  generalize (lg_sl ([.int 0]) ++ List.replicate (1 - (lg_sl ([.int 0])).length) Slot.unset).toArray = ls at hl ⊢
  have hl : lv_has ls 1 [(0, .int 0)] := hl
  refine lv_iload_n hx hb dX12_label_0 rfl (lv_at hl 0 rfl) ?_
  refine lv_if_ne (tgt := 9) hx hb dX12_label_1 (by decide) (fun c9 => absurd (by decide) c9) (fun _ => ?_)
  refine va_ldcS hx hb hown (show vk_R RX12 204 "SEALED KEYS" sa7 s from (hG (.inr (.inr (.inl (RX12, 204, "SEALED KEYS", sa7)))) (List.mem_of_getElem? (i := 1) rfl))) dX12_label_4 ?_
  refine lv_goto (tgt := 21) hx hb dX12_label_6 (by decide) ?_
  have hP9 := hP.sub (ws' := []) [] rfl
  have hD9 := hD.sub (ws' := []) [] (by decide) rfl
  refine W.widen (k := 0) (n := 0) (Nat.le_of_ble_eq_true rfl) (Nat.le_of_ble_eq_true rfl) ?_
  exact W.aret (v := .ref sa7) hx hb hr (Or.inl ⟨_, rfl⟩) (Or.inr ⟨_, rfl⟩) (fun t ht hW => ⟨⟨(some sa7), (), rfl, rfl, by rw [ht]; exact hP9, hD9⟩, hS.F ht⟩) hS.2.2 dX12_label_21
def wz_c_M_label_1 : List Cond := .code yX12_label cX12_label 1 (some (.object "java/lang/String")) :: ([] ++ ([]))
set_option maxHeartbeats 4000000 in
set_option maxRecDepth 100000 in
theorem c_M_label_1 (l : Launch) (D : va_G) (y : Nat → ClassId) (sz : Nat) (sa8 : Nat) (st8 : Nat) : Met l yX12_label wz_c_M_label_1 ({ frames := 0, cells := 0, slots := 0, locals := 0 }) (va_Pc [.int 1] (zB D y [] sz [] [] [] [.inr (.inl (sa8, st8, 4, zs8)), .inr (.inr (.inl (RX12, 206, "SEAL", sa8)))])) (va_Qq (fun (r : Option Nat) (_ : Unit) => r = some sa8) (fun _ t => va_P D vwCl [] t.heap ∧ va_D (va_A [] sz) []) (va_A [] sz)) 0 0 (va_A [] sz) := by
  refine Met.ofW (cc := cX12_label) (maxL := 1) (ret := (some (.object "java/lang/String"))) (by decide) rfl ?_
  intro p e s m args below meth c s₁ B hml hv
  obtain ⟨rfl, hsz, hP, hK, hD0, hN, hE, hO, hT, hG⟩ := hv
  have hx := B.exec
  have hb := B.bytes
  have hr := B.returns
  have hts := atoms_spec (ws := wz_c_M_label_1) B.pre
  have hown : s.vm.findClass RX12 = some m.cls := findClass_of_methodNamed B.named
  have hlocks := B.notSynchronized
  subst hsz
  have hD := hD0.self (sz := s.heap.size)
  generalize hAe : va_A [] s.heap.size = A at hD hE hT hG ⊢
  have hA : ∀ q : Nat, s.heap.size ≤ q → A q := fun q h => by rw [← hAe]; exact Or.inr h
  have hS : va_S A s.heap s.heap [] := va_S.rf
  have hl := lv_entry ([.int 1]) (n := 1) (Nat.le_of_ble_eq_true rfl)
  rw [lg_entry_eq]
  generalize (lg_sl ([.int 1]) ++ List.replicate (1 - (lg_sl ([.int 1])).length) Slot.unset).toArray = ls at hl ⊢
  have hl : lv_has ls 1 [(0, .int 1)] := hl
  refine lv_iload_n hx hb dX12_label_0 rfl (lv_at hl 0 rfl) ?_
  refine lv_if_ne (tgt := 9) hx hb dX12_label_1 (by decide) (fun _ => ?_) (fun c9 => absurd c9 (by decide))
  refine lv_iload_n hx hb dX12_label_9 rfl (lv_at hl 0 rfl) ?_
  refine lv_iconst (v := 1) hx hb dX12_label_10 (by decide) ?_
  refine lv_icmp_ne (tgt := 19) hx hb dX12_label_11 (by decide) (fun c9 => absurd (by decide) c9) (fun _ => ?_)
  refine va_ldcS hx hb hown (show vk_R RX12 206 "SEAL" sa8 s from (hG (.inr (.inr (.inl (RX12, 206, "SEAL", sa8)))) (List.mem_of_getElem? (i := 1) rfl))) dX12_label_14 ?_
  refine lv_goto (tgt := 21) hx hb dX12_label_16 (by decide) ?_
  have hP9 := hP.sub (ws' := []) [] rfl
  have hD9 := hD.sub (ws' := []) [] (by decide) rfl
  refine W.widen (k := 0) (n := 0) (Nat.le_of_ble_eq_true rfl) (Nat.le_of_ble_eq_true rfl) ?_
  exact W.aret (v := .ref sa8) hx hb hr (Or.inl ⟨_, rfl⟩) (Or.inr ⟨_, rfl⟩) (fun t ht hW => ⟨⟨(some sa8), (), rfl, rfl, by rw [ht]; exact hP9, hD9⟩, hS.F ht⟩) hS.2.2 dX12_label_21
def wz_c_M_label_2 : List Cond := .code yX12_label cX12_label 1 (some (.object "java/lang/String")) :: ([] ++ ([]))
set_option maxHeartbeats 4000000 in
set_option maxRecDepth 100000 in
theorem c_M_label_2 (l : Launch) (D : va_G) (y : Nat → ClassId) (sz : Nat) (sa9 : Nat) (st9 : Nat) : Met l yX12_label wz_c_M_label_2 ({ frames := 0, cells := 0, slots := 0, locals := 0 }) (va_Pc [.int 2] (zB D y [] sz [] [] [] [.inr (.inl (sa9, st9, 13, zs9)), .inr (.inr (.inl (RX12, 208, "SEALED LETTER", sa9)))])) (va_Qq (fun (r : Option Nat) (_ : Unit) => r = some sa9) (fun _ t => va_P D vwCl [] t.heap ∧ va_D (va_A [] sz) []) (va_A [] sz)) 0 0 (va_A [] sz) := by
  refine Met.ofW (cc := cX12_label) (maxL := 1) (ret := (some (.object "java/lang/String"))) (by decide) rfl ?_
  intro p e s m args below meth c s₁ B hml hv
  obtain ⟨rfl, hsz, hP, hK, hD0, hN, hE, hO, hT, hG⟩ := hv
  have hx := B.exec
  have hb := B.bytes
  have hr := B.returns
  have hts := atoms_spec (ws := wz_c_M_label_2) B.pre
  have hown : s.vm.findClass RX12 = some m.cls := findClass_of_methodNamed B.named
  have hlocks := B.notSynchronized
  subst hsz
  have hD := hD0.self (sz := s.heap.size)
  generalize hAe : va_A [] s.heap.size = A at hD hE hT hG ⊢
  have hA : ∀ q : Nat, s.heap.size ≤ q → A q := fun q h => by rw [← hAe]; exact Or.inr h
  have hS : va_S A s.heap s.heap [] := va_S.rf
  have hl := lv_entry ([.int 2]) (n := 1) (Nat.le_of_ble_eq_true rfl)
  rw [lg_entry_eq]
  generalize (lg_sl ([.int 2]) ++ List.replicate (1 - (lg_sl ([.int 2])).length) Slot.unset).toArray = ls at hl ⊢
  have hl : lv_has ls 1 [(0, .int 2)] := hl
  refine lv_iload_n hx hb dX12_label_0 rfl (lv_at hl 0 rfl) ?_
  refine lv_if_ne (tgt := 9) hx hb dX12_label_1 (by decide) (fun _ => ?_) (fun c9 => absurd c9 (by decide))
  refine lv_iload_n hx hb dX12_label_9 rfl (lv_at hl 0 rfl) ?_
  refine lv_iconst (v := 1) hx hb dX12_label_10 (by decide) ?_
  refine lv_icmp_ne (tgt := 19) hx hb dX12_label_11 (by decide) (fun _ => ?_) (fun c9 => absurd c9 (by decide))
  refine va_ldcS hx hb hown (show vk_R RX12 208 "SEALED LETTER" sa9 s from (hG (.inr (.inr (.inl (RX12, 208, "SEALED LETTER", sa9)))) (List.mem_of_getElem? (i := 1) rfl))) dX12_label_19 ?_
  have hP9 := hP.sub (ws' := []) [] rfl
  have hD9 := hD.sub (ws' := []) [] (by decide) rfl
  refine W.widen (k := 0) (n := 0) (Nat.le_of_ble_eq_true rfl) (Nat.le_of_ble_eq_true rfl) ?_
  exact W.aret (v := .ref sa9) hx hb hr (Or.inl ⟨_, rfl⟩) (Or.inr ⟨_, rfl⟩) (fun t ht hW => ⟨⟨(some sa9), (), rfl, rfl, by rw [ht]; exact hP9, hD9⟩, hS.F ht⟩) hS.2.2 dX12_label_21
def wz_c_ASB_init : List Cond := .code yJ5_init_d00df cJ5_init_d00df 2 none :: ([.methodLink RJ5 3 objectInit, .instanceMethod objectInit, .code objectInit ⟨#[0xb1]⟩ 1 none, .fieldLink RJ5 18 "java/lang/String" "COMPACT_STRINGS" "Z", .arrayClass .byte, .fieldLink RJ5 15 "java/lang/AbstractStringBuilder" "value" "[B", .fieldLink RJ5 22 "java/lang/AbstractStringBuilder" "coder" "B"] ++ (wsJ40 ++ ([])))
set_option maxHeartbeats 4000000 in
set_option maxRecDepth 100000 in
theorem c_ASB_init (l : Launch) (D : va_G) (y : Nat → ClassId) (sz : Nat) (h0 : Nat) : Met l yJ5_init_d00df wz_c_ASB_init ({ frames := 1, cells := 1, slots := 16, locals := 12 }) (va_Pc [.ref h0, .int 16] (zB D y [(h0, .inr (1, [.null, .int 0, .int 0, .int 0]))] sz [] [("java/lang/String", "COMPACT_STRINGS", "Z", .int 1)] [] [])) (va_Qv (fun _ : Unit => True) (fun _ t => ∃ q1 : Nat, va_P D vwCl [(h0, .inr (1, [.ref q1, .int 0, .int 0, .int 0])), (q1, .inl (y 0, 16, .inl (fun _ => 0)))] t.heap ∧ va_D (va_A [(h0, .inr (1, [.null, .int 0, .int 0, .int 0]))] sz) [(h0, .inr (1, [.ref q1, .int 0, .int 0, .int 0])), (q1, .inl (y 0, 16, .inl (fun _ => 0)))]) (va_A [(h0, .inr (1, [.null, .int 0, .int 0, .int 0]))] sz)) 1 16 (va_A [(h0, .inr (1, [.null, .int 0, .int 0, .int 0]))] sz) := by
  refine Met.ofW (cc := cJ5_init_d00df) (maxL := 2) (ret := none) (by decide) rfl ?_
  intro p e s m args below meth c s₁ B hml hv
  obtain ⟨rfl, hsz, hP, hK, hD0, hN, hE, hO, hT, hG⟩ := hv
  have hx := B.exec
  have hb := B.bytes
  have hr := B.returns
  have hts := atoms_spec (ws := wz_c_ASB_init) B.pre
  have hown : s.vm.findClass RJ5 = some m.cls := findClass_of_methodNamed B.named
  have hlocks := B.notSynchronized
  have hin : meth.name = "<init>" := (name_of_methodNamed B.named B.method).1
  subst hsz
  have hD := hD0.self (sz := s.heap.size)
  generalize hAe : va_A [(h0, .inr (1, [.null, .int 0, .int 0, .int 0]))] s.heap.size = A at hD hE hT hG ⊢
  have hA : ∀ q : Nat, s.heap.size ≤ q → A q := fun q h => by rw [← hAe]; exact Or.inr h
  have hS : va_S A s.heap s.heap [] := va_S.rf
  have hl := lv_entry ([.ref h0, .int 16]) (n := 2) (Nat.le_of_ble_eq_true rfl)
  rw [lg_entry_eq]
  generalize (lg_sl ([.ref h0, .int 16]) ++ List.replicate (2 - (lg_sl ([.ref h0, .int 16])).length) Slot.unset).toArray = ls at hl ⊢
  have hl : lv_has ls 2 [(0, .ref h0), (1, .int 16)] := hl
  refine lv_aload_n hx hb dJ5_init_d00df_0 rfl (lv_at hl 0 rfl) ?_
  refine W.objInit hx hb hown (hts (.methodLink RJ5 3 objectInit) (by decide +kernel)) (hts (.instanceMethod objectInit) (by decide +kernel)) (hts (.code objectInit ⟨#[0xb1]⟩ 1 none) (by decide +kernel)) rfl (by rw [hml]; exact hl.1) rfl dJ5_init_d00df_1 (Nat.le_of_ble_eq_true rfl) (Nat.le_of_ble_eq_true rfl) ?_
  refine W.eq (g2 := F0 m 4 ls []) rfl ?_
  refine va_gets hx hb (hE ("java/lang/String", "COMPACT_STRINGS", "Z", .int 1) (List.mem_of_getElem? (i := 0) rfl)) hS hown (hts (.fieldLink RJ5 18 "java/lang/String" "COMPACT_STRINGS" "Z") (by decide +kernel)) (fun _ h9 => h9) dJ5_init_d00df_4 ?_
  refine lv_if_eq (tgt := 25) hx hb dJ5_init_d00df_7 (by decide) (fun c9 => absurd c9 (by decide)) (fun _ => ?_)
  refine lv_aload_n hx hb dJ5_init_d00df_10 rfl (lv_at hl 0 rfl) ?_
  refine lv_iload_n hx hb dJ5_init_d00df_11 rfl (lv_at hl 1 rfl) ?_
  refine zz_newa (atype := .byte) (n := 16) (N' := 16) (a0 := (16, .inl (fun _ => 0))) (ty := .byte) hx hb (hts (.arrayClass .byte) (by decide +kernel)) rfl hK 0 rfl hP hD hS hA (zz_aB 16) (by decide +kernel) (by decide +kernel) (by decide +kernel) (Nat.le_of_ble_eq_true rfl) (Nat.le_of_ble_eq_true rfl) dJ5_init_d00df_12 (fun q1 H hP hD hS => ?_)
  have hP : va_P D vwCl [(h0, .inr (1, [.null, .int 0, .int 0, .int 0])), (q1, .inl (y 0, 16, .inl (fun _ => 0)))] H := hP
  have hD : va_D A [(h0, .inr (1, [.null, .int 0, .int 0, .int 0])), (q1, .inl (y 0, 16, .inl (fun _ => 0)))] := hD
  refine va_put (D := D) (ci := 1) (v := .ref q1) (ty := (.array .byte)) (C := RJ4) (T := TJ4) (N := 4) hx hb hts (by decide +kernel) tyJ4 tyJ4_ok nmJ4 hown hK hP hD hS 0 rfl rfl 0 (by decide) (hts (.fieldLink RJ5 15 "java/lang/AbstractStringBuilder" "value" "[B") (by decide +kernel)) (fun _ h9 => h9) rfl (by decide +kernel) rfl rfl (Nat.le_of_ble_eq_true rfl) dJ5_init_d00df_14 (fun H locs hP hD hS => ?_)
  have hP : va_P D vwCl [(h0, .inr (1, [.ref q1, .int 0, .int 0, .int 0])), (q1, .inl (y 0, 16, .inl (fun _ => 0)))] H := hP
  have hD : va_D A [(h0, .inr (1, [.ref q1, .int 0, .int 0, .int 0])), (q1, .inl (y 0, 16, .inl (fun _ => 0)))] := hD
  refine lv_aload_n hx hb dJ5_init_d00df_17 rfl (lv_at hl 0 rfl) ?_
  refine lv_iconst (v := 0) hx hb dJ5_init_d00df_18 (by decide) ?_
  refine va_put (D := D) (ci := 1) (v := .int 0) (ty := .byte) (C := RJ4) (T := TJ4) (N := 4) hx hb hts (by decide +kernel) tyJ4 tyJ4_ok nmJ4 hown hK hP hD hS 0 rfl rfl 1 (by decide) (hts (.fieldLink RJ5 22 "java/lang/AbstractStringBuilder" "coder" "B") (by decide +kernel)) (fun _ h9 => h9) rfl (by decide +kernel) rfl rfl (Nat.le_of_ble_eq_true rfl) dJ5_init_d00df_19 (fun H locs hP hD hS => ?_)
  have hP : va_P D vwCl [(h0, .inr (1, [.ref q1, .int 0, .int 0, .int 0])), (q1, .inl (y 0, 16, .inl (fun _ => 0)))] H := hP
  have hD : va_D A [(h0, .inr (1, [.ref q1, .int 0, .int 0, .int 0])), (q1, .inl (y 0, 16, .inl (fun _ => 0)))] := hD
  refine lv_goto (tgt := 38) hx hb dJ5_init_d00df_22 (by decide) ?_
  have hP9 := hP.sub (ws' := [(h0, .inr (1, [.ref q1, .int 0, .int 0, .int 0])), (q1, .inl (y 0, 16, .inl (fun _ => 0)))]) [0, 1] rfl
  have hD9 := hD.sub (ws' := [(h0, .inr (1, [.ref q1, .int 0, .int 0, .int 0])), (q1, .inl (y 0, 16, .inl (fun _ => 0)))]) [0, 1] (by decide) rfl
  refine W.widen (k := 1) (n := 16) (Nat.le_of_ble_eq_true rfl) (Nat.le_of_ble_eq_true rfl) ?_
  exact W.vret hx hb hr (fun t ht hW => ⟨⟨(), rfl, trivial, q1, by rw [ht]; exact hP9, hD9⟩, hS.F ht⟩) hS.2.2 dJ5_init_d00df_38
def wz_c_SB_init : List Cond := .code yJ4_init_da8c8 cJ4_init_da8c8 1 none :: ([.initialized RJ5, .methodLink RJ4 1 yJ5_init_d00df, .instanceMethod yJ5_init_d00df] ++ (wz_c_ASB_init ++ ([])))
set_option maxRecDepth 100000 in
theorem gz_c_SB_init_c_ASB_init : GoodIn wz_c_SB_init wz_c_ASB_init := goodIn_sub (fun w h => List.mem_cons_of_mem _ (List.mem_append_right _ (List.mem_append_left _ h))) (by decide +kernel)
set_option maxHeartbeats 4000000 in
set_option maxRecDepth 100000 in
theorem c_SB_init (l : Launch) (D : va_G) (y : Nat → ClassId) (sz : Nat) (h0 : Nat) : Met l yJ4_init_da8c8 wz_c_SB_init ({ frames := 2, cells := 1, slots := 16, locals := 33 }) (va_Pc [.ref h0] (zB D y [(h0, .inr (1, [.null, .int 0, .int 0, .int 0]))] sz [] [("java/lang/String", "COMPACT_STRINGS", "Z", .int 1)] [] [])) (va_Qv (fun _ : Unit => True) (fun _ t => ∃ q1 : Nat, va_P D vwCl [(h0, .inr (1, [.ref q1, .int 0, .int 0, .int 0])), (q1, .inl (y 0, 16, .inl (fun _ => 0)))] t.heap ∧ va_D (va_A [(h0, .inr (1, [.null, .int 0, .int 0, .int 0]))] sz) [(h0, .inr (1, [.ref q1, .int 0, .int 0, .int 0])), (q1, .inl (y 0, 16, .inl (fun _ => 0)))]) (va_A [(h0, .inr (1, [.null, .int 0, .int 0, .int 0]))] sz)) 1 16 (va_A [(h0, .inr (1, [.null, .int 0, .int 0, .int 0]))] sz) := by
  refine Met.ofW (cc := cJ4_init_da8c8) (maxL := 1) (ret := none) (by decide) rfl ?_
  intro p e s m args below meth c s₁ B hml hv
  obtain ⟨rfl, hsz, hP, hK, hD0, hN, hE, hO, hT, hG⟩ := hv
  have hx := B.exec
  have hb := B.bytes
  have hr := B.returns
  have hts := atoms_spec (ws := wz_c_SB_init) B.pre
  have hown : s.vm.findClass RJ4 = some m.cls := findClass_of_methodNamed B.named
  have hlocks := B.notSynchronized
  have hin : meth.name = "<init>" := (name_of_methodNamed B.named B.method).1
  subst hsz
  have hD := hD0.self (sz := s.heap.size)
  generalize hAe : va_A [(h0, .inr (1, [.null, .int 0, .int 0, .int 0]))] s.heap.size = A at hD hE hT hG ⊢
  have hA : ∀ q : Nat, s.heap.size ≤ q → A q := fun q h => by rw [← hAe]; exact Or.inr h
  have hS : va_S A s.heap s.heap [] := va_S.rf
  have hl := lv_entry ([.ref h0]) (n := 1) (Nat.le_of_ble_eq_true rfl)
  rw [lg_entry_eq]
  generalize (lg_sl ([.ref h0]) ++ List.replicate (1 - (lg_sl ([.ref h0])).length) Slot.unset).toArray = ls at hl ⊢
  have hl : lv_has ls 1 [(0, .ref h0)] := hl
  refine lv_aload_n hx hb dJ4_init_da8c8_0 rfl (lv_at hl 0 rfl) ?_
  refine lv_bipush (v := 16) hx hb dJ4_init_da8c8_1 (by decide) ?_
  have hPc := hP.sub (ws' := [(h0, .inr (1, [.null, .int 0, .int 0, .int 0]))]) [0] rfl
  have hDc := hD.sub (ws' := [(h0, .inr (1, [.null, .int 0, .int 0, .int 0]))]) [0] (by decide) rfl
  have hFc := va_free (wc := [(h0, .inr (1, [.null, .int 0, .int 0, .int 0]))]) hD hS hA [0] rfl
  refine va_callv (va_runI (As := [.int 16]) (rest := []) ⟨hx, hb, hml, hown, hts⟩ (c_ASB_init l D y s.heap.size h0) (cwI 1 hts gz_c_SB_init_c_ASB_init rfl rfl rfl (hts (.initialized RJ5) (by decide +kernel)) (hts (.methodLink RJ4 1 yJ5_init_d00df) (by decide +kernel)) (hts (.instanceMethod yJ5_init_d00df) (by decide +kernel)) rfl (by decide +kernel) ⟨(Nat.le_of_ble_eq_true rfl), (Nat.le_of_ble_eq_true rfl)⟩) (zB.preS hPc hDc hK hN hE hO hT hG hS hFc (fun _ h => nomatch h) (List.forall_mem_cons.mpr ⟨List.mem_of_getElem? (i := 0) rfl, (fun _ h => nomatch h)⟩) (fun _ h => nomatch h) (fun _ h => nomatch h)) rfl rfl hl.1 rfl (lv_room (Nat.le_of_ble_eq_true rfl)) dJ4_init_da8c8_3 ⟨(Nat.le_of_ble_eq_true rfl), (Nat.le_of_ble_eq_true rfl)⟩) hS (fun q _ h => hFc q h) hFc (fun u t H1 locs ht hvm hw hB hz1 hk1 hS => ?_)
  obtain ⟨q1, hP1, hD1⟩ := hB
  rw [ht] at hP1
  obtain ⟨hP, hD⟩ := va_join (wr := []) (w1 := [(h0, .inr (1, [.ref q1, .int 0, .int 0, .int 0])), (q1, .inl (y 0, 16, .inl (fun _ => 0)))]) hP hD [0] [] rfl rfl (by decide) (by decide) hk1 hFc hP1 hD1
  generalize H1 = H at hP hS ⊢
  have hP : va_P D vwCl [(h0, .inr (1, [.ref q1, .int 0, .int 0, .int 0])), (q1, .inl (y 0, 16, .inl (fun _ => 0)))] H := hP
  have hD : va_D A [(h0, .inr (1, [.ref q1, .int 0, .int 0, .int 0])), (q1, .inl (y 0, 16, .inl (fun _ => 0)))] := hD
  have hP9 := hP.sub (ws' := [(h0, .inr (1, [.ref q1, .int 0, .int 0, .int 0])), (q1, .inl (y 0, 16, .inl (fun _ => 0)))]) [0, 1] rfl
  have hD9 := hD.sub (ws' := [(h0, .inr (1, [.ref q1, .int 0, .int 0, .int 0])), (q1, .inl (y 0, 16, .inl (fun _ => 0)))]) [0, 1] (by decide) rfl
  refine W.widen (k := 1) (n := 16) (Nat.le_of_ble_eq_true rfl) (Nat.le_of_ble_eq_true rfl) ?_
  exact W.vret hx hb hr (fun t ht hW => ⟨⟨(), rfl, trivial, q1, by rw [ht]; exact hP9, hD9⟩, hS.F ht⟩) hS.2.2 dJ4_init_da8c8_6
def wz_c_inflIf : List Cond := .code yJ5_inflateIfNeededFor_a7421 cJ5_inflateIfNeededFor_a7421 2 none :: ([.fieldLink RJ5 18 "java/lang/String" "COMPACT_STRINGS" "Z", .fieldLink RJ5 22 "java/lang/AbstractStringBuilder" "coder" "B", .methodLink RJ5 40 yJ0_coder_7d493, .instanceMethod yJ0_coder_7d493, .selects RJ0 yJ0_coder_7d493 yJ0_coder_7d493, .initialized RJ0] ++ (wsJ40 ++ (wz_c_coder_o ++ ([]))))
set_option maxRecDepth 100000 in
theorem gz_c_inflIf_c_coder_o : GoodIn wz_c_inflIf wz_c_coder_o := goodIn_sub (fun w h => List.mem_cons_of_mem _ (List.mem_append_right _ (List.mem_append_right _ (List.mem_append_left _ h)))) (by decide +kernel)
set_option maxRecDepth 100000 in
theorem gv_c_inflIf_c_coder_o_40 : GoodIn wz_c_inflIf (wsV RJ5 40 RJ0 yJ0_coder_7d493 wz_c_coder_o) := goodIn_app (goodIn_of _ (by decide +kernel)) gz_c_inflIf_c_coder_o
set_option maxHeartbeats 4000000 in
set_option maxRecDepth 100000 in
theorem c_inflIf (l : Launch) (D : va_G) (y : Nat → ClassId) (sz : Nat) (h0 : Nat) (w1 : Value) (w2 : Value) (w3 : Value) (sx : Nat) (tx : Nat) (nx : Nat) (f : Nat → Int32) : Met l yJ5_inflateIfNeededFor_a7421 wz_c_inflIf ({ frames := 1, cells := 0, slots := 0, locals := 20 }) (va_Pc [.ref h0, .ref sx] (zB D y [(h0, .inr (1, [w1, .int 0, w2, w3]))] sz [] [("java/lang/String", "COMPACT_STRINGS", "Z", .int 1)] [] [.inr (.inl (sx, tx, nx, f))])) (va_Qv (fun _ : Unit => True) (fun _ t => va_P D vwCl [(h0, .inr (1, [w1, .int 0, w2, w3]))] t.heap ∧ va_D (va_A [(h0, .inr (1, [w1, .int 0, w2, w3]))] sz) [(h0, .inr (1, [w1, .int 0, w2, w3]))]) (va_A [(h0, .inr (1, [w1, .int 0, w2, w3]))] sz)) 0 0 (va_A [(h0, .inr (1, [w1, .int 0, w2, w3]))] sz) := by
  refine Met.ofW (cc := cJ5_inflateIfNeededFor_a7421) (maxL := 2) (ret := none) (by decide) rfl ?_
  intro p e s m args below meth c s₁ B hml hv
  obtain ⟨rfl, hsz, hP, hK, hD0, hN, hE, hO, hT, hG⟩ := hv
  have hx := B.exec
  have hb := B.bytes
  have hr := B.returns
  have hts := atoms_spec (ws := wz_c_inflIf) B.pre
  have hown : s.vm.findClass RJ5 = some m.cls := findClass_of_methodNamed B.named
  have hlocks := B.notSynchronized
  subst hsz
  have hD := hD0.self (sz := s.heap.size)
  generalize hAe : va_A [(h0, .inr (1, [w1, .int 0, w2, w3]))] s.heap.size = A at hD hE hT hG ⊢
  have hA : ∀ q : Nat, s.heap.size ≤ q → A q := fun q h => by rw [← hAe]; exact Or.inr h
  have hS : va_S A s.heap s.heap [] := va_S.rf
  have hl := lv_entry ([.ref h0, .ref sx]) (n := 2) (Nat.le_of_ble_eq_true rfl)
  rw [lg_entry_eq]
  generalize (lg_sl ([.ref h0, .ref sx]) ++ List.replicate (2 - (lg_sl ([.ref h0, .ref sx])).length) Slot.unset).toArray = ls at hl ⊢
  have hl : lv_has ls 2 [(0, .ref h0), (1, .ref sx)] := hl
  refine va_gets hx hb (hE ("java/lang/String", "COMPACT_STRINGS", "Z", .int 1) (List.mem_of_getElem? (i := 0) rfl)) hS hown (hts (.fieldLink RJ5 18 "java/lang/String" "COMPACT_STRINGS" "Z") (by decide +kernel)) (fun _ h9 => h9) dJ5_inflateIfNeededFor_a7421_0 ?_
  refine lv_if_eq (tgt := 21) hx hb dJ5_inflateIfNeededFor_a7421_3 (by decide) (fun c9 => absurd c9 (by decide)) (fun _ => ?_)
  refine lv_aload_n hx hb dJ5_inflateIfNeededFor_a7421_6 rfl (lv_at hl 0 rfl) ?_
  refine va_get (D := D) (ci := 1) (v := .int 0) (C := RJ4) (T := TJ4) (N := 4) hx hb hts (by decide +kernel) hown hK hP 0 rfl rfl 1 (by decide) (hts (.fieldLink RJ5 22 "java/lang/AbstractStringBuilder" "coder" "B") (by decide +kernel)) (fun _ h9 => h9) rfl dJ5_inflateIfNeededFor_a7421_7 ?_
  refine lv_aload_n hx hb dJ5_inflateIfNeededFor_a7421_10 rfl (lv_at hl 1 rfl) ?_
  have hPc := hP.sub (ws' := []) [] rfl
  have hDc := hD.sub (ws' := []) [] (by decide) rfl
  have hFc := va_free (wc := []) hD hS hA [] rfl
  refine va_calli (va_runV (As := []) (rest := [.int 0]) ⟨hx, hb, hml, hown, hts⟩ (c_coder_o l D y s.heap.size sx tx nx f) (cwV 0 hts gv_c_inflIf_c_coder_o_40 rfl rfl rfl (by decide +kernel) ⟨(Nat.le_of_ble_eq_true rfl), (Nat.le_of_ble_eq_true rfl)⟩) (zB.preV hPc hDc hK hN hE hO hT hG hS hFc (fun _ h => nomatch h) (List.forall_mem_cons.mpr ⟨List.mem_of_getElem? (i := 0) rfl, (fun _ h => nomatch h)⟩) (fun _ h => nomatch h) (List.forall_mem_cons.mpr ⟨List.mem_of_getElem? (i := 0) rfl, (fun _ h => nomatch h)⟩) (zStr.recv (show zStr sx tx nx f A s s.heap from (hG (.inr (.inl (sx, tx, nx, f))) (List.mem_of_getElem? (i := 0) rfl))) hS)) rfl rfl hl.1 rfl (lv_room (Nat.le_of_ble_eq_true rfl)) dJ5_inflateIfNeededFor_a7421_11 ⟨(Nat.le_of_ble_eq_true rfl), (Nat.le_of_ble_eq_true rfl)⟩) hS (fun q _ h => hFc q h) hFc (fun r1 u t H1 locs ht hvm hw hB hz1 hk1 hS => ?_)
  obtain ⟨hP1, hD1⟩ := hB
  rw [ht] at hP1
  obtain ⟨hP, hD⟩ := va_join (wr := [(h0, .inr (1, [w1, .int 0, w2, w3]))]) (w1 := []) hP hD [] [0] rfl rfl (by decide) (by decide) hk1 hFc hP1 hD1
  generalize H1 = H at hP hS ⊢
  have hP : va_P D vwCl [(h0, .inr (1, [w1, .int 0, w2, w3]))] H := hP
  have hD : va_D A [(h0, .inr (1, [w1, .int 0, w2, w3]))] := hD
  have hw : r1 = 0 := hw
  subst hw
  refine lv_icmp_eq (tgt := 21) hx hb dJ5_inflateIfNeededFor_a7421_14 (by decide) (fun _ => ?_) (fun c9 => absurd (by decide) c9)
  have hP9 := hP.sub (ws' := [(h0, .inr (1, [w1, .int 0, w2, w3]))]) [0] rfl
  have hD9 := hD.sub (ws' := [(h0, .inr (1, [w1, .int 0, w2, w3]))]) [0] (by decide) rfl
  refine W.widen (k := 0) (n := 0) (Nat.le_of_ble_eq_true rfl) (Nat.le_of_ble_eq_true rfl) ?_
  exact W.vret hx hb hr (fun t ht hW => ⟨⟨(), rfl, trivial, by rw [ht]; exact hP9, hD9⟩, hS.F ht⟩) hS.2.2 dJ5_inflateIfNeededFor_a7421_21
def wz_c_getValue : List Cond := .code yJ5_getValue_6d5f1 cJ5_getValue_6d5f1 1 (some (.array .byte)) :: ([.fieldLink RJ5 15 "java/lang/AbstractStringBuilder" "value" "[B"] ++ (wsJ40 ++ ([])))
set_option maxHeartbeats 4000000 in
set_option maxRecDepth 100000 in
theorem c_getValue (l : Launch) (D : va_G) (y : Nat → ClassId) (sz : Nat) (h0 : Nat) (bv : Nat) (w1 : Value) (w2 : Value) (w3 : Value) : Met l yJ5_getValue_6d5f1 wz_c_getValue ({ frames := 0, cells := 0, slots := 0, locals := 0 }) (va_Pc [.ref h0] (zB D y [(h0, .inr (1, [.ref bv, w1, w2, w3]))] sz [] [] [] [])) (va_Qq (fun (r : Option Nat) (_ : Unit) => r = some bv) (fun _ t => va_P D vwCl [(h0, .inr (1, [.ref bv, w1, w2, w3]))] t.heap ∧ va_D (va_A [(h0, .inr (1, [.ref bv, w1, w2, w3]))] sz) [(h0, .inr (1, [.ref bv, w1, w2, w3]))]) (va_A [(h0, .inr (1, [.ref bv, w1, w2, w3]))] sz)) 0 0 (va_A [(h0, .inr (1, [.ref bv, w1, w2, w3]))] sz) := by
  refine Met.ofW (cc := cJ5_getValue_6d5f1) (maxL := 1) (ret := (some (.array .byte))) (by decide) rfl ?_
  intro p e s m args below meth c s₁ B hml hv
  obtain ⟨rfl, hsz, hP, hK, hD0, hN, hE, hO, hT, hG⟩ := hv
  have hx := B.exec
  have hb := B.bytes
  have hr := B.returns
  have hts := atoms_spec (ws := wz_c_getValue) B.pre
  have hown : s.vm.findClass RJ5 = some m.cls := findClass_of_methodNamed B.named
  have hlocks := B.notSynchronized
  subst hsz
  have hD := hD0.self (sz := s.heap.size)
  generalize hAe : va_A [(h0, .inr (1, [.ref bv, w1, w2, w3]))] s.heap.size = A at hD hE hT hG ⊢
  have hA : ∀ q : Nat, s.heap.size ≤ q → A q := fun q h => by rw [← hAe]; exact Or.inr h
  have hS : va_S A s.heap s.heap [] := va_S.rf
  have hl := lv_entry ([.ref h0]) (n := 1) (Nat.le_of_ble_eq_true rfl)
  rw [lg_entry_eq]
  generalize (lg_sl ([.ref h0]) ++ List.replicate (1 - (lg_sl ([.ref h0])).length) Slot.unset).toArray = ls at hl ⊢
  have hl : lv_has ls 1 [(0, .ref h0)] := hl
  refine lv_aload_n hx hb dJ5_getValue_6d5f1_0 rfl (lv_at hl 0 rfl) ?_
  refine va_get (D := D) (ci := 1) (v := .ref bv) (C := RJ4) (T := TJ4) (N := 4) hx hb hts (by decide +kernel) hown hK hP 0 rfl rfl 0 (by decide) (hts (.fieldLink RJ5 15 "java/lang/AbstractStringBuilder" "value" "[B") (by decide +kernel)) (fun _ h9 => h9) rfl dJ5_getValue_6d5f1_1 ?_
  have hP9 := hP.sub (ws' := [(h0, .inr (1, [.ref bv, w1, w2, w3]))]) [0] rfl
  have hD9 := hD.sub (ws' := [(h0, .inr (1, [.ref bv, w1, w2, w3]))]) [0] (by decide) rfl
  refine W.widen (k := 0) (n := 0) (Nat.le_of_ble_eq_true rfl) (Nat.le_of_ble_eq_true rfl) ?_
  exact W.aret (v := .ref bv) hx hb hr (Or.inr ⟨_, rfl⟩) (Or.inr ⟨_, rfl⟩) (fun t ht hW => ⟨⟨(some bv), (), rfl, rfl, by rw [ht]; exact hP9, hD9⟩, hS.F ht⟩) hS.2.2 dJ5_getValue_6d5f1_4
def wz_c_ASB_isLatin1 : List Cond := .code yJ5_isLatin1_aae02 cJ5_isLatin1_aae02 1 (some .boolean) :: ([.fieldLink RJ5 18 "java/lang/String" "COMPACT_STRINGS" "Z", .fieldLink RJ5 22 "java/lang/AbstractStringBuilder" "coder" "B"] ++ (wsJ40 ++ ([])))
set_option maxHeartbeats 4000000 in
set_option maxRecDepth 100000 in
theorem c_ASB_isLatin1 (l : Launch) (D : va_G) (y : Nat → ClassId) (sz : Nat) (h0 : Nat) (w1 : Value) (w2 : Value) (w3 : Value) : Met l yJ5_isLatin1_aae02 wz_c_ASB_isLatin1 ({ frames := 0, cells := 0, slots := 0, locals := 0 }) (va_Pc [.ref h0] (zB D y [(h0, .inr (1, [w1, .int 0, w2, w3]))] sz [] [("java/lang/String", "COMPACT_STRINGS", "Z", .int 1)] [] [])) (va_Qi (fun (r : Int32) (_ : Unit) => r = 1) (fun _ t => va_P D vwCl [(h0, .inr (1, [w1, .int 0, w2, w3]))] t.heap ∧ va_D (va_A [(h0, .inr (1, [w1, .int 0, w2, w3]))] sz) [(h0, .inr (1, [w1, .int 0, w2, w3]))]) (va_A [(h0, .inr (1, [w1, .int 0, w2, w3]))] sz)) 0 0 (va_A [(h0, .inr (1, [w1, .int 0, w2, w3]))] sz) := by
  refine Met.ofW (cc := cJ5_isLatin1_aae02) (maxL := 1) (ret := (some .boolean)) (by decide) rfl ?_
  intro p e s m args below meth c s₁ B hml hv
  obtain ⟨rfl, hsz, hP, hK, hD0, hN, hE, hO, hT, hG⟩ := hv
  have hx := B.exec
  have hb := B.bytes
  have hr := B.returns
  have hts := atoms_spec (ws := wz_c_ASB_isLatin1) B.pre
  have hown : s.vm.findClass RJ5 = some m.cls := findClass_of_methodNamed B.named
  have hlocks := B.notSynchronized
  subst hsz
  have hD := hD0.self (sz := s.heap.size)
  generalize hAe : va_A [(h0, .inr (1, [w1, .int 0, w2, w3]))] s.heap.size = A at hD hE hT hG ⊢
  have hA : ∀ q : Nat, s.heap.size ≤ q → A q := fun q h => by rw [← hAe]; exact Or.inr h
  have hS : va_S A s.heap s.heap [] := va_S.rf
  have hl := lv_entry ([.ref h0]) (n := 1) (Nat.le_of_ble_eq_true rfl)
  rw [lg_entry_eq]
  generalize (lg_sl ([.ref h0]) ++ List.replicate (1 - (lg_sl ([.ref h0])).length) Slot.unset).toArray = ls at hl ⊢
  have hl : lv_has ls 1 [(0, .ref h0)] := hl
  refine va_gets hx hb (hE ("java/lang/String", "COMPACT_STRINGS", "Z", .int 1) (List.mem_of_getElem? (i := 0) rfl)) hS hown (hts (.fieldLink RJ5 18 "java/lang/String" "COMPACT_STRINGS" "Z") (by decide +kernel)) (fun _ h9 => h9) dJ5_isLatin1_aae02_0 ?_
  refine lv_if_eq (tgt := 17) hx hb dJ5_isLatin1_aae02_3 (by decide) (fun c9 => absurd c9 (by decide)) (fun _ => ?_)
  refine lv_aload_n hx hb dJ5_isLatin1_aae02_6 rfl (lv_at hl 0 rfl) ?_
  refine va_get (D := D) (ci := 1) (v := .int 0) (C := RJ4) (T := TJ4) (N := 4) hx hb hts (by decide +kernel) hown hK hP 0 rfl rfl 1 (by decide) (hts (.fieldLink RJ5 22 "java/lang/AbstractStringBuilder" "coder" "B") (by decide +kernel)) (fun _ h9 => h9) rfl dJ5_isLatin1_aae02_7 ?_
  refine lv_if_ne (tgt := 17) hx hb dJ5_isLatin1_aae02_10 (by decide) (fun c9 => absurd (by decide) c9) (fun _ => ?_)
  refine lv_iconst (v := 1) hx hb dJ5_isLatin1_aae02_13 (by decide) ?_
  refine lv_goto (tgt := 18) hx hb dJ5_isLatin1_aae02_14 (by decide) ?_
  have hP9 := hP.sub (ws' := [(h0, .inr (1, [w1, .int 0, w2, w3]))]) [0] rfl
  have hD9 := hD.sub (ws' := [(h0, .inr (1, [w1, .int 0, w2, w3]))]) [0] (by decide) rfl
  refine W.widen (k := 0) (n := 0) (Nat.le_of_ble_eq_true rfl) (Nat.le_of_ble_eq_true rfl) ?_
  exact W.zret (v := 1) hx hb hr (by decide) (fun t ht hW => ⟨⟨1, (), rfl, rfl, by rw [ht]; exact hP9, hD9⟩, hS.F ht⟩) hS.2.2 dJ5_isLatin1_aae02_18
def wz_c_ASB_length : List Cond := .code yJ5_length_8abf5 cJ5_length_8abf5 1 (some .int) :: ([.fieldLink RJ5 79 "java/lang/AbstractStringBuilder" "count" "I"] ++ (wsJ40 ++ ([])))
set_option maxHeartbeats 4000000 in
set_option maxRecDepth 100000 in
theorem c_ASB_length (l : Launch) (D : va_G) (y : Nat → ClassId) (sz : Nat) (h0 : Nat) (w1 : Value) (w2 : Value) (w3 : Value) (n : Int32) : Met l yJ5_length_8abf5 wz_c_ASB_length ({ frames := 0, cells := 0, slots := 0, locals := 0 }) (va_Pc [.ref h0] (zB D y [(h0, .inr (1, [w1, w2, w3, .int n]))] sz [] [] [] [])) (va_Qi (fun (r : Int32) (_ : Unit) => r = n) (fun _ t => va_P D vwCl [(h0, .inr (1, [w1, w2, w3, .int n]))] t.heap ∧ va_D (va_A [(h0, .inr (1, [w1, w2, w3, .int n]))] sz) [(h0, .inr (1, [w1, w2, w3, .int n]))]) (va_A [(h0, .inr (1, [w1, w2, w3, .int n]))] sz)) 0 0 (va_A [(h0, .inr (1, [w1, w2, w3, .int n]))] sz) := by
  refine Met.ofW (cc := cJ5_length_8abf5) (maxL := 1) (ret := (some .int)) (by decide) rfl ?_
  intro p e s m args below meth c s₁ B hml hv
  obtain ⟨rfl, hsz, hP, hK, hD0, hN, hE, hO, hT, hG⟩ := hv
  have hx := B.exec
  have hb := B.bytes
  have hr := B.returns
  have hts := atoms_spec (ws := wz_c_ASB_length) B.pre
  have hown : s.vm.findClass RJ5 = some m.cls := findClass_of_methodNamed B.named
  have hlocks := B.notSynchronized
  subst hsz
  have hD := hD0.self (sz := s.heap.size)
  generalize hAe : va_A [(h0, .inr (1, [w1, w2, w3, .int n]))] s.heap.size = A at hD hE hT hG ⊢
  have hA : ∀ q : Nat, s.heap.size ≤ q → A q := fun q h => by rw [← hAe]; exact Or.inr h
  have hS : va_S A s.heap s.heap [] := va_S.rf
  have hl := lv_entry ([.ref h0]) (n := 1) (Nat.le_of_ble_eq_true rfl)
  rw [lg_entry_eq]
  generalize (lg_sl ([.ref h0]) ++ List.replicate (1 - (lg_sl ([.ref h0])).length) Slot.unset).toArray = ls at hl ⊢
  have hl : lv_has ls 1 [(0, .ref h0)] := hl
  refine lv_aload_n hx hb dJ5_length_8abf5_0 rfl (lv_at hl 0 rfl) ?_
  refine va_get (D := D) (ci := 1) (v := .int n) (C := RJ4) (T := TJ4) (N := 4) hx hb hts (by decide +kernel) hown hK hP 0 rfl rfl 3 (by decide) (hts (.fieldLink RJ5 79 "java/lang/AbstractStringBuilder" "count" "I") (by decide +kernel)) (fun _ h9 => h9) rfl dJ5_length_8abf5_1 ?_
  have hP9 := hP.sub (ws' := [(h0, .inr (1, [w1, w2, w3, .int n]))]) [0] rfl
  have hD9 := hD.sub (ws' := [(h0, .inr (1, [w1, w2, w3, .int n]))]) [0] (by decide) rfl
  refine W.widen (k := 0) (n := 0) (Nat.le_of_ble_eq_true rfl) (Nat.le_of_ble_eq_true rfl) ?_
  exact W.iret (v := n) hx hb hr (fun t ht hW => ⟨⟨n, (), rfl, rfl, by rw [ht]; exact hP9, hD9⟩, hS.F ht⟩) hS.2.2 dJ5_length_8abf5_4
def wz_c_SB_length : List Cond := .code yJ4_length_8abf5 cJ4_length_8abf5 1 (some .int) :: ([.methodLink RJ4 343 yJ5_length_8abf5, .sameMethod RJ5 RJ5 "length" "()I", .superclass RJ4 RJ5, .instanceMethod yJ5_length_8abf5, .initialized RJ5] ++ (wz_c_ASB_length ++ ([])))
set_option maxRecDepth 100000 in
theorem gz_c_SB_length_c_ASB_length : GoodIn wz_c_SB_length wz_c_ASB_length := goodIn_sub (fun w h => List.mem_cons_of_mem _ (List.mem_append_right _ (List.mem_append_left _ h))) (by decide +kernel)
set_option maxRecDepth 100000 in
theorem gv_c_SB_length_c_ASB_length_343 : GoodIn wz_c_SB_length (va_wsSU RJ4 343 yJ5_length_8abf5 wz_c_ASB_length) := goodIn_app (goodIn_of _ (by decide +kernel)) gz_c_SB_length_c_ASB_length
set_option maxHeartbeats 4000000 in
set_option maxRecDepth 100000 in
theorem c_SB_length (l : Launch) (D : va_G) (y : Nat → ClassId) (sz : Nat) (h0 : Nat) (w1 : Value) (w2 : Value) (w3 : Value) (n : Int32) : Met l yJ4_length_8abf5 wz_c_SB_length ({ frames := 1, cells := 0, slots := 0, locals := 20 }) (va_Pc [.ref h0] (zB D y [(h0, .inr (1, [w1, w2, w3, .int n]))] sz [] [] [] [])) (va_Qi (fun (r : Int32) (_ : Unit) => r = n) (fun _ t => va_P D vwCl [(h0, .inr (1, [w1, w2, w3, .int n]))] t.heap ∧ va_D (va_A [(h0, .inr (1, [w1, w2, w3, .int n]))] sz) [(h0, .inr (1, [w1, w2, w3, .int n]))]) (va_A [(h0, .inr (1, [w1, w2, w3, .int n]))] sz)) 0 0 (va_A [(h0, .inr (1, [w1, w2, w3, .int n]))] sz) := by
  refine Met.ofW (cc := cJ4_length_8abf5) (maxL := 1) (ret := (some .int)) (by decide) rfl ?_
  intro p e s m args below meth c s₁ B hml hv
  obtain ⟨rfl, hsz, hP, hK, hD0, hN, hE, hO, hT, hG⟩ := hv
  have hx := B.exec
  have hb := B.bytes
  have hr := B.returns
  have hts := atoms_spec (ws := wz_c_SB_length) B.pre
  have hown : s.vm.findClass RJ4 = some m.cls := findClass_of_methodNamed B.named
  have hlocks := B.notSynchronized
  subst hsz
  have hD := hD0.self (sz := s.heap.size)
  generalize hAe : va_A [(h0, .inr (1, [w1, w2, w3, .int n]))] s.heap.size = A at hD hE hT hG ⊢
  have hA : ∀ q : Nat, s.heap.size ≤ q → A q := fun q h => by rw [← hAe]; exact Or.inr h
  have hS : va_S A s.heap s.heap [] := va_S.rf
  have hl := lv_entry ([.ref h0]) (n := 1) (Nat.le_of_ble_eq_true rfl)
  rw [lg_entry_eq]
  generalize (lg_sl ([.ref h0]) ++ List.replicate (1 - (lg_sl ([.ref h0])).length) Slot.unset).toArray = ls at hl ⊢
  have hl : lv_has ls 1 [(0, .ref h0)] := hl
  refine lv_aload_n hx hb dJ4_length_8abf5_0 rfl (lv_at hl 0 rfl) ?_
  have hPc := hP.sub (ws' := [(h0, .inr (1, [w1, w2, w3, .int n]))]) [0] rfl
  have hDc := hD.sub (ws' := [(h0, .inr (1, [w1, w2, w3, .int n]))]) [0] (by decide) rfl
  have hFc := va_free (wc := [(h0, .inr (1, [w1, w2, w3, .int n]))]) hD hS hA [0] rfl
  refine va_calli (va_runSU (hK.1 1 _ rfl).2 (As := []) (rest := []) ⟨hx, hb, hml, hown, hts⟩ (c_ASB_length l D y s.heap.size h0 w1 w2 w3 n) (va_cwSU 0 hts gv_c_SB_length_c_ASB_length_343 rfl rfl rfl (by decide +kernel) ⟨(Nat.le_of_ble_eq_true rfl), (Nat.le_of_ble_eq_true rfl)⟩) (zB.preV hPc hDc hK hN hE hO hT hG hS hFc (fun _ h => nomatch h) (fun _ h => nomatch h) (fun _ h => nomatch h) (fun _ h => nomatch h) (va_recv hK hPc (ci := 1) (q0 := 0) rfl rfl)) rfl rfl hl.1 rfl (lv_room (Nat.le_of_ble_eq_true rfl)) dJ4_length_8abf5_1 ⟨(Nat.le_of_ble_eq_true rfl), (Nat.le_of_ble_eq_true rfl)⟩) hS (fun q _ h => hFc q h) hFc (fun r1 u t H1 locs ht hvm hw hB hz1 hk1 hS => ?_)
  obtain ⟨hP1, hD1⟩ := hB
  rw [ht] at hP1
  obtain ⟨hP, hD⟩ := va_join (wr := []) (w1 := [(h0, .inr (1, [w1, w2, w3, .int n]))]) hP hD [0] [] rfl rfl (by decide) (by decide) hk1 hFc hP1 hD1
  generalize H1 = H at hP hS ⊢
  have hP : va_P D vwCl [(h0, .inr (1, [w1, w2, w3, .int n]))] H := hP
  have hD : va_D A [(h0, .inr (1, [w1, w2, w3, .int n]))] := hD
  have hw : n = r1 := hw.symm
  subst hw
  have hP9 := hP.sub (ws' := [(h0, .inr (1, [w1, w2, w3, .int n]))]) [0] rfl
  have hD9 := hD.sub (ws' := [(h0, .inr (1, [w1, w2, w3, .int n]))]) [0] (by decide) rfl
  refine W.widen (k := 0) (n := 0) (Nat.le_of_ble_eq_true rfl) (Nat.le_of_ble_eq_true rfl) ?_
  exact W.iret (v := n) hx hb hr (fun t ht hW => ⟨⟨n, (), rfl, rfl, by rw [ht]; exact hP9, hD9⟩, hS.F ht⟩) hS.2.2 dJ4_length_8abf5_4

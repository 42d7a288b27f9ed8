def wz_c_M_add_1 : List Cond := .code yX12_add cX12_add 5 (some .boolean) :: ([.fieldLink RX12 78 "SignetRingModel" "thrown" "I", .fieldLink RX12 84 "SignetRingModel" "taped" "I", .fieldLink RX12 7 "SignetRingModel" "tape" "[I", .constantLong RX12 87 255] ++ (wsX120 ++ ([])))
set_option maxHeartbeats 4000000 in
set_option maxRecDepth 100000 in
theorem c_M_add_1 (l : Launch) (D : va_G) (y : Nat → ClassId) (sz : Nat) (h0 : Nat) (tp : Nat) (w1 : Value) (w2 : Value) (w3 : Value) (w4 : Value) (w5 : Value) (w6 : Value) (w7 : Value) (w8 : Value) (w9 : Value) (w10 : Value) (w11 : Value) (w12 : Value) (w13 : Value) (w14 : Value) (w15 : Value) (w16 : Value) (w17 : Value) (w18 : Value) (w19 : Value) (w20 : Value) (w21 : Value) (w22 : Value) (w23 : Value) (w24 : Value) (w25 : Value) (w26 : Value) (w27 : Value) (w28 : Value) (w29 : Value) (w30 : Value) (w31 : Value) (w32 : Value) (w33 : Value) (w34 : Value) (w35 : Value) (w36 : Value) (w37 : Value) (w38 : Value) (w39 : Value) (w40 : Value) (w41 : Value) (w42 : Value) (w43 : Value) (w44 : Value) (w45 : Value) (w46 : Value) (w47 : Value) (w48 : Value) (w49 : Value) (w50 : Value) (w51 : Value) (w52 : Value) (w53 : Value) (w54 : Value) (w55 : Value) (w56 : Value) (w57 : Value) (w58 : Value) (w59 : Value) (w60 : Value) (w61 : Value) (w62 : Value) (f : Nat → Int32) (wd : Int64) : Met l yX12_add wz_c_M_add_1 ({ frames := 0, cells := 0, slots := 0, locals := 0 }) (va_Pc [.ref h0, .long wd, .int 1] (zB D y [(h0, .inr (16, [w1, .int 0, .ref tp, w2, w3, w4, w5, w6, w7, w8, w9, w10, w11, w12, w13, w14, w15, w16, w17, w18, w19, w20, w21, w22, w23, w24, w25, w26, w27, w28, w29, w30, w31, w32, w33, w34, w35, w36, w37, w38, w39, w40, w41, w42, w43, w44, w45, w46, w47, w48, w49, w50, w51, w52, w53, w54, w55, w56, w57, w58, w59, w60, w61, w62])), (tp, .inl (y 1, 4096, .inl f))] sz [] [] [] [])) (va_Qi (fun (r : Int32) (_ : Unit) => r = 1) (fun _ t => ∃ fz0 : Nat → Int32, va_P D vwCl [(h0, .inr (16, [.int 0, .int 1, .ref tp, w2, w3, w4, w5, w6, w7, w8, w9, w10, w11, w12, w13, w14, w15, w16, w17, w18, w19, w20, w21, w22, w23, w24, w25, w26, w27, w28, w29, w30, w31, w32, w33, w34, w35, w36, w37, w38, w39, w40, w41, w42, w43, w44, w45, w46, w47, w48, w49, w50, w51, w52, w53, w54, w55, w56, w57, w58, w59, w60, w61, w62])), (tp, .inl (y 1, 4096, .inl fz0))] t.heap ∧ va_D (va_A [(h0, .inr (16, [w1, .int 0, .ref tp, w2, w3, w4, w5, w6, w7, w8, w9, w10, w11, w12, w13, w14, w15, w16, w17, w18, w19, w20, w21, w22, w23, w24, w25, w26, w27, w28, w29, w30, w31, w32, w33, w34, w35, w36, w37, w38, w39, w40, w41, w42, w43, w44, w45, w46, w47, w48, w49, w50, w51, w52, w53, w54, w55, w56, w57, w58, w59, w60, w61, w62])), (tp, .inl (y 1, 4096, .inl f))] sz) [(h0, .inr (16, [.int 0, .int 1, .ref tp, w2, w3, w4, w5, w6, w7, w8, w9, w10, w11, w12, w13, w14, w15, w16, w17, w18, w19, w20, w21, w22, w23, w24, w25, w26, w27, w28, w29, w30, w31, w32, w33, w34, w35, w36, w37, w38, w39, w40, w41, w42, w43, w44, w45, w46, w47, w48, w49, w50, w51, w52, w53, w54, w55, w56, w57, w58, w59, w60, w61, w62])), (tp, .inl (y 1, 4096, .inl fz0))]) (va_A [(h0, .inr (16, [w1, .int 0, .ref tp, w2, w3, w4, w5, w6, w7, w8, w9, w10, w11, w12, w13, w14, w15, w16, w17, w18, w19, w20, w21, w22, w23, w24, w25, w26, w27, w28, w29, w30, w31, w32, w33, w34, w35, w36, w37, w38, w39, w40, w41, w42, w43, w44, w45, w46, w47, w48, w49, w50, w51, w52, w53, w54, w55, w56, w57, w58, w59, w60, w61, w62])), (tp, .inl (y 1, 4096, .inl f))] sz)) 0 0 (va_A [(h0, .inr (16, [w1, .int 0, .ref tp, w2, w3, w4, w5, w6, w7, w8, w9, w10, w11, w12, w13, w14, w15, w16, w17, w18, w19, w20, w21, w22, w23, w24, w25, w26, w27, w28, w29, w30, w31, w32, w33, w34, w35, w36, w37, w38, w39, w40, w41, w42, w43, w44, w45, w46, w47, w48, w49, w50, w51, w52, w53, w54, w55, w56, w57, w58, w59, w60, w61, w62])), (tp, .inl (y 1, 4096, .inl f))] sz) := by
  refine Met.ofW (cc := cX12_add) (maxL := 5) (ret := (some .boolean)) (by decide) rfl ?_
  intro p e s m args below meth c s₁ B hml hv
  obtain ⟨rfl, hsz, hP, hK, hD0, hN, hE, hO, hT, hG⟩ := hv
  have hx := B.exec
  have hb := B.bytes
  have hr := B.returns
  have hts := atoms_spec (ws := wz_c_M_add_1) B.pre
  have hown : s.vm.findClass RX12 = some m.cls := findClass_of_methodNamed B.named
  have hlocks := B.notSynchronized
  subst hsz
  have hD := hD0.self (sz := s.heap.size)
  generalize hAe : va_A [(h0, .inr (16, [w1, .int 0, .ref tp, w2, w3, w4, w5, w6, w7, w8, w9, w10, w11, w12, w13, w14, w15, w16, w17, w18, w19, w20, w21, w22, w23, w24, w25, w26, w27, w28, w29, w30, w31, w32, w33, w34, w35, w36, w37, w38, w39, w40, w41, w42, w43, w44, w45, w46, w47, w48, w49, w50, w51, w52, w53, w54, w55, w56, w57, w58, w59, w60, w61, w62])), (tp, .inl (y 1, 4096, .inl f))] s.heap.size = A at hD hE hT hG ⊢
  have hA : ∀ q : Nat, s.heap.size ≤ q → A q := fun q h => by rw [← hAe]; exact Or.inr h
  have hS : va_S A s.heap s.heap [] := va_S.rf
  have hl := lv_entry ([.ref h0, .long wd, .int 1]) (n := 5) (Nat.le_of_ble_eq_true rfl)
  rw [lg_entry_eq]
  generalize (lg_sl ([.ref h0, .long wd, .int 1]) ++ List.replicate (5 - (lg_sl ([.ref h0, .long wd, .int 1])).length) Slot.unset).toArray = ls at hl ⊢
  have hl : lv_has ls 5 [(0, .ref h0), (1, .long wd), (3, .int 1)] := hl
  refine lv_aload_n hx hb dX12_add_0 rfl (lv_at hl 0 rfl) ?_
  refine lv_iconst (v := 0) hx hb dX12_add_1 (by decide) ?_
  refine va_put (D := D) (ci := 16) (v := .int 0) (ty := .int) (C := RX12) (T := TX12) (N := 64) hx hb hts (by decide +kernel) tyX12 tyX12_ok nmX12 hown hK hP hD hS 0 rfl rfl 0 (by decide) (hts (.fieldLink RX12 78 "SignetRingModel" "thrown" "I") (by decide +kernel)) (fun _ h9 => h9) rfl (by decide +kernel) rfl rfl (Nat.le_of_ble_eq_true rfl) dX12_add_2 (fun H locs hP hD hS => ?_)
  have hP : va_P D vwCl [(h0, .inr (16, [.int 0, .int 0, .ref tp, w2, w3, w4, w5, w6, w7, w8, w9, w10, w11, w12, w13, w14, w15, w16, w17, w18, w19, w20, w21, w22, w23, w24, w25, w26, w27, w28, w29, w30, w31, w32, w33, w34, w35, w36, w37, w38, w39, w40, w41, w42, w43, w44, w45, w46, w47, w48, w49, w50, w51, w52, w53, w54, w55, w56, w57, w58, w59, w60, w61, w62])), (tp, .inl (y 1, 4096, .inl f))] H := hP
  have hD : va_D A [(h0, .inr (16, [.int 0, .int 0, .ref tp, w2, w3, w4, w5, w6, w7, w8, w9, w10, w11, w12, w13, w14, w15, w16, w17, w18, w19, w20, w21, w22, w23, w24, w25, w26, w27, w28, w29, w30, w31, w32, w33, w34, w35, w36, w37, w38, w39, w40, w41, w42, w43, w44, w45, w46, w47, w48, w49, w50, w51, w52, w53, w54, w55, w56, w57, w58, w59, w60, w61, w62])), (tp, .inl (y 1, 4096, .inl f))] := hD
  refine lv_iload_n hx hb dX12_add_5 rfl (lv_at hl 2 rfl) ?_
  refine lv_iconst (v := 1) hx hb dX12_add_6 (by decide) ?_
  refine lv_icmp_lt (tgt := 28) hx hb dX12_add_7 (by decide) (fun c9 => absurd c9 (by decide)) (fun _ => ?_)
  refine lv_iload_n hx hb dX12_add_10 rfl (lv_at hl 2 rfl) ?_
  refine lv_bipush (v := 8) hx hb dX12_add_11 (by decide) ?_
  refine lv_icmp_gt (tgt := 28) hx hb dX12_add_13 (by decide) (fun c9 => absurd c9 (by decide)) (fun _ => ?_)
  refine lv_aload_n hx hb dX12_add_16 rfl (lv_at hl 0 rfl) ?_
  refine va_get (D := D) (ci := 16) (v := .int 0) (C := RX12) (T := TX12) (N := 64) hx hb hts (by decide +kernel) hown hK hP 0 rfl rfl 1 (by decide) (hts (.fieldLink RX12 84 "SignetRingModel" "taped" "I") (by decide +kernel)) (fun _ h9 => h9) rfl dX12_add_17 ?_
  refine lv_iload_n hx hb dX12_add_20 rfl (lv_at hl 2 rfl) ?_
  refine lv_iadd hx hb dX12_add_21 ?_
  refine lv_topi (fun v1 ev1 => ?_)
  have ev1 : v1 = 1 := ev1.trans (by decide +kernel)
  subst ev1
  refine lv_sipush (v := 4096) hx hb dX12_add_22 (by decide) ?_
  refine lv_icmp_le (tgt := 30) hx hb dX12_add_25 (by decide) (fun _ => ?_) (fun c9 => absurd (by decide) c9)
  refine lv_iconst (v := 0) hx hb dX12_add_30 (by decide) ?_
  refine lv_istore (lv' := [(4, .int 0), (0, .ref h0), (1, .long wd), (3, .int 1)]) hx hb dX12_add_31 hl (by decide) rfl (fun ls hl => ?_)
  refine lv_iload hx hb dX12_add_33 (lv_at hl 0 rfl) ?_
  refine lv_iload_n hx hb dX12_add_35 rfl (lv_at hl 3 rfl) ?_
  refine lv_icmp_ge (tgt := 76) hx hb dX12_add_36 (by decide) (fun c9 => absurd c9 (by decide)) (fun _ => ?_)
  refine lv_aload_n hx hb dX12_add_39 rfl (lv_at hl 1 rfl) ?_
  refine va_get (D := D) (ci := 16) (v := .ref tp) (C := RX12) (T := TX12) (N := 64) hx hb hts (by decide +kernel) hown hK hP 0 rfl rfl 2 (by decide) (hts (.fieldLink RX12 7 "SignetRingModel" "tape" "[I") (by decide +kernel)) (fun _ h9 => h9) rfl dX12_add_40 ?_
  refine lv_aload_n hx hb dX12_add_43 rfl (lv_at hl 1 rfl) ?_
  refine va_get (D := D) (ci := 16) (v := .int 0) (C := RX12) (T := TX12) (N := 64) hx hb hts (by decide +kernel) hown hK hP 0 rfl rfl 1 (by decide) (hts (.fieldLink RX12 84 "SignetRingModel" "taped" "I") (by decide +kernel)) (fun _ h9 => h9) rfl dX12_add_44 ?_
  refine lv_lload_n hx hb dX12_add_47 rfl (lv_at hl 2 rfl) ?_
  refine lv_bipush (v := 8) hx hb dX12_add_48 (by decide) ?_
  refine lv_iload hx hb dX12_add_50 (lv_at hl 0 rfl) ?_
  refine lv_imul hx hb dX12_add_52 ?_
  refine lv_topi (fun v2 ev2 => ?_)
  have ev2 : v2 = 0 := ev2.trans (by decide +kernel)
  subst ev2
  refine lv_lshr hx hb dX12_add_53 rfl ?_
  refine lv_topl (fun v3 _ => ?_)
  refine lv_ldc2 (v := 255) hx hb hown (hts (.constantLong RX12 87 255) (by decide +kernel)) dX12_add_54 ?_
  refine lv_land hx hb dX12_add_57 ?_
  refine lv_topl (fun v4 _ => ?_)
  refine lv_l2i hx hb dX12_add_58 rfl ?_
  refine lv_topi (fun v5 _ => ?_)
  refine va_iast hx hb hK hP hD hS 1 1 rfl rfl (by unfold vp_in; decide) dX12_add_59 (fun H locs hP hD hS => ?_)
  have hP : va_P D vwCl [(h0, .inr (16, [.int 0, .int 0, .ref tp, w2, w3, w4, w5, w6, w7, w8, w9, w10, w11, w12, w13, w14, w15, w16, w17, w18, w19, w20, w21, w22, w23, w24, w25, w26, w27, w28, w29, w30, w31, w32, w33, w34, w35, w36, w37, w38, w39, w40, w41, w42, w43, w44, w45, w46, w47, w48, w49, w50, w51, w52, w53, w54, w55, w56, w57, w58, w59, w60, w61, w62])), (tp, .inl (y 1, 4096, .inl (upd f (0 : Int32).toNatClampNeg v5)))] H := hP
  have hD : va_D A [(h0, .inr (16, [.int 0, .int 0, .ref tp, w2, w3, w4, w5, w6, w7, w8, w9, w10, w11, w12, w13, w14, w15, w16, w17, w18, w19, w20, w21, w22, w23, w24, w25, w26, w27, w28, w29, w30, w31, w32, w33, w34, w35, w36, w37, w38, w39, w40, w41, w42, w43, w44, w45, w46, w47, w48, w49, w50, w51, w52, w53, w54, w55, w56, w57, w58, w59, w60, w61, w62])), (tp, .inl (y 1, 4096, .inl (upd f (0 : Int32).toNatClampNeg v5)))] := hD
  refine lv_aload_n hx hb dX12_add_60 rfl (lv_at hl 1 rfl) ?_
  refine lv_dup hx hb dX12_add_61 rfl ?_
  refine va_get (D := D) (ci := 16) (v := .int 0) (C := RX12) (T := TX12) (N := 64) hx hb hts (by decide +kernel) hown hK hP 0 rfl rfl 1 (by decide) (hts (.fieldLink RX12 84 "SignetRingModel" "taped" "I") (by decide +kernel)) (fun _ h9 => h9) rfl dX12_add_62 ?_
  refine lv_iconst (v := 1) hx hb dX12_add_65 (by decide) ?_
  refine lv_iadd hx hb dX12_add_66 ?_
  refine lv_topi (fun v6 ev6 => ?_)
  have ev6 : v6 = 1 := ev6.trans (by decide +kernel)
  subst ev6
  refine va_put (D := D) (ci := 16) (v := .int 1) (ty := .int) (C := RX12) (T := TX12) (N := 64) hx hb hts (by decide +kernel) tyX12 tyX12_ok nmX12 hown hK hP hD hS 0 rfl rfl 1 (by decide) (hts (.fieldLink RX12 84 "SignetRingModel" "taped" "I") (by decide +kernel)) (fun _ h9 => h9) rfl (by decide +kernel) rfl rfl (Nat.le_of_ble_eq_true rfl) dX12_add_67 (fun H locs hP hD hS => ?_)
  have hP : va_P D vwCl [(h0, .inr (16, [.int 0, .int 1, .ref tp, w2, w3, w4, w5, w6, w7, w8, w9, w10, w11, w12, w13, w14, w15, w16, w17, w18, w19, w20, w21, w22, w23, w24, w25, w26, w27, w28, w29, w30, w31, w32, w33, w34, w35, w36, w37, w38, w39, w40, w41, w42, w43, w44, w45, w46, w47, w48, w49, w50, w51, w52, w53, w54, w55, w56, w57, w58, w59, w60, w61, w62])), (tp, .inl (y 1, 4096, .inl (upd f (0 : Int32).toNatClampNeg v5)))] H := hP
  have hD : va_D A [(h0, .inr (16, [.int 0, .int 1, .ref tp, w2, w3, w4, w5, w6, w7, w8, w9, w10, w11, w12, w13, w14, w15, w16, w17, w18, w19, w20, w21, w22, w23, w24, w25, w26, w27, w28, w29, w30, w31, w32, w33, w34, w35, w36, w37, w38, w39, w40, w41, w42, w43, w44, w45, w46, w47, w48, w49, w50, w51, w52, w53, w54, w55, w56, w57, w58, w59, w60, w61, w62])), (tp, .inl (y 1, 4096, .inl (upd f (0 : Int32).toNatClampNeg v5)))] := hD
  refine lv_iinc (v := 1) (lv' := [(4, .int 1), (0, .ref h0), (1, .long wd), (3, .int 1)]) hx hb dX12_add_70 hl (k := 0) rfl (by decide) (by decide) rfl (fun ls hl => ?_)
  refine lv_goto (tgt := 33) hx hb dX12_add_73 (by decide) ?_
  refine lv_iload hx hb dX12_add_33 (lv_at hl 0 rfl) ?_
  refine lv_iload_n hx hb dX12_add_35 rfl (lv_at hl 3 rfl) ?_
  refine lv_icmp_ge (tgt := 76) hx hb dX12_add_36 (by decide) (fun _ => ?_) (fun c9 => absurd (by decide) c9)
  refine lv_iconst (v := 1) hx hb dX12_add_76 (by decide) ?_
  have hP9 := hP.sub (ws' := [(h0, .inr (16, [.int 0, .int 1, .ref tp, w2, w3, w4, w5, w6, w7, w8, w9, w10, w11, w12, w13, w14, w15, w16, w17, w18, w19, w20, w21, w22, w23, w24, w25, w26, w27, w28, w29, w30, w31, w32, w33, w34, w35, w36, w37, w38, w39, w40, w41, w42, w43, w44, w45, w46, w47, w48, w49, w50, w51, w52, w53, w54, w55, w56, w57, w58, w59, w60, w61, w62])), (tp, .inl (y 1, 4096, .inl (upd f (0 : Int32).toNatClampNeg v5)))]) [0, 1] rfl
  have hD9 := hD.sub (ws' := [(h0, .inr (16, [.int 0, .int 1, .ref tp, w2, w3, w4, w5, w6, w7, w8, w9, w10, w11, w12, w13, w14, w15, w16, w17, w18, w19, w20, w21, w22, w23, w24, w25, w26, w27, w28, w29, w30, w31, w32, w33, w34, w35, w36, w37, w38, w39, w40, w41, w42, w43, w44, w45, w46, w47, w48, w49, w50, w51, w52, w53, w54, w55, w56, w57, w58, w59, w60, w61, w62])), (tp, .inl (y 1, 4096, .inl (upd f (0 : Int32).toNatClampNeg v5)))]) [0, 1] (by decide) rfl
  refine W.widen (k := 0) (n := 0) (Nat.le_of_ble_eq_true rfl) (Nat.le_of_ble_eq_true rfl) ?_
  exact W.zret (v := 1) hx hb hr (by decide) (fun t ht hW => ⟨⟨1, (), rfl, rfl, (upd f (0 : Int32).toNatClampNeg v5), by rw [ht]; exact hP9, hD9⟩, hS.F ht⟩) hS.2.2 dX12_add_77
def wz_c_M_add_2 : List Cond := .code yX12_add cX12_add 5 (some .boolean) :: ([.fieldLink RX12 78 "SignetRingModel" "thrown" "I", .fieldLink RX12 84 "SignetRingModel" "taped" "I", .fieldLink RX12 7 "SignetRingModel" "tape" "[I", .constantLong RX12 87 255] ++ (wsX120 ++ ([])))
set_option maxHeartbeats 4000000 in
set_option maxRecDepth 100000 in
theorem c_M_add_2 (l : Launch) (D : va_G) (y : Nat → ClassId) (sz : Nat) (h0 : Nat) (tp : Nat) (w1 : Value) (w2 : Value) (w3 : Value) (w4 : Value) (w5 : Value) (w6 : Value) (w7 : Value) (w8 : Value) (w9 : Value) (w10 : Value) (w11 : Value) (w12 : Value) (w13 : Value) (w14 : Value) (w15 : Value) (w16 : Value) (w17 : Value) (w18 : Value) (w19 : Value) (w20 : Value) (w21 : Value) (w22 : Value) (w23 : Value) (w24 : Value) (w25 : Value) (w26 : Value) (w27 : Value) (w28 : Value) (w29 : Value) (w30 : Value) (w31 : Value) (w32 : Value) (w33 : Value) (w34 : Value) (w35 : Value) (w36 : Value) (w37 : Value) (w38 : Value) (w39 : Value) (w40 : Value) (w41 : Value) (w42 : Value) (w43 : Value) (w44 : Value) (w45 : Value) (w46 : Value) (w47 : Value) (w48 : Value) (w49 : Value) (w50 : Value) (w51 : Value) (w52 : Value) (w53 : Value) (w54 : Value) (w55 : Value) (w56 : Value) (w57 : Value) (w58 : Value) (w59 : Value) (w60 : Value) (w61 : Value) (w62 : Value) (f : Nat → Int32) (wd : Int64) : Met l yX12_add wz_c_M_add_2 ({ frames := 0, cells := 0, slots := 0, locals := 0 }) (va_Pc [.ref h0, .long wd, .int 2] (zB D y [(h0, .inr (16, [w1, .int 0, .ref tp, w2, w3, w4, w5, w6, w7, w8, w9, w10, w11, w12, w13, w14, w15, w16, w17, w18, w19, w20, w21, w22, w23, w24, w25, w26, w27, w28, w29, w30, w31, w32, w33, w34, w35, w36, w37, w38, w39, w40, w41, w42, w43, w44, w45, w46, w47, w48, w49, w50, w51, w52, w53, w54, w55, w56, w57, w58, w59, w60, w61, w62])), (tp, .inl (y 1, 4096, .inl f))] sz [] [] [] [])) (va_Qi (fun (r : Int32) (_ : Unit) => r = 1) (fun _ t => ∃ fz0 : Nat → Int32, va_P D vwCl [(h0, .inr (16, [.int 0, .int 2, .ref tp, w2, w3, w4, w5, w6, w7, w8, w9, w10, w11, w12, w13, w14, w15, w16, w17, w18, w19, w20, w21, w22, w23, w24, w25, w26, w27, w28, w29, w30, w31, w32, w33, w34, w35, w36, w37, w38, w39, w40, w41, w42, w43, w44, w45, w46, w47, w48, w49, w50, w51, w52, w53, w54, w55, w56, w57, w58, w59, w60, w61, w62])), (tp, .inl (y 1, 4096, .inl fz0))] t.heap ∧ va_D (va_A [(h0, .inr (16, [w1, .int 0, .ref tp, w2, w3, w4, w5, w6, w7, w8, w9, w10, w11, w12, w13, w14, w15, w16, w17, w18, w19, w20, w21, w22, w23, w24, w25, w26, w27, w28, w29, w30, w31, w32, w33, w34, w35, w36, w37, w38, w39, w40, w41, w42, w43, w44, w45, w46, w47, w48, w49, w50, w51, w52, w53, w54, w55, w56, w57, w58, w59, w60, w61, w62])), (tp, .inl (y 1, 4096, .inl f))] sz) [(h0, .inr (16, [.int 0, .int 2, .ref tp, w2, w3, w4, w5, w6, w7, w8, w9, w10, w11, w12, w13, w14, w15, w16, w17, w18, w19, w20, w21, w22, w23, w24, w25, w26, w27, w28, w29, w30, w31, w32, w33, w34, w35, w36, w37, w38, w39, w40, w41, w42, w43, w44, w45, w46, w47, w48, w49, w50, w51, w52, w53, w54, w55, w56, w57, w58, w59, w60, w61, w62])), (tp, .inl (y 1, 4096, .inl fz0))]) (va_A [(h0, .inr (16, [w1, .int 0, .ref tp, w2, w3, w4, w5, w6, w7, w8, w9, w10, w11, w12, w13, w14, w15, w16, w17, w18, w19, w20, w21, w22, w23, w24, w25, w26, w27, w28, w29, w30, w31, w32, w33, w34, w35, w36, w37, w38, w39, w40, w41, w42, w43, w44, w45, w46, w47, w48, w49, w50, w51, w52, w53, w54, w55, w56, w57, w58, w59, w60, w61, w62])), (tp, .inl (y 1, 4096, .inl f))] sz)) 0 0 (va_A [(h0, .inr (16, [w1, .int 0, .ref tp, w2, w3, w4, w5, w6, w7, w8, w9, w10, w11, w12, w13, w14, w15, w16, w17, w18, w19, w20, w21, w22, w23, w24, w25, w26, w27, w28, w29, w30, w31, w32, w33, w34, w35, w36, w37, w38, w39, w40, w41, w42, w43, w44, w45, w46, w47, w48, w49, w50, w51, w52, w53, w54, w55, w56, w57, w58, w59, w60, w61, w62])), (tp, .inl (y 1, 4096, .inl f))] sz) := by
  refine Met.ofW (cc := cX12_add) (maxL := 5) (ret := (some .boolean)) (by decide) rfl ?_
  intro p e s m args below meth c s₁ B hml hv
  obtain ⟨rfl, hsz, hP, hK, hD0, hN, hE, hO, hT, hG⟩ := hv
  have hx := B.exec
  have hb := B.bytes
  have hr := B.returns
  have hts := atoms_spec (ws := wz_c_M_add_2) B.pre
  have hown : s.vm.findClass RX12 = some m.cls := findClass_of_methodNamed B.named
  have hlocks := B.notSynchronized
  subst hsz
  have hD := hD0.self (sz := s.heap.size)
  generalize hAe : va_A [(h0, .inr (16, [w1, .int 0, .ref tp, w2, w3, w4, w5, w6, w7, w8, w9, w10, w11, w12, w13, w14, w15, w16, w17, w18, w19, w20, w21, w22, w23, w24, w25, w26, w27, w28, w29, w30, w31, w32, w33, w34, w35, w36, w37, w38, w39, w40, w41, w42, w43, w44, w45, w46, w47, w48, w49, w50, w51, w52, w53, w54, w55, w56, w57, w58, w59, w60, w61, w62])), (tp, .inl (y 1, 4096, .inl f))] s.heap.size = A at hD hE hT hG ⊢
  have hA : ∀ q : Nat, s.heap.size ≤ q → A q := fun q h => by rw [← hAe]; exact Or.inr h
  have hS : va_S A s.heap s.heap [] := va_S.rf
  have hl := lv_entry ([.ref h0, .long wd, .int 2]) (n := 5) (Nat.le_of_ble_eq_true rfl)
  rw [lg_entry_eq]
  generalize (lg_sl ([.ref h0, .long wd, .int 2]) ++ List.replicate (5 - (lg_sl ([.ref h0, .long wd, .int 2])).length) Slot.unset).toArray = ls at hl ⊢
  have hl : lv_has ls 5 [(0, .ref h0), (1, .long wd), (3, .int 2)] := hl
  refine lv_aload_n hx hb dX12_add_0 rfl (lv_at hl 0 rfl) ?_
  refine lv_iconst (v := 0) hx hb dX12_add_1 (by decide) ?_
  refine va_put (D := D) (ci := 16) (v := .int 0) (ty := .int) (C := RX12) (T := TX12) (N := 64) hx hb hts (by decide +kernel) tyX12 tyX12_ok nmX12 hown hK hP hD hS 0 rfl rfl 0 (by decide) (hts (.fieldLink RX12 78 "SignetRingModel" "thrown" "I") (by decide +kernel)) (fun _ h9 => h9) rfl (by decide +kernel) rfl rfl (Nat.le_of_ble_eq_true rfl) dX12_add_2 (fun H locs hP hD hS => ?_)
  have hP : va_P D vwCl [(h0, .inr (16, [.int 0, .int 0, .ref tp, w2, w3, w4, w5, w6, w7, w8, w9, w10, w11, w12, w13, w14, w15, w16, w17, w18, w19, w20, w21, w22, w23, w24, w25, w26, w27, w28, w29, w30, w31, w32, w33, w34, w35, w36, w37, w38, w39, w40, w41, w42, w43, w44, w45, w46, w47, w48, w49, w50, w51, w52, w53, w54, w55, w56, w57, w58, w59, w60, w61, w62])), (tp, .inl (y 1, 4096, .inl f))] H := hP
  have hD : va_D A [(h0, .inr (16, [.int 0, .int 0, .ref tp, w2, w3, w4, w5, w6, w7, w8, w9, w10, w11, w12, w13, w14, w15, w16, w17, w18, w19, w20, w21, w22, w23, w24, w25, w26, w27, w28, w29, w30, w31, w32, w33, w34, w35, w36, w37, w38, w39, w40, w41, w42, w43, w44, w45, w46, w47, w48, w49, w50, w51, w52, w53, w54, w55, w56, w57, w58, w59, w60, w61, w62])), (tp, .inl (y 1, 4096, .inl f))] := hD
  refine lv_iload_n hx hb dX12_add_5 rfl (lv_at hl 2 rfl) ?_
  refine lv_iconst (v := 1) hx hb dX12_add_6 (by decide) ?_
  refine lv_icmp_lt (tgt := 28) hx hb dX12_add_7 (by decide) (fun c9 => absurd c9 (by decide)) (fun _ => ?_)
  refine lv_iload_n hx hb dX12_add_10 rfl (lv_at hl 2 rfl) ?_
  refine lv_bipush (v := 8) hx hb dX12_add_11 (by decide) ?_
  refine lv_icmp_gt (tgt := 28) hx hb dX12_add_13 (by decide) (fun c9 => absurd c9 (by decide)) (fun _ => ?_)
  refine lv_aload_n hx hb dX12_add_16 rfl (lv_at hl 0 rfl) ?_
  refine va_get (D := D) (ci := 16) (v := .int 0) (C := RX12) (T := TX12) (N := 64) hx hb hts (by decide +kernel) hown hK hP 0 rfl rfl 1 (by decide) (hts (.fieldLink RX12 84 "SignetRingModel" "taped" "I") (by decide +kernel)) (fun _ h9 => h9) rfl dX12_add_17 ?_
  refine lv_iload_n hx hb dX12_add_20 rfl (lv_at hl 2 rfl) ?_
  refine lv_iadd hx hb dX12_add_21 ?_
  refine lv_topi (fun v1 ev1 => ?_)
  have ev1 : v1 = 2 := ev1.trans (by decide +kernel)
  subst ev1
  refine lv_sipush (v := 4096) hx hb dX12_add_22 (by decide) ?_
  refine lv_icmp_le (tgt := 30) hx hb dX12_add_25 (by decide) (fun _ => ?_) (fun c9 => absurd (by decide) c9)
  refine lv_iconst (v := 0) hx hb dX12_add_30 (by decide) ?_
  refine lv_istore (lv' := [(4, .int 0), (0, .ref h0), (1, .long wd), (3, .int 2)]) hx hb dX12_add_31 hl (by decide) rfl (fun ls hl => ?_)
  refine lv_iload hx hb dX12_add_33 (lv_at hl 0 rfl) ?_
  refine lv_iload_n hx hb dX12_add_35 rfl (lv_at hl 3 rfl) ?_
  refine lv_icmp_ge (tgt := 76) hx hb dX12_add_36 (by decide) (fun c9 => absurd c9 (by decide)) (fun _ => ?_)
  refine lv_aload_n hx hb dX12_add_39 rfl (lv_at hl 1 rfl) ?_
  refine va_get (D := D) (ci := 16) (v := .ref tp) (C := RX12) (T := TX12) (N := 64) hx hb hts (by decide +kernel) hown hK hP 0 rfl rfl 2 (by decide) (hts (.fieldLink RX12 7 "SignetRingModel" "tape" "[I") (by decide +kernel)) (fun _ h9 => h9) rfl dX12_add_40 ?_
  refine lv_aload_n hx hb dX12_add_43 rfl (lv_at hl 1 rfl) ?_
  refine va_get (D := D) (ci := 16) (v := .int 0) (C := RX12) (T := TX12) (N := 64) hx hb hts (by decide +kernel) hown hK hP 0 rfl rfl 1 (by decide) (hts (.fieldLink RX12 84 "SignetRingModel" "taped" "I") (by decide +kernel)) (fun _ h9 => h9) rfl dX12_add_44 ?_
  refine lv_lload_n hx hb dX12_add_47 rfl (lv_at hl 2 rfl) ?_
  refine lv_bipush (v := 8) hx hb dX12_add_48 (by decide) ?_
  refine lv_iload hx hb dX12_add_50 (lv_at hl 0 rfl) ?_
  refine lv_imul hx hb dX12_add_52 ?_
  refine lv_topi (fun v2 ev2 => ?_)
  have ev2 : v2 = 0 := ev2.trans (by decide +kernel)
  subst ev2
  refine lv_lshr hx hb dX12_add_53 rfl ?_
  refine lv_topl (fun v3 _ => ?_)
  refine lv_ldc2 (v := 255) hx hb hown (hts (.constantLong RX12 87 255) (by decide +kernel)) dX12_add_54 ?_
  refine lv_land hx hb dX12_add_57 ?_
  refine lv_topl (fun v4 _ => ?_)
  refine lv_l2i hx hb dX12_add_58 rfl ?_
  refine lv_topi (fun v5 _ => ?_)
  refine va_iast hx hb hK hP hD hS 1 1 rfl rfl (by unfold vp_in; decide) dX12_add_59 (fun H locs hP hD hS => ?_)
  have hP : va_P D vwCl [(h0, .inr (16, [.int 0, .int 0, .ref tp, w2, w3, w4, w5, w6, w7, w8, w9, w10, w11, w12, w13, w14, w15, w16, w17, w18, w19, w20, w21, w22, w23, w24, w25, w26, w27, w28, w29, w30, w31, w32, w33, w34, w35, w36, w37, w38, w39, w40, w41, w42, w43, w44, w45, w46, w47, w48, w49, w50, w51, w52, w53, w54, w55, w56, w57, w58, w59, w60, w61, w62])), (tp, .inl (y 1, 4096, .inl (upd f (0 : Int32).toNatClampNeg v5)))] H := hP
  have hD : va_D A [(h0, .inr (16, [.int 0, .int 0, .ref tp, w2, w3, w4, w5, w6, w7, w8, w9, w10, w11, w12, w13, w14, w15, w16, w17, w18, w19, w20, w21, w22, w23, w24, w25, w26, w27, w28, w29, w30, w31, w32, w33, w34, w35, w36, w37, w38, w39, w40, w41, w42, w43, w44, w45, w46, w47, w48, w49, w50, w51, w52, w53, w54, w55, w56, w57, w58, w59, w60, w61, w62])), (tp, .inl (y 1, 4096, .inl (upd f (0 : Int32).toNatClampNeg v5)))] := hD
  refine lv_aload_n hx hb dX12_add_60 rfl (lv_at hl 1 rfl) ?_
  refine lv_dup hx hb dX12_add_61 rfl ?_
  refine va_get (D := D) (ci := 16) (v := .int 0) (C := RX12) (T := TX12) (N := 64) hx hb hts (by decide +kernel) hown hK hP 0 rfl rfl 1 (by decide) (hts (.fieldLink RX12 84 "SignetRingModel" "taped" "I") (by decide +kernel)) (fun _ h9 => h9) rfl dX12_add_62 ?_
  refine lv_iconst (v := 1) hx hb dX12_add_65 (by decide) ?_
  refine lv_iadd hx hb dX12_add_66 ?_
  refine lv_topi (fun v6 ev6 => ?_)
  have ev6 : v6 = 1 := ev6.trans (by decide +kernel)
  subst ev6
  refine va_put (D := D) (ci := 16) (v := .int 1) (ty := .int) (C := RX12) (T := TX12) (N := 64) hx hb hts (by decide +kernel) tyX12 tyX12_ok nmX12 hown hK hP hD hS 0 rfl rfl 1 (by decide) (hts (.fieldLink RX12 84 "SignetRingModel" "taped" "I") (by decide +kernel)) (fun _ h9 => h9) rfl (by decide +kernel) rfl rfl (Nat.le_of_ble_eq_true rfl) dX12_add_67 (fun H locs hP hD hS => ?_)
  have hP : va_P D vwCl [(h0, .inr (16, [.int 0, .int 1, .ref tp, w2, w3, w4, w5, w6, w7, w8, w9, w10, w11, w12, w13, w14, w15, w16, w17, w18, w19, w20, w21, w22, w23, w24, w25, w26, w27, w28, w29, w30, w31, w32, w33, w34, w35, w36, w37, w38, w39, w40, w41, w42, w43, w44, w45, w46, w47, w48, w49, w50, w51, w52, w53, w54, w55, w56, w57, w58, w59, w60, w61, w62])), (tp, .inl (y 1, 4096, .inl (upd f (0 : Int32).toNatClampNeg v5)))] H := hP
  have hD : va_D A [(h0, .inr (16, [.int 0, .int 1, .ref tp, w2, w3, w4, w5, w6, w7, w8, w9, w10, w11, w12, w13, w14, w15, w16, w17, w18, w19, w20, w21, w22, w23, w24, w25, w26, w27, w28, w29, w30, w31, w32, w33, w34, w35, w36, w37, w38, w39, w40, w41, w42, w43, w44, w45, w46, w47, w48, w49, w50, w51, w52, w53, w54, w55, w56, w57, w58, w59, w60, w61, w62])), (tp, .inl (y 1, 4096, .inl (upd f (0 : Int32).toNatClampNeg v5)))] := hD
  refine lv_iinc (v := 1) (lv' := [(4, .int 1), (0, .ref h0), (1, .long wd), (3, .int 2)]) hx hb dX12_add_70 hl (k := 0) rfl (by decide) (by decide) rfl (fun ls hl => ?_)
  refine lv_goto (tgt := 33) hx hb dX12_add_73 (by decide) ?_
  refine lv_iload hx hb dX12_add_33 (lv_at hl 0 rfl) ?_
  refine lv_iload_n hx hb dX12_add_35 rfl (lv_at hl 3 rfl) ?_
  refine lv_icmp_ge (tgt := 76) hx hb dX12_add_36 (by decide) (fun c9 => absurd c9 (by decide)) (fun _ => ?_)
  refine lv_aload_n hx hb dX12_add_39 rfl (lv_at hl 1 rfl) ?_
  refine va_get (D := D) (ci := 16) (v := .ref tp) (C := RX12) (T := TX12) (N := 64) hx hb hts (by decide +kernel) hown hK hP 0 rfl rfl 2 (by decide) (hts (.fieldLink RX12 7 "SignetRingModel" "tape" "[I") (by decide +kernel)) (fun _ h9 => h9) rfl dX12_add_40 ?_
  refine lv_aload_n hx hb dX12_add_43 rfl (lv_at hl 1 rfl) ?_
  refine va_get (D := D) (ci := 16) (v := .int 1) (C := RX12) (T := TX12) (N := 64) hx hb hts (by decide +kernel) hown hK hP 0 rfl rfl 1 (by decide) (hts (.fieldLink RX12 84 "SignetRingModel" "taped" "I") (by decide +kernel)) (fun _ h9 => h9) rfl dX12_add_44 ?_
  refine lv_lload_n hx hb dX12_add_47 rfl (lv_at hl 2 rfl) ?_
  refine lv_bipush (v := 8) hx hb dX12_add_48 (by decide) ?_
  refine lv_iload hx hb dX12_add_50 (lv_at hl 0 rfl) ?_
  refine lv_imul hx hb dX12_add_52 ?_
  refine lv_topi (fun v7 ev7 => ?_)
  have ev7 : v7 = 8 := ev7.trans (by decide +kernel)
  subst ev7
  refine lv_lshr hx hb dX12_add_53 rfl ?_
  refine lv_topl (fun v8 _ => ?_)
  refine lv_ldc2 (v := 255) hx hb hown (hts (.constantLong RX12 87 255) (by decide +kernel)) dX12_add_54 ?_
  refine lv_land hx hb dX12_add_57 ?_
  refine lv_topl (fun v9 _ => ?_)
  refine lv_l2i hx hb dX12_add_58 rfl ?_
  refine lv_topi (fun v10 _ => ?_)
  refine va_iast hx hb hK hP hD hS 1 1 rfl rfl (by unfold vp_in; decide) dX12_add_59 (fun H locs hP hD hS => ?_)
  have hP : va_P D vwCl [(h0, .inr (16, [.int 0, .int 1, .ref tp, w2, w3, w4, w5, w6, w7, w8, w9, w10, w11, w12, w13, w14, w15, w16, w17, w18, w19, w20, w21, w22, w23, w24, w25, w26, w27, w28, w29, w30, w31, w32, w33, w34, w35, w36, w37, w38, w39, w40, w41, w42, w43, w44, w45, w46, w47, w48, w49, w50, w51, w52, w53, w54, w55, w56, w57, w58, w59, w60, w61, w62])), (tp, .inl (y 1, 4096, .inl (upd (upd f (0 : Int32).toNatClampNeg v5) (1 : Int32).toNatClampNeg v10)))] H := hP
  have hD : va_D A [(h0, .inr (16, [.int 0, .int 1, .ref tp, w2, w3, w4, w5, w6, w7, w8, w9, w10, w11, w12, w13, w14, w15, w16, w17, w18, w19, w20, w21, w22, w23, w24, w25, w26, w27, w28, w29, w30, w31, w32, w33, w34, w35, w36, w37, w38, w39, w40, w41, w42, w43, w44, w45, w46, w47, w48, w49, w50, w51, w52, w53, w54, w55, w56, w57, w58, w59, w60, w61, w62])), (tp, .inl (y 1, 4096, .inl (upd (upd f (0 : Int32).toNatClampNeg v5) (1 : Int32).toNatClampNeg v10)))] := hD
  refine lv_aload_n hx hb dX12_add_60 rfl (lv_at hl 1 rfl) ?_
  refine lv_dup hx hb dX12_add_61 rfl ?_
  refine va_get (D := D) (ci := 16) (v := .int 1) (C := RX12) (T := TX12) (N := 64) hx hb hts (by decide +kernel) hown hK hP 0 rfl rfl 1 (by decide) (hts (.fieldLink RX12 84 "SignetRingModel" "taped" "I") (by decide +kernel)) (fun _ h9 => h9) rfl dX12_add_62 ?_
  refine lv_iconst (v := 1) hx hb dX12_add_65 (by decide) ?_
  refine lv_iadd hx hb dX12_add_66 ?_
  refine lv_topi (fun v11 ev11 => ?_)
  have ev11 : v11 = 2 := ev11.trans (by decide +kernel)
  subst ev11
  refine va_put (D := D) (ci := 16) (v := .int 2) (ty := .int) (C := RX12) (T := TX12) (N := 64) hx hb hts (by decide +kernel) tyX12 tyX12_ok nmX12 hown hK hP hD hS 0 rfl rfl 1 (by decide) (hts (.fieldLink RX12 84 "SignetRingModel" "taped" "I") (by decide +kernel)) (fun _ h9 => h9) rfl (by decide +kernel) rfl rfl (Nat.le_of_ble_eq_true rfl) dX12_add_67 (fun H locs hP hD hS => ?_)
  have hP : va_P D vwCl [(h0, .inr (16, [.int 0, .int 2, .ref tp, w2, w3, w4, w5, w6, w7, w8, w9, w10, w11, w12, w13, w14, w15, w16, w17, w18, w19, w20, w21, w22, w23, w24, w25, w26, w27, w28, w29, w30, w31, w32, w33, w34, w35, w36, w37, w38, w39, w40, w41, w42, w43, w44, w45, w46, w47, w48, w49, w50, w51, w52, w53, w54, w55, w56, w57, w58, w59, w60, w61, w62])), (tp, .inl (y 1, 4096, .inl (upd (upd f (0 : Int32).toNatClampNeg v5) (1 : Int32).toNatClampNeg v10)))] H := hP
  have hD : va_D A [(h0, .inr (16, [.int 0, .int 2, .ref tp, w2, w3, w4, w5, w6, w7, w8, w9, w10, w11, w12, w13, w14, w15, w16, w17, w18, w19, w20, w21, w22, w23, w24, w25, w26, w27, w28, w29, w30, w31, w32, w33, w34, w35, w36, w37, w38, w39, w40, w41, w42, w43, w44, w45, w46, w47, w48, w49, w50, w51, w52, w53, w54, w55, w56, w57, w58, w59, w60, w61, w62])), (tp, .inl (y 1, 4096, .inl (upd (upd f (0 : Int32).toNatClampNeg v5) (1 : Int32).toNatClampNeg v10)))] := hD
  refine lv_iinc (v := 2) (lv' := [(4, .int 2), (0, .ref h0), (1, .long wd), (3, .int 2)]) hx hb dX12_add_70 hl (k := 0) rfl (by decide) (by decide) rfl (fun ls hl => ?_)
  refine lv_goto (tgt := 33) hx hb dX12_add_73 (by decide) ?_
  refine lv_iload hx hb dX12_add_33 (lv_at hl 0 rfl) ?_
  refine lv_iload_n hx hb dX12_add_35 rfl (lv_at hl 3 rfl) ?_
  refine lv_icmp_ge (tgt := 76) hx hb dX12_add_36 (by decide) (fun _ => ?_) (fun c9 => absurd (by decide) c9)
  refine lv_iconst (v := 1) hx hb dX12_add_76 (by decide) ?_
  have hP9 := hP.sub (ws' := [(h0, .inr (16, [.int 0, .int 2, .ref tp, w2, w3, w4, w5, w6, w7, w8, w9, w10, w11, w12, w13, w14, w15, w16, w17, w18, w19, w20, w21, w22, w23, w24, w25, w26, w27, w28, w29, w30, w31, w32, w33, w34, w35, w36, w37, w38, w39, w40, w41, w42, w43, w44, w45, w46, w47, w48, w49, w50, w51, w52, w53, w54, w55, w56, w57, w58, w59, w60, w61, w62])), (tp, .inl (y 1, 4096, .inl (upd (upd f (0 : Int32).toNatClampNeg v5) (1 : Int32).toNatClampNeg v10)))]) [0, 1] rfl
  have hD9 := hD.sub (ws' := [(h0, .inr (16, [.int 0, .int 2, .ref tp, w2, w3, w4, w5, w6, w7, w8, w9, w10, w11, w12, w13, w14, w15, w16, w17, w18, w19, w20, w21, w22, w23, w24, w25, w26, w27, w28, w29, w30, w31, w32, w33, w34, w35, w36, w37, w38, w39, w40, w41, w42, w43, w44, w45, w46, w47, w48, w49, w50, w51, w52, w53, w54, w55, w56, w57, w58, w59, w60, w61, w62])), (tp, .inl (y 1, 4096, .inl (upd (upd f (0 : Int32).toNatClampNeg v5) (1 : Int32).toNatClampNeg v10)))]) [0, 1] (by decide) rfl
  refine W.widen (k := 0) (n := 0) (Nat.le_of_ble_eq_true rfl) (Nat.le_of_ble_eq_true rfl) ?_
  exact W.zret (v := 1) hx hb hr (by decide) (fun t ht hW => ⟨⟨1, (), rfl, rfl, (upd (upd f (0 : Int32).toNatClampNeg v5) (1 : Int32).toNatClampNeg v10), by rw [ht]; exact hP9, hD9⟩, hS.F ht⟩) hS.2.2 dX12_add_77
def wz_c_M_add_3 : List Cond := .code yX12_add cX12_add 5 (some .boolean) :: ([.fieldLink RX12 78 "SignetRingModel" "thrown" "I", .fieldLink RX12 84 "SignetRingModel" "taped" "I", .fieldLink RX12 7 "SignetRingModel" "tape" "[I", .constantLong RX12 87 255] ++ (wsX120 ++ ([])))
set_option maxHeartbeats 4000000 in
set_option maxRecDepth 100000 in
theorem c_M_add_3 (l : Launch) (D : va_G) (y : Nat → ClassId) (sz : Nat) (h0 : Nat) (tp : Nat) (w1 : Value) (w2 : Value) (w3 : Value) (w4 : Value) (w5 : Value) (w6 : Value) (w7 : Value) (w8 : Value) (w9 : Value) (w10 : Value) (w11 : Value) (w12 : Value) (w13 : Value) (w14 : Value) (w15 : Value) (w16 : Value) (w17 : Value) (w18 : Value) (w19 : Value) (w20 : Value) (w21 : Value) (w22 : Value) (w23 : Value) (w24 : Value) (w25 : Value) (w26 : Value) (w27 : Value) (w28 : Value) (w29 : Value) (w30 : Value) (w31 : Value) (w32 : Value) (w33 : Value) (w34 : Value) (w35 : Value) (w36 : Value) (w37 : Value) (w38 : Value) (w39 : Value) (w40 : Value) (w41 : Value) (w42 : Value) (w43 : Value) (w44 : Value) (w45 : Value) (w46 : Value) (w47 : Value) (w48 : Value) (w49 : Value) (w50 : Value) (w51 : Value) (w52 : Value) (w53 : Value) (w54 : Value) (w55 : Value) (w56 : Value) (w57 : Value) (w58 : Value) (w59 : Value) (w60 : Value) (w61 : Value) (w62 : Value) (f : Nat → Int32) (wd : Int64) : Met l yX12_add wz_c_M_add_3 ({ frames := 0, cells := 0, slots := 0, locals := 0 }) (va_Pc [.ref h0, .long wd, .int 3] (zB D y [(h0, .inr (16, [w1, .int 0, .ref tp, w2, w3, w4, w5, w6, w7, w8, w9, w10, w11, w12, w13, w14, w15, w16, w17, w18, w19, w20, w21, w22, w23, w24, w25, w26, w27, w28, w29, w30, w31, w32, w33, w34, w35, w36, w37, w38, w39, w40, w41, w42, w43, w44, w45, w46, w47, w48, w49, w50, w51, w52, w53, w54, w55, w56, w57, w58, w59, w60, w61, w62])), (tp, .inl (y 1, 4096, .inl f))] sz [] [] [] [])) (va_Qi (fun (r : Int32) (_ : Unit) => r = 1) (fun _ t => ∃ fz0 : Nat → Int32, va_P D vwCl [(h0, .inr (16, [.int 0, .int 3, .ref tp, w2, w3, w4, w5, w6, w7, w8, w9, w10, w11, w12, w13, w14, w15, w16, w17, w18, w19, w20, w21, w22, w23, w24, w25, w26, w27, w28, w29, w30, w31, w32, w33, w34, w35, w36, w37, w38, w39, w40, w41, w42, w43, w44, w45, w46, w47, w48, w49, w50, w51, w52, w53, w54, w55, w56, w57, w58, w59, w60, w61, w62])), (tp, .inl (y 1, 4096, .inl fz0))] t.heap ∧ va_D (va_A [(h0, .inr (16, [w1, .int 0, .ref tp, w2, w3, w4, w5, w6, w7, w8, w9, w10, w11, w12, w13, w14, w15, w16, w17, w18, w19, w20, w21, w22, w23, w24, w25, w26, w27, w28, w29, w30, w31, w32, w33, w34, w35, w36, w37, w38, w39, w40, w41, w42, w43, w44, w45, w46, w47, w48, w49, w50, w51, w52, w53, w54, w55, w56, w57, w58, w59, w60, w61, w62])), (tp, .inl (y 1, 4096, .inl f))] sz) [(h0, .inr (16, [.int 0, .int 3, .ref tp, w2, w3, w4, w5, w6, w7, w8, w9, w10, w11, w12, w13, w14, w15, w16, w17, w18, w19, w20, w21, w22, w23, w24, w25, w26, w27, w28, w29, w30, w31, w32, w33, w34, w35, w36, w37, w38, w39, w40, w41, w42, w43, w44, w45, w46, w47, w48, w49, w50, w51, w52, w53, w54, w55, w56, w57, w58, w59, w60, w61, w62])), (tp, .inl (y 1, 4096, .inl fz0))]) (va_A [(h0, .inr (16, [w1, .int 0, .ref tp, w2, w3, w4, w5, w6, w7, w8, w9, w10, w11, w12, w13, w14, w15, w16, w17, w18, w19, w20, w21, w22, w23, w24, w25, w26, w27, w28, w29, w30, w31, w32, w33, w34, w35, w36, w37, w38, w39, w40, w41, w42, w43, w44, w45, w46, w47, w48, w49, w50, w51, w52, w53, w54, w55, w56, w57, w58, w59, w60, w61, w62])), (tp, .inl (y 1, 4096, .inl f))] sz)) 0 0 (va_A [(h0, .inr (16, [w1, .int 0, .ref tp, w2, w3, w4, w5, w6, w7, w8, w9, w10, w11, w12, w13, w14, w15, w16, w17, w18, w19, w20, w21, w22, w23, w24, w25, w26, w27, w28, w29, w30, w31, w32, w33, w34, w35, w36, w37, w38, w39, w40, w41, w42, w43, w44, w45, w46, w47, w48, w49, w50, w51, w52, w53, w54, w55, w56, w57, w58, w59, w60, w61, w62])), (tp, .inl (y 1, 4096, .inl f))] sz) := by
  refine Met.ofW (cc := cX12_add) (maxL := 5) (ret := (some .boolean)) (by decide) rfl ?_
  intro p e s m args below meth c s₁ B hml hv
  obtain ⟨rfl, hsz, hP, hK, hD0, hN, hE, hO, hT, hG⟩ := hv
  have hx := B.exec
  have hb := B.bytes
  have hr := B.returns
  have hts := atoms_spec (ws := wz_c_M_add_3) B.pre
  have hown : s.vm.findClass RX12 = some m.cls := findClass_of_methodNamed B.named
  have hlocks := B.notSynchronized
  subst hsz
  have hD := hD0.self (sz := s.heap.size)
  generalize hAe : va_A [(h0, .inr (16, [w1, .int 0, .ref tp, w2, w3, w4, w5, w6, w7, w8, w9, w10, w11, w12, w13, w14, w15, w16, w17, w18, w19, w20, w21, w22, w23, w24, w25, w26, w27, w28, w29, w30, w31, w32, w33, w34, w35, w36, w37, w38, w39, w40, w41, w42, w43, w44, w45, w46, w47, w48, w49, w50, w51, w52, w53, w54, w55, w56, w57, w58, w59, w60, w61, w62])), (tp, .inl (y 1, 4096, .inl f))] s.heap.size = A at hD hE hT hG ⊢
  have hA : ∀ q : Nat, s.heap.size ≤ q → A q := fun q h => by rw [← hAe]; exact Or.inr h
  have hS : va_S A s.heap s.heap [] := va_S.rf
  have hl := lv_entry ([.ref h0, .long wd, .int 3]) (n := 5) (Nat.le_of_ble_eq_true rfl)
  rw [lg_entry_eq]
  generalize (lg_sl ([.ref h0, .long wd, .int 3]) ++ List.replicate (5 - (lg_sl ([.ref h0, .long wd, .int 3])).length) Slot.unset).toArray = ls at hl ⊢
  have hl : lv_has ls 5 [(0, .ref h0), (1, .long wd), (3, .int 3)] := hl
  refine lv_aload_n hx hb dX12_add_0 rfl (lv_at hl 0 rfl) ?_
  refine lv_iconst (v := 0) hx hb dX12_add_1 (by decide) ?_
  refine va_put (D := D) (ci := 16) (v := .int 0) (ty := .int) (C := RX12) (T := TX12) (N := 64) hx hb hts (by decide +kernel) tyX12 tyX12_ok nmX12 hown hK hP hD hS 0 rfl rfl 0 (by decide) (hts (.fieldLink RX12 78 "SignetRingModel" "thrown" "I") (by decide +kernel)) (fun _ h9 => h9) rfl (by decide +kernel) rfl rfl (Nat.le_of_ble_eq_true rfl) dX12_add_2 (fun H locs hP hD hS => ?_)
  have hP : va_P D vwCl [(h0, .inr (16, [.int 0, .int 0, .ref tp, w2, w3, w4, w5, w6, w7, w8, w9, w10, w11, w12, w13, w14, w15, w16, w17, w18, w19, w20, w21, w22, w23, w24, w25, w26, w27, w28, w29, w30, w31, w32, w33, w34, w35, w36, w37, w38, w39, w40, w41, w42, w43, w44, w45, w46, w47, w48, w49, w50, w51, w52, w53, w54, w55, w56, w57, w58, w59, w60, w61, w62])), (tp, .inl (y 1, 4096, .inl f))] H := hP
  have hD : va_D A [(h0, .inr (16, [.int 0, .int 0, .ref tp, w2, w3, w4, w5, w6, w7, w8, w9, w10, w11, w12, w13, w14, w15, w16, w17, w18, w19, w20, w21, w22, w23, w24, w25, w26, w27, w28, w29, w30, w31, w32, w33, w34, w35, w36, w37, w38, w39, w40, w41, w42, w43, w44, w45, w46, w47, w48, w49, w50, w51, w52, w53, w54, w55, w56, w57, w58, w59, w60, w61, w62])), (tp, .inl (y 1, 4096, .inl f))] := hD
  refine lv_iload_n hx hb dX12_add_5 rfl (lv_at hl 2 rfl) ?_
  refine lv_iconst (v := 1) hx hb dX12_add_6 (by decide) ?_
  refine lv_icmp_lt (tgt := 28) hx hb dX12_add_7 (by decide) (fun c9 => absurd c9 (by decide)) (fun _ => ?_)
  refine lv_iload_n hx hb dX12_add_10 rfl (lv_at hl 2 rfl) ?_
  refine lv_bipush (v := 8) hx hb dX12_add_11 (by decide) ?_
  refine lv_icmp_gt (tgt := 28) hx hb dX12_add_13 (by decide) (fun c9 => absurd c9 (by decide)) (fun _ => ?_)
  refine lv_aload_n hx hb dX12_add_16 rfl (lv_at hl 0 rfl) ?_
  refine va_get (D := D) (ci := 16) (v := .int 0) (C := RX12) (T := TX12) (N := 64) hx hb hts (by decide +kernel) hown hK hP 0 rfl rfl 1 (by decide) (hts (.fieldLink RX12 84 "SignetRingModel" "taped" "I") (by decide +kernel)) (fun _ h9 => h9) rfl dX12_add_17 ?_
  refine lv_iload_n hx hb dX12_add_20 rfl (lv_at hl 2 rfl) ?_
  refine lv_iadd hx hb dX12_add_21 ?_
  refine lv_topi (fun v1 ev1 => ?_)
  have ev1 : v1 = 3 := ev1.trans (by decide +kernel)
  subst ev1
  refine lv_sipush (v := 4096) hx hb dX12_add_22 (by decide) ?_
  refine lv_icmp_le (tgt := 30) hx hb dX12_add_25 (by decide) (fun _ => ?_) (fun c9 => absurd (by decide) c9)
  refine lv_iconst (v := 0) hx hb dX12_add_30 (by decide) ?_
  refine lv_istore (lv' := [(4, .int 0), (0, .ref h0), (1, .long wd), (3, .int 3)]) hx hb dX12_add_31 hl (by decide) rfl (fun ls hl => ?_)
  refine lv_iload hx hb dX12_add_33 (lv_at hl 0 rfl) ?_
  refine lv_iload_n hx hb dX12_add_35 rfl (lv_at hl 3 rfl) ?_
  refine lv_icmp_ge (tgt := 76) hx hb dX12_add_36 (by decide) (fun c9 => absurd c9 (by decide)) (fun _ => ?_)
  refine lv_aload_n hx hb dX12_add_39 rfl (lv_at hl 1 rfl) ?_
  refine va_get (D := D) (ci := 16) (v := .ref tp) (C := RX12) (T := TX12) (N := 64) hx hb hts (by decide +kernel) hown hK hP 0 rfl rfl 2 (by decide) (hts (.fieldLink RX12 7 "SignetRingModel" "tape" "[I") (by decide +kernel)) (fun _ h9 => h9) rfl dX12_add_40 ?_
  refine lv_aload_n hx hb dX12_add_43 rfl (lv_at hl 1 rfl) ?_
  refine va_get (D := D) (ci := 16) (v := .int 0) (C := RX12) (T := TX12) (N := 64) hx hb hts (by decide +kernel) hown hK hP 0 rfl rfl 1 (by decide) (hts (.fieldLink RX12 84 "SignetRingModel" "taped" "I") (by decide +kernel)) (fun _ h9 => h9) rfl dX12_add_44 ?_
  refine lv_lload_n hx hb dX12_add_47 rfl (lv_at hl 2 rfl) ?_
  refine lv_bipush (v := 8) hx hb dX12_add_48 (by decide) ?_
  refine lv_iload hx hb dX12_add_50 (lv_at hl 0 rfl) ?_
  refine lv_imul hx hb dX12_add_52 ?_
  refine lv_topi (fun v2 ev2 => ?_)
  have ev2 : v2 = 0 := ev2.trans (by decide +kernel)
  subst ev2
  refine lv_lshr hx hb dX12_add_53 rfl ?_
  refine lv_topl (fun v3 _ => ?_)
  refine lv_ldc2 (v := 255) hx hb hown (hts (.constantLong RX12 87 255) (by decide +kernel)) dX12_add_54 ?_
  refine lv_land hx hb dX12_add_57 ?_
  refine lv_topl (fun v4 _ => ?_)
  refine lv_l2i hx hb dX12_add_58 rfl ?_
  refine lv_topi (fun v5 _ => ?_)
  refine va_iast hx hb hK hP hD hS 1 1 rfl rfl (by unfold vp_in; decide) dX12_add_59 (fun H locs hP hD hS => ?_)
  have hP : va_P D vwCl [(h0, .inr (16, [.int 0, .int 0, .ref tp, w2, w3, w4, w5, w6, w7, w8, w9, w10, w11, w12, w13, w14, w15, w16, w17, w18, w19, w20, w21, w22, w23, w24, w25, w26, w27, w28, w29, w30, w31, w32, w33, w34, w35, w36, w37, w38, w39, w40, w41, w42, w43, w44, w45, w46, w47, w48, w49, w50, w51, w52, w53, w54, w55, w56, w57, w58, w59, w60, w61, w62])), (tp, .inl (y 1, 4096, .inl (upd f (0 : Int32).toNatClampNeg v5)))] H := hP
  have hD : va_D A [(h0, .inr (16, [.int 0, .int 0, .ref tp, w2, w3, w4, w5, w6, w7, w8, w9, w10, w11, w12, w13, w14, w15, w16, w17, w18, w19, w20, w21, w22, w23, w24, w25, w26, w27, w28, w29, w30, w31, w32, w33, w34, w35, w36, w37, w38, w39, w40, w41, w42, w43, w44, w45, w46, w47, w48, w49, w50, w51, w52, w53, w54, w55, w56, w57, w58, w59, w60, w61, w62])), (tp, .inl (y 1, 4096, .inl (upd f (0 : Int32).toNatClampNeg v5)))] := hD
  refine lv_aload_n hx hb dX12_add_60 rfl (lv_at hl 1 rfl) ?_
  refine lv_dup hx hb dX12_add_61 rfl ?_
  refine va_get (D := D) (ci := 16) (v := .int 0) (C := RX12) (T := TX12) (N := 64) hx hb hts (by decide +kernel) hown hK hP 0 rfl rfl 1 (by decide) (hts (.fieldLink RX12 84 "SignetRingModel" "taped" "I") (by decide +kernel)) (fun _ h9 => h9) rfl dX12_add_62 ?_
  refine lv_iconst (v := 1) hx hb dX12_add_65 (by decide) ?_
  refine lv_iadd hx hb dX12_add_66 ?_
  refine lv_topi (fun v6 ev6 => ?_)
  have ev6 : v6 = 1 := ev6.trans (by decide +kernel)
  subst ev6
  refine va_put (D := D) (ci := 16) (v := .int 1) (ty := .int) (C := RX12) (T := TX12) (N := 64) hx hb hts (by decide +kernel) tyX12 tyX12_ok nmX12 hown hK hP hD hS 0 rfl rfl 1 (by decide) (hts (.fieldLink RX12 84 "SignetRingModel" "taped" "I") (by decide +kernel)) (fun _ h9 => h9) rfl (by decide +kernel) rfl rfl (Nat.le_of_ble_eq_true rfl) dX12_add_67 (fun H locs hP hD hS => ?_)
  have hP : va_P D vwCl [(h0, .inr (16, [.int 0, .int 1, .ref tp, w2, w3, w4, w5, w6, w7, w8, w9, w10, w11, w12, w13, w14, w15, w16, w17, w18, w19, w20, w21, w22, w23, w24, w25, w26, w27, w28, w29, w30, w31, w32, w33, w34, w35, w36, w37, w38, w39, w40, w41, w42, w43, w44, w45, w46, w47, w48, w49, w50, w51, w52, w53, w54, w55, w56, w57, w58, w59, w60, w61, w62])), (tp, .inl (y 1, 4096, .inl (upd f (0 : Int32).toNatClampNeg v5)))] H := hP
  have hD : va_D A [(h0, .inr (16, [.int 0, .int 1, .ref tp, w2, w3, w4, w5, w6, w7, w8, w9, w10, w11, w12, w13, w14, w15, w16, w17, w18, w19, w20, w21, w22, w23, w24, w25, w26, w27, w28, w29, w30, w31, w32, w33, w34, w35, w36, w37, w38, w39, w40, w41, w42, w43, w44, w45, w46, w47, w48, w49, w50, w51, w52, w53, w54, w55, w56, w57, w58, w59, w60, w61, w62])), (tp, .inl (y 1, 4096, .inl (upd f (0 : Int32).toNatClampNeg v5)))] := hD
  refine lv_iinc (v := 1) (lv' := [(4, .int 1), (0, .ref h0), (1, .long wd), (3, .int 3)]) hx hb dX12_add_70 hl (k := 0) rfl (by decide) (by decide) rfl (fun ls hl => ?_)
  refine lv_goto (tgt := 33) hx hb dX12_add_73 (by decide) ?_
  refine lv_iload hx hb dX12_add_33 (lv_at hl 0 rfl) ?_
  refine lv_iload_n hx hb dX12_add_35 rfl (lv_at hl 3 rfl) ?_
  refine lv_icmp_ge (tgt := 76) hx hb dX12_add_36 (by decide) (fun c9 => absurd c9 (by decide)) (fun _ => ?_)
  refine lv_aload_n hx hb dX12_add_39 rfl (lv_at hl 1 rfl) ?_
  refine va_get (D := D) (ci := 16) (v := .ref tp) (C := RX12) (T := TX12) (N := 64) hx hb hts (by decide +kernel) hown hK hP 0 rfl rfl 2 (by decide) (hts (.fieldLink RX12 7 "SignetRingModel" "tape" "[I") (by decide +kernel)) (fun _ h9 => h9) rfl dX12_add_40 ?_
  refine lv_aload_n hx hb dX12_add_43 rfl (lv_at hl 1 rfl) ?_
  refine va_get (D := D) (ci := 16) (v := .int 1) (C := RX12) (T := TX12) (N := 64) hx hb hts (by decide +kernel) hown hK hP 0 rfl rfl 1 (by decide) (hts (.fieldLink RX12 84 "SignetRingModel" "taped" "I") (by decide +kernel)) (fun _ h9 => h9) rfl dX12_add_44 ?_
  refine lv_lload_n hx hb dX12_add_47 rfl (lv_at hl 2 rfl) ?_
  refine lv_bipush (v := 8) hx hb dX12_add_48 (by decide) ?_
  refine lv_iload hx hb dX12_add_50 (lv_at hl 0 rfl) ?_
  refine lv_imul hx hb dX12_add_52 ?_
  refine lv_topi (fun v7 ev7 => ?_)
  have ev7 : v7 = 8 := ev7.trans (by decide +kernel)
  subst ev7
  refine lv_lshr hx hb dX12_add_53 rfl ?_
  refine lv_topl (fun v8 _ => ?_)
  refine lv_ldc2 (v := 255) hx hb hown (hts (.constantLong RX12 87 255) (by decide +kernel)) dX12_add_54 ?_
  refine lv_land hx hb dX12_add_57 ?_
  refine lv_topl (fun v9 _ => ?_)
  refine lv_l2i hx hb dX12_add_58 rfl ?_
  refine lv_topi (fun v10 _ => ?_)
  refine va_iast hx hb hK hP hD hS 1 1 rfl rfl (by unfold vp_in; decide) dX12_add_59 (fun H locs hP hD hS => ?_)
  have hP : va_P D vwCl [(h0, .inr (16, [.int 0, .int 1, .ref tp, w2, w3, w4, w5, w6, w7, w8, w9, w10, w11, w12, w13, w14, w15, w16, w17, w18, w19, w20, w21, w22, w23, w24, w25, w26, w27, w28, w29, w30, w31, w32, w33, w34, w35, w36, w37, w38, w39, w40, w41, w42, w43, w44, w45, w46, w47, w48, w49, w50, w51, w52, w53, w54, w55, w56, w57, w58, w59, w60, w61, w62])), (tp, .inl (y 1, 4096, .inl (upd (upd f (0 : Int32).toNatClampNeg v5) (1 : Int32).toNatClampNeg v10)))] H := hP
  have hD : va_D A [(h0, .inr (16, [.int 0, .int 1, .ref tp, w2, w3, w4, w5, w6, w7, w8, w9, w10, w11, w12, w13, w14, w15, w16, w17, w18, w19, w20, w21, w22, w23, w24, w25, w26, w27, w28, w29, w30, w31, w32, w33, w34, w35, w36, w37, w38, w39, w40, w41, w42, w43, w44, w45, w46, w47, w48, w49, w50, w51, w52, w53, w54, w55, w56, w57, w58, w59, w60, w61, w62])), (tp, .inl (y 1, 4096, .inl (upd (upd f (0 : Int32).toNatClampNeg v5) (1 : Int32).toNatClampNeg v10)))] := hD
  refine lv_aload_n hx hb dX12_add_60 rfl (lv_at hl 1 rfl) ?_
  refine lv_dup hx hb dX12_add_61 rfl ?_
  refine va_get (D := D) (ci := 16) (v := .int 1) (C := RX12) (T := TX12) (N := 64) hx hb hts (by decide +kernel) hown hK hP 0 rfl rfl 1 (by decide) (hts (.fieldLink RX12 84 "SignetRingModel" "taped" "I") (by decide +kernel)) (fun _ h9 => h9) rfl dX12_add_62 ?_
  refine lv_iconst (v := 1) hx hb dX12_add_65 (by decide) ?_
  refine lv_iadd hx hb dX12_add_66 ?_
  refine lv_topi (fun v11 ev11 => ?_)
  have ev11 : v11 = 2 := ev11.trans (by decide +kernel)
  subst ev11
  refine va_put (D := D) (ci := 16) (v := .int 2) (ty := .int) (C := RX12) (T := TX12) (N := 64) hx hb hts (by decide +kernel) tyX12 tyX12_ok nmX12 hown hK hP hD hS 0 rfl rfl 1 (by decide) (hts (.fieldLink RX12 84 "SignetRingModel" "taped" "I") (by decide +kernel)) (fun _ h9 => h9) rfl (by decide +kernel) rfl rfl (Nat.le_of_ble_eq_true rfl) dX12_add_67 (fun H locs hP hD hS => ?_)
  have hP : va_P D vwCl [(h0, .inr (16, [.int 0, .int 2, .ref tp, w2, w3, w4, w5, w6, w7, w8, w9, w10, w11, w12, w13, w14, w15, w16, w17, w18, w19, w20, w21, w22, w23, w24, w25, w26, w27, w28, w29, w30, w31, w32, w33, w34, w35, w36, w37, w38, w39, w40, w41, w42, w43, w44, w45, w46, w47, w48, w49, w50, w51, w52, w53, w54, w55, w56, w57, w58, w59, w60, w61, w62])), (tp, .inl (y 1, 4096, .inl (upd (upd f (0 : Int32).toNatClampNeg v5) (1 : Int32).toNatClampNeg v10)))] H := hP
  have hD : va_D A [(h0, .inr (16, [.int 0, .int 2, .ref tp, w2, w3, w4, w5, w6, w7, w8, w9, w10, w11, w12, w13, w14, w15, w16, w17, w18, w19, w20, w21, w22, w23, w24, w25, w26, w27, w28, w29, w30, w31, w32, w33, w34, w35, w36, w37, w38, w39, w40, w41, w42, w43, w44, w45, w46, w47, w48, w49, w50, w51, w52, w53, w54, w55, w56, w57, w58, w59, w60, w61, w62])), (tp, .inl (y 1, 4096, .inl (upd (upd f (0 : Int32).toNatClampNeg v5) (1 : Int32).toNatClampNeg v10)))] := hD
  refine lv_iinc (v := 2) (lv' := [(4, .int 2), (0, .ref h0), (1, .long wd), (3, .int 3)]) hx hb dX12_add_70 hl (k := 0) rfl (by decide) (by decide) rfl (fun ls hl => ?_)
  refine lv_goto (tgt := 33) hx hb dX12_add_73 (by decide) ?_
  refine lv_iload hx hb dX12_add_33 (lv_at hl 0 rfl) ?_
  refine lv_iload_n hx hb dX12_add_35 rfl (lv_at hl 3 rfl) ?_
  refine lv_icmp_ge (tgt := 76) hx hb dX12_add_36 (by decide) (fun c9 => absurd c9 (by decide)) (fun _ => ?_)
  refine lv_aload_n hx hb dX12_add_39 rfl (lv_at hl 1 rfl) ?_
  refine va_get (D := D) (ci := 16) (v := .ref tp) (C := RX12) (T := TX12) (N := 64) hx hb hts (by decide +kernel) hown hK hP 0 rfl rfl 2 (by decide) (hts (.fieldLink RX12 7 "SignetRingModel" "tape" "[I") (by decide +kernel)) (fun _ h9 => h9) rfl dX12_add_40 ?_
  refine lv_aload_n hx hb dX12_add_43 rfl (lv_at hl 1 rfl) ?_
  refine va_get (D := D) (ci := 16) (v := .int 2) (C := RX12) (T := TX12) (N := 64) hx hb hts (by decide +kernel) hown hK hP 0 rfl rfl 1 (by decide) (hts (.fieldLink RX12 84 "SignetRingModel" "taped" "I") (by decide +kernel)) (fun _ h9 => h9) rfl dX12_add_44 ?_
  refine lv_lload_n hx hb dX12_add_47 rfl (lv_at hl 2 rfl) ?_
  refine lv_bipush (v := 8) hx hb dX12_add_48 (by decide) ?_
  refine lv_iload hx hb dX12_add_50 (lv_at hl 0 rfl) ?_
  refine lv_imul hx hb dX12_add_52 ?_
  refine lv_topi (fun v12 ev12 => ?_)
  have ev12 : v12 = 16 := ev12.trans (by decide +kernel)
  subst ev12
  refine lv_lshr hx hb dX12_add_53 rfl ?_
  refine lv_topl (fun v13 _ => ?_)
  refine lv_ldc2 (v := 255) hx hb hown (hts (.constantLong RX12 87 255) (by decide +kernel)) dX12_add_54 ?_
  refine lv_land hx hb dX12_add_57 ?_
  refine lv_topl (fun v14 _ => ?_)
  refine lv_l2i hx hb dX12_add_58 rfl ?_
  refine lv_topi (fun v15 _ => ?_)
  refine va_iast hx hb hK hP hD hS 1 1 rfl rfl (by unfold vp_in; decide) dX12_add_59 (fun H locs hP hD hS => ?_)
  have hP : va_P D vwCl [(h0, .inr (16, [.int 0, .int 2, .ref tp, w2, w3, w4, w5, w6, w7, w8, w9, w10, w11, w12, w13, w14, w15, w16, w17, w18, w19, w20, w21, w22, w23, w24, w25, w26, w27, w28, w29, w30, w31, w32, w33, w34, w35, w36, w37, w38, w39, w40, w41, w42, w43, w44, w45, w46, w47, w48, w49, w50, w51, w52, w53, w54, w55, w56, w57, w58, w59, w60, w61, w62])), (tp, .inl (y 1, 4096, .inl (upd (upd (upd f (0 : Int32).toNatClampNeg v5) (1 : Int32).toNatClampNeg v10) (2 : Int32).toNatClampNeg v15)))] H := hP
  have hD : va_D A [(h0, .inr (16, [.int 0, .int 2, .ref tp, w2, w3, w4, w5, w6, w7, w8, w9, w10, w11, w12, w13, w14, w15, w16, w17, w18, w19, w20, w21, w22, w23, w24, w25, w26, w27, w28, w29, w30, w31, w32, w33, w34, w35, w36, w37, w38, w39, w40, w41, w42, w43, w44, w45, w46, w47, w48, w49, w50, w51, w52, w53, w54, w55, w56, w57, w58, w59, w60, w61, w62])), (tp, .inl (y 1, 4096, .inl (upd (upd (upd f (0 : Int32).toNatClampNeg v5) (1 : Int32).toNatClampNeg v10) (2 : Int32).toNatClampNeg v15)))] := hD
  refine lv_aload_n hx hb dX12_add_60 rfl (lv_at hl 1 rfl) ?_
  refine lv_dup hx hb dX12_add_61 rfl ?_
  refine va_get (D := D) (ci := 16) (v := .int 2) (C := RX12) (T := TX12) (N := 64) hx hb hts (by decide +kernel) hown hK hP 0 rfl rfl 1 (by decide) (hts (.fieldLink RX12 84 "SignetRingModel" "taped" "I") (by decide +kernel)) (fun _ h9 => h9) rfl dX12_add_62 ?_
  refine lv_iconst (v := 1) hx hb dX12_add_65 (by decide) ?_
  refine lv_iadd hx hb dX12_add_66 ?_
  refine lv_topi (fun v16 ev16 => ?_)
  have ev16 : v16 = 3 := ev16.trans (by decide +kernel)
  subst ev16
  refine va_put (D := D) (ci := 16) (v := .int 3) (ty := .int) (C := RX12) (T := TX12) (N := 64) hx hb hts (by decide +kernel) tyX12 tyX12_ok nmX12 hown hK hP hD hS 0 rfl rfl 1 (by decide) (hts (.fieldLink RX12 84 "SignetRingModel" "taped" "I") (by decide +kernel)) (fun _ h9 => h9) rfl (by decide +kernel) rfl rfl (Nat.le_of_ble_eq_true rfl) dX12_add_67 (fun H locs hP hD hS => ?_)
  have hP : va_P D vwCl [(h0, .inr (16, [.int 0, .int 3, .ref tp, w2, w3, w4, w5, w6, w7, w8, w9, w10, w11, w12, w13, w14, w15, w16, w17, w18, w19, w20, w21, w22, w23, w24, w25, w26, w27, w28, w29, w30, w31, w32, w33, w34, w35, w36, w37, w38, w39, w40, w41, w42, w43, w44, w45, w46, w47, w48, w49, w50, w51, w52, w53, w54, w55, w56, w57, w58, w59, w60, w61, w62])), (tp, .inl (y 1, 4096, .inl (upd (upd (upd f (0 : Int32).toNatClampNeg v5) (1 : Int32).toNatClampNeg v10) (2 : Int32).toNatClampNeg v15)))] H := hP
  have hD : va_D A [(h0, .inr (16, [.int 0, .int 3, .ref tp, w2, w3, w4, w5, w6, w7, w8, w9, w10, w11, w12, w13, w14, w15, w16, w17, w18, w19, w20, w21, w22, w23, w24, w25, w26, w27, w28, w29, w30, w31, w32, w33, w34, w35, w36, w37, w38, w39, w40, w41, w42, w43, w44, w45, w46, w47, w48, w49, w50, w51, w52, w53, w54, w55, w56, w57, w58, w59, w60, w61, w62])), (tp, .inl (y 1, 4096, .inl (upd (upd (upd f (0 : Int32).toNatClampNeg v5) (1 : Int32).toNatClampNeg v10) (2 : Int32).toNatClampNeg v15)))] := hD
  refine lv_iinc (v := 3) (lv' := [(4, .int 3), (0, .ref h0), (1, .long wd), (3, .int 3)]) hx hb dX12_add_70 hl (k := 0) rfl (by decide) (by decide) rfl (fun ls hl => ?_)
  refine lv_goto (tgt := 33) hx hb dX12_add_73 (by decide) ?_
  refine lv_iload hx hb dX12_add_33 (lv_at hl 0 rfl) ?_
  refine lv_iload_n hx hb dX12_add_35 rfl (lv_at hl 3 rfl) ?_
  refine lv_icmp_ge (tgt := 76) hx hb dX12_add_36 (by decide) (fun _ => ?_) (fun c9 => absurd (by decide) c9)
  refine lv_iconst (v := 1) hx hb dX12_add_76 (by decide) ?_
  have hP9 := hP.sub (ws' := [(h0, .inr (16, [.int 0, .int 3, .ref tp, w2, w3, w4, w5, w6, w7, w8, w9, w10, w11, w12, w13, w14, w15, w16, w17, w18, w19, w20, w21, w22, w23, w24, w25, w26, w27, w28, w29, w30, w31, w32, w33, w34, w35, w36, w37, w38, w39, w40, w41, w42, w43, w44, w45, w46, w47, w48, w49, w50, w51, w52, w53, w54, w55, w56, w57, w58, w59, w60, w61, w62])), (tp, .inl (y 1, 4096, .inl (upd (upd (upd f (0 : Int32).toNatClampNeg v5) (1 : Int32).toNatClampNeg v10) (2 : Int32).toNatClampNeg v15)))]) [0, 1] rfl
  have hD9 := hD.sub (ws' := [(h0, .inr (16, [.int 0, .int 3, .ref tp, w2, w3, w4, w5, w6, w7, w8, w9, w10, w11, w12, w13, w14, w15, w16, w17, w18, w19, w20, w21, w22, w23, w24, w25, w26, w27, w28, w29, w30, w31, w32, w33, w34, w35, w36, w37, w38, w39, w40, w41, w42, w43, w44, w45, w46, w47, w48, w49, w50, w51, w52, w53, w54, w55, w56, w57, w58, w59, w60, w61, w62])), (tp, .inl (y 1, 4096, .inl (upd (upd (upd f (0 : Int32).toNatClampNeg v5) (1 : Int32).toNatClampNeg v10) (2 : Int32).toNatClampNeg v15)))]) [0, 1] (by decide) rfl
  refine W.widen (k := 0) (n := 0) (Nat.le_of_ble_eq_true rfl) (Nat.le_of_ble_eq_true rfl) ?_
  exact W.zret (v := 1) hx hb hr (by decide) (fun t ht hW => ⟨⟨1, (), rfl, rfl, (upd (upd (upd f (0 : Int32).toNatClampNeg v5) (1 : Int32).toNatClampNeg v10) (2 : Int32).toNatClampNeg v15), by rw [ht]; exact hP9, hD9⟩, hS.F ht⟩) hS.2.2 dX12_add_77
def wz_c_M_add_4 : List Cond := .code yX12_add cX12_add 5 (some .boolean) :: ([.fieldLink RX12 78 "SignetRingModel" "thrown" "I", .fieldLink RX12 84 "SignetRingModel" "taped" "I", .fieldLink RX12 7 "SignetRingModel" "tape" "[I", .constantLong RX12 87 255] ++ (wsX120 ++ ([])))
set_option maxHeartbeats 4000000 in
set_option maxRecDepth 100000 in
theorem c_M_add_4 (l : Launch) (D : va_G) (y : Nat → ClassId) (sz : Nat) (h0 : Nat) (tp : Nat) (w1 : Value) (w2 : Value) (w3 : Value) (w4 : Value) (w5 : Value) (w6 : Value) (w7 : Value) (w8 : Value) (w9 : Value) (w10 : Value) (w11 : Value) (w12 : Value) (w13 : Value) (w14 : Value) (w15 : Value) (w16 : Value) (w17 : Value) (w18 : Value) (w19 : Value) (w20 : Value) (w21 : Value) (w22 : Value) (w23 : Value) (w24 : Value) (w25 : Value) (w26 : Value) (w27 : Value) (w28 : Value) (w29 : Value) (w30 : Value) (w31 : Value) (w32 : Value) (w33 : Value) (w34 : Value) (w35 : Value) (w36 : Value) (w37 : Value) (w38 : Value) (w39 : Value) (w40 : Value) (w41 : Value) (w42 : Value) (w43 : Value) (w44 : Value) (w45 : Value) (w46 : Value) (w47 : Value) (w48 : Value) (w49 : Value) (w50 : Value) (w51 : Value) (w52 : Value) (w53 : Value) (w54 : Value) (w55 : Value) (w56 : Value) (w57 : Value) (w58 : Value) (w59 : Value) (w60 : Value) (w61 : Value) (w62 : Value) (f : Nat → Int32) (wd : Int64) : Met l yX12_add wz_c_M_add_4 ({ frames := 0, cells := 0, slots := 0, locals := 0 }) (va_Pc [.ref h0, .long wd, .int 4] (zB D y [(h0, .inr (16, [w1, .int 0, .ref tp, w2, w3, w4, w5, w6, w7, w8, w9, w10, w11, w12, w13, w14, w15, w16, w17, w18, w19, w20, w21, w22, w23, w24, w25, w26, w27, w28, w29, w30, w31, w32, w33, w34, w35, w36, w37, w38, w39, w40, w41, w42, w43, w44, w45, w46, w47, w48, w49, w50, w51, w52, w53, w54, w55, w56, w57, w58, w59, w60, w61, w62])), (tp, .inl (y 1, 4096, .inl f))] sz [] [] [] [])) (va_Qi (fun (r : Int32) (_ : Unit) => r = 1) (fun _ t => ∃ fz0 : Nat → Int32, va_P D vwCl [(h0, .inr (16, [.int 0, .int 4, .ref tp, w2, w3, w4, w5, w6, w7, w8, w9, w10, w11, w12, w13, w14, w15, w16, w17, w18, w19, w20, w21, w22, w23, w24, w25, w26, w27, w28, w29, w30, w31, w32, w33, w34, w35, w36, w37, w38, w39, w40, w41, w42, w43, w44, w45, w46, w47, w48, w49, w50, w51, w52, w53, w54, w55, w56, w57, w58, w59, w60, w61, w62])), (tp, .inl (y 1, 4096, .inl fz0))] t.heap ∧ va_D (va_A [(h0, .inr (16, [w1, .int 0, .ref tp, w2, w3, w4, w5, w6, w7, w8, w9, w10, w11, w12, w13, w14, w15, w16, w17, w18, w19, w20, w21, w22, w23, w24, w25, w26, w27, w28, w29, w30, w31, w32, w33, w34, w35, w36, w37, w38, w39, w40, w41, w42, w43, w44, w45, w46, w47, w48, w49, w50, w51, w52, w53, w54, w55, w56, w57, w58, w59, w60, w61, w62])), (tp, .inl (y 1, 4096, .inl f))] sz) [(h0, .inr (16, [.int 0, .int 4, .ref tp, w2, w3, w4, w5, w6, w7, w8, w9, w10, w11, w12, w13, w14, w15, w16, w17, w18, w19, w20, w21, w22, w23, w24, w25, w26, w27, w28, w29, w30, w31, w32, w33, w34, w35, w36, w37, w38, w39, w40, w41, w42, w43, w44, w45, w46, w47, w48, w49, w50, w51, w52, w53, w54, w55, w56, w57, w58, w59, w60, w61, w62])), (tp, .inl (y 1, 4096, .inl fz0))]) (va_A [(h0, .inr (16, [w1, .int 0, .ref tp, w2, w3, w4, w5, w6, w7, w8, w9, w10, w11, w12, w13, w14, w15, w16, w17, w18, w19, w20, w21, w22, w23, w24, w25, w26, w27, w28, w29, w30, w31, w32, w33, w34, w35, w36, w37, w38, w39, w40, w41, w42, w43, w44, w45, w46, w47, w48, w49, w50, w51, w52, w53, w54, w55, w56, w57, w58, w59, w60, w61, w62])), (tp, .inl (y 1, 4096, .inl f))] sz)) 0 0 (va_A [(h0, .inr (16, [w1, .int 0, .ref tp, w2, w3, w4, w5, w6, w7, w8, w9, w10, w11, w12, w13, w14, w15, w16, w17, w18, w19, w20, w21, w22, w23, w24, w25, w26, w27, w28, w29, w30, w31, w32, w33, w34, w35, w36, w37, w38, w39, w40, w41, w42, w43, w44, w45, w46, w47, w48, w49, w50, w51, w52, w53, w54, w55, w56, w57, w58, w59, w60, w61, w62])), (tp, .inl (y 1, 4096, .inl f))] sz) := by
  refine Met.ofW (cc := cX12_add) (maxL := 5) (ret := (some .boolean)) (by decide) rfl ?_
  intro p e s m args below meth c s₁ B hml hv
  obtain ⟨rfl, hsz, hP, hK, hD0, hN, hE, hO, hT, hG⟩ := hv
  have hx := B.exec
  have hb := B.bytes
  have hr := B.returns
  have hts := atoms_spec (ws := wz_c_M_add_4) B.pre
  have hown : s.vm.findClass RX12 = some m.cls := findClass_of_methodNamed B.named
  have hlocks := B.notSynchronized
  subst hsz
  have hD := hD0.self (sz := s.heap.size)
  generalize hAe : va_A [(h0, .inr (16, [w1, .int 0, .ref tp, w2, w3, w4, w5, w6, w7, w8, w9, w10, w11, w12, w13, w14, w15, w16, w17, w18, w19, w20, w21, w22, w23, w24, w25, w26, w27, w28, w29, w30, w31, w32, w33, w34, w35, w36, w37, w38, w39, w40, w41, w42, w43, w44, w45, w46, w47, w48, w49, w50, w51, w52, w53, w54, w55, w56, w57, w58, w59, w60, w61, w62])), (tp, .inl (y 1, 4096, .inl f))] s.heap.size = A at hD hE hT hG ⊢
  have hA : ∀ q : Nat, s.heap.size ≤ q → A q := fun q h => by rw [← hAe]; exact Or.inr h
  have hS : va_S A s.heap s.heap [] := va_S.rf
  have hl := lv_entry ([.ref h0, .long wd, .int 4]) (n := 5) (Nat.le_of_ble_eq_true rfl)
  rw [lg_entry_eq]
  generalize (lg_sl ([.ref h0, .long wd, .int 4]) ++ List.replicate (5 - (lg_sl ([.ref h0, .long wd, .int 4])).length) Slot.unset).toArray = ls at hl ⊢
  have hl : lv_has ls 5 [(0, .ref h0), (1, .long wd), (3, .int 4)] := hl
  refine lv_aload_n hx hb dX12_add_0 rfl (lv_at hl 0 rfl) ?_
  refine lv_iconst (v := 0) hx hb dX12_add_1 (by decide) ?_
  refine va_put (D := D) (ci := 16) (v := .int 0) (ty := .int) (C := RX12) (T := TX12) (N := 64) hx hb hts (by decide +kernel) tyX12 tyX12_ok nmX12 hown hK hP hD hS 0 rfl rfl 0 (by decide) (hts (.fieldLink RX12 78 "SignetRingModel" "thrown" "I") (by decide +kernel)) (fun _ h9 => h9) rfl (by decide +kernel) rfl rfl (Nat.le_of_ble_eq_true rfl) dX12_add_2 (fun H locs hP hD hS => ?_)
  have hP : va_P D vwCl [(h0, .inr (16, [.int 0, .int 0, .ref tp, w2, w3, w4, w5, w6, w7, w8, w9, w10, w11, w12, w13, w14, w15, w16, w17, w18, w19, w20, w21, w22, w23, w24, w25, w26, w27, w28, w29, w30, w31, w32, w33, w34, w35, w36, w37, w38, w39, w40, w41, w42, w43, w44, w45, w46, w47, w48, w49, w50, w51, w52, w53, w54, w55, w56, w57, w58, w59, w60, w61, w62])), (tp, .inl (y 1, 4096, .inl f))] H := hP
  have hD : va_D A [(h0, .inr (16, [.int 0, .int 0, .ref tp, w2, w3, w4, w5, w6, w7, w8, w9, w10, w11, w12, w13, w14, w15, w16, w17, w18, w19, w20, w21, w22, w23, w24, w25, w26, w27, w28, w29, w30, w31, w32, w33, w34, w35, w36, w37, w38, w39, w40, w41, w42, w43, w44, w45, w46, w47, w48, w49, w50, w51, w52, w53, w54, w55, w56, w57, w58, w59, w60, w61, w62])), (tp, .inl (y 1, 4096, .inl f))] := hD
  refine lv_iload_n hx hb dX12_add_5 rfl (lv_at hl 2 rfl) ?_
  refine lv_iconst (v := 1) hx hb dX12_add_6 (by decide) ?_
  refine lv_icmp_lt (tgt := 28) hx hb dX12_add_7 (by decide) (fun c9 => absurd c9 (by decide)) (fun _ => ?_)
  refine lv_iload_n hx hb dX12_add_10 rfl (lv_at hl 2 rfl) ?_
  refine lv_bipush (v := 8) hx hb dX12_add_11 (by decide) ?_
  refine lv_icmp_gt (tgt := 28) hx hb dX12_add_13 (by decide) (fun c9 => absurd c9 (by decide)) (fun _ => ?_)
  refine lv_aload_n hx hb dX12_add_16 rfl (lv_at hl 0 rfl) ?_
  refine va_get (D := D) (ci := 16) (v := .int 0) (C := RX12) (T := TX12) (N := 64) hx hb hts (by decide +kernel) hown hK hP 0 rfl rfl 1 (by decide) (hts (.fieldLink RX12 84 "SignetRingModel" "taped" "I") (by decide +kernel)) (fun _ h9 => h9) rfl dX12_add_17 ?_
  refine lv_iload_n hx hb dX12_add_20 rfl (lv_at hl 2 rfl) ?_
  refine lv_iadd hx hb dX12_add_21 ?_
  refine lv_topi (fun v1 ev1 => ?_)
  have ev1 : v1 = 4 := ev1.trans (by decide +kernel)
  subst ev1
  refine lv_sipush (v := 4096) hx hb dX12_add_22 (by decide) ?_
  refine lv_icmp_le (tgt := 30) hx hb dX12_add_25 (by decide) (fun _ => ?_) (fun c9 => absurd (by decide) c9)
  refine lv_iconst (v := 0) hx hb dX12_add_30 (by decide) ?_
  refine lv_istore (lv' := [(4, .int 0), (0, .ref h0), (1, .long wd), (3, .int 4)]) hx hb dX12_add_31 hl (by decide) rfl (fun ls hl => ?_)
  refine lv_iload hx hb dX12_add_33 (lv_at hl 0 rfl) ?_
  refine lv_iload_n hx hb dX12_add_35 rfl (lv_at hl 3 rfl) ?_
  refine lv_icmp_ge (tgt := 76) hx hb dX12_add_36 (by decide) (fun c9 => absurd c9 (by decide)) (fun _ => ?_)
  refine lv_aload_n hx hb dX12_add_39 rfl (lv_at hl 1 rfl) ?_
  refine va_get (D := D) (ci := 16) (v := .ref tp) (C := RX12) (T := TX12) (N := 64) hx hb hts (by decide +kernel) hown hK hP 0 rfl rfl 2 (by decide) (hts (.fieldLink RX12 7 "SignetRingModel" "tape" "[I") (by decide +kernel)) (fun _ h9 => h9) rfl dX12_add_40 ?_
  refine lv_aload_n hx hb dX12_add_43 rfl (lv_at hl 1 rfl) ?_
  refine va_get (D := D) (ci := 16) (v := .int 0) (C := RX12) (T := TX12) (N := 64) hx hb hts (by decide +kernel) hown hK hP 0 rfl rfl 1 (by decide) (hts (.fieldLink RX12 84 "SignetRingModel" "taped" "I") (by decide +kernel)) (fun _ h9 => h9) rfl dX12_add_44 ?_
  refine lv_lload_n hx hb dX12_add_47 rfl (lv_at hl 2 rfl) ?_
  refine lv_bipush (v := 8) hx hb dX12_add_48 (by decide) ?_
  refine lv_iload hx hb dX12_add_50 (lv_at hl 0 rfl) ?_
  refine lv_imul hx hb dX12_add_52 ?_
  refine lv_topi (fun v2 ev2 => ?_)
  have ev2 : v2 = 0 := ev2.trans (by decide +kernel)
  subst ev2
  refine lv_lshr hx hb dX12_add_53 rfl ?_
  refine lv_topl (fun v3 _ => ?_)
  refine lv_ldc2 (v := 255) hx hb hown (hts (.constantLong RX12 87 255) (by decide +kernel)) dX12_add_54 ?_
  refine lv_land hx hb dX12_add_57 ?_
  refine lv_topl (fun v4 _ => ?_)
  refine lv_l2i hx hb dX12_add_58 rfl ?_
  refine lv_topi (fun v5 _ => ?_)
  refine va_iast hx hb hK hP hD hS 1 1 rfl rfl (by unfold vp_in; decide) dX12_add_59 (fun H locs hP hD hS => ?_)
  have hP : va_P D vwCl [(h0, .inr (16, [.int 0, .int 0, .ref tp, w2, w3, w4, w5, w6, w7, w8, w9, w10, w11, w12, w13, w14, w15, w16, w17, w18, w19, w20, w21, w22, w23, w24, w25, w26, w27, w28, w29, w30, w31, w32, w33, w34, w35, w36, w37, w38, w39, w40, w41, w42, w43, w44, w45, w46, w47, w48, w49, w50, w51, w52, w53, w54, w55, w56, w57, w58, w59, w60, w61, w62])), (tp, .inl (y 1, 4096, .inl (upd f (0 : Int32).toNatClampNeg v5)))] H := hP
  have hD : va_D A [(h0, .inr (16, [.int 0, .int 0, .ref tp, w2, w3, w4, w5, w6, w7, w8, w9, w10, w11, w12, w13, w14, w15, w16, w17, w18, w19, w20, w21, w22, w23, w24, w25, w26, w27, w28, w29, w30, w31, w32, w33, w34, w35, w36, w37, w38, w39, w40, w41, w42, w43, w44, w45, w46, w47, w48, w49, w50, w51, w52, w53, w54, w55, w56, w57, w58, w59, w60, w61, w62])), (tp, .inl (y 1, 4096, .inl (upd f (0 : Int32).toNatClampNeg v5)))] := hD
  refine lv_aload_n hx hb dX12_add_60 rfl (lv_at hl 1 rfl) ?_
  refine lv_dup hx hb dX12_add_61 rfl ?_
  refine va_get (D := D) (ci := 16) (v := .int 0) (C := RX12) (T := TX12) (N := 64) hx hb hts (by decide +kernel) hown hK hP 0 rfl rfl 1 (by decide) (hts (.fieldLink RX12 84 "SignetRingModel" "taped" "I") (by decide +kernel)) (fun _ h9 => h9) rfl dX12_add_62 ?_
  refine lv_iconst (v := 1) hx hb dX12_add_65 (by decide) ?_
  refine lv_iadd hx hb dX12_add_66 ?_
  refine lv_topi (fun v6 ev6 => ?_)
  have ev6 : v6 = 1 := ev6.trans (by decide +kernel)
  subst ev6
  refine va_put (D := D) (ci := 16) (v := .int 1) (ty := .int) (C := RX12) (T := TX12) (N := 64) hx hb hts (by decide +kernel) tyX12 tyX12_ok nmX12 hown hK hP hD hS 0 rfl rfl 1 (by decide) (hts (.fieldLink RX12 84 "SignetRingModel" "taped" "I") (by decide +kernel)) (fun _ h9 => h9) rfl (by decide +kernel) rfl rfl (Nat.le_of_ble_eq_true rfl) dX12_add_67 (fun H locs hP hD hS => ?_)
  have hP : va_P D vwCl [(h0, .inr (16, [.int 0, .int 1, .ref tp, w2, w3, w4, w5, w6, w7, w8, w9, w10, w11, w12, w13, w14, w15, w16, w17, w18, w19, w20, w21, w22, w23, w24, w25, w26, w27, w28, w29, w30, w31, w32, w33, w34, w35, w36, w37, w38, w39, w40, w41, w42, w43, w44, w45, w46, w47, w48, w49, w50, w51, w52, w53, w54, w55, w56, w57, w58, w59, w60, w61, w62])), (tp, .inl (y 1, 4096, .inl (upd f (0 : Int32).toNatClampNeg v5)))] H := hP
  have hD : va_D A [(h0, .inr (16, [.int 0, .int 1, .ref tp, w2, w3, w4, w5, w6, w7, w8, w9, w10, w11, w12, w13, w14, w15, w16, w17, w18, w19, w20, w21, w22, w23, w24, w25, w26, w27, w28, w29, w30, w31, w32, w33, w34, w35, w36, w37, w38, w39, w40, w41, w42, w43, w44, w45, w46, w47, w48, w49, w50, w51, w52, w53, w54, w55, w56, w57, w58, w59, w60, w61, w62])), (tp, .inl (y 1, 4096, .inl (upd f (0 : Int32).toNatClampNeg v5)))] := hD
  refine lv_iinc (v := 1) (lv' := [(4, .int 1), (0, .ref h0), (1, .long wd), (3, .int 4)]) hx hb dX12_add_70 hl (k := 0) rfl (by decide) (by decide) rfl (fun ls hl => ?_)
  refine lv_goto (tgt := 33) hx hb dX12_add_73 (by decide) ?_
  refine lv_iload hx hb dX12_add_33 (lv_at hl 0 rfl) ?_
  refine lv_iload_n hx hb dX12_add_35 rfl (lv_at hl 3 rfl) ?_
  refine lv_icmp_ge (tgt := 76) hx hb dX12_add_36 (by decide) (fun c9 => absurd c9 (by decide)) (fun _ => ?_)
  refine lv_aload_n hx hb dX12_add_39 rfl (lv_at hl 1 rfl) ?_
  refine va_get (D := D) (ci := 16) (v := .ref tp) (C := RX12) (T := TX12) (N := 64) hx hb hts (by decide +kernel) hown hK hP 0 rfl rfl 2 (by decide) (hts (.fieldLink RX12 7 "SignetRingModel" "tape" "[I") (by decide +kernel)) (fun _ h9 => h9) rfl dX12_add_40 ?_
  refine lv_aload_n hx hb dX12_add_43 rfl (lv_at hl 1 rfl) ?_
  refine va_get (D := D) (ci := 16) (v := .int 1) (C := RX12) (T := TX12) (N := 64) hx hb hts (by decide +kernel) hown hK hP 0 rfl rfl 1 (by decide) (hts (.fieldLink RX12 84 "SignetRingModel" "taped" "I") (by decide +kernel)) (fun _ h9 => h9) rfl dX12_add_44 ?_
  refine lv_lload_n hx hb dX12_add_47 rfl (lv_at hl 2 rfl) ?_
  refine lv_bipush (v := 8) hx hb dX12_add_48 (by decide) ?_
  refine lv_iload hx hb dX12_add_50 (lv_at hl 0 rfl) ?_
  refine lv_imul hx hb dX12_add_52 ?_
  refine lv_topi (fun v7 ev7 => ?_)
  have ev7 : v7 = 8 := ev7.trans (by decide +kernel)
  subst ev7
  refine lv_lshr hx hb dX12_add_53 rfl ?_
  refine lv_topl (fun v8 _ => ?_)
  refine lv_ldc2 (v := 255) hx hb hown (hts (.constantLong RX12 87 255) (by decide +kernel)) dX12_add_54 ?_
  refine lv_land hx hb dX12_add_57 ?_
  refine lv_topl (fun v9 _ => ?_)
  refine lv_l2i hx hb dX12_add_58 rfl ?_
  refine lv_topi (fun v10 _ => ?_)
  refine va_iast hx hb hK hP hD hS 1 1 rfl rfl (by unfold vp_in; decide) dX12_add_59 (fun H locs hP hD hS => ?_)
  have hP : va_P D vwCl [(h0, .inr (16, [.int 0, .int 1, .ref tp, w2, w3, w4, w5, w6, w7, w8, w9, w10, w11, w12, w13, w14, w15, w16, w17, w18, w19, w20, w21, w22, w23, w24, w25, w26, w27, w28, w29, w30, w31, w32, w33, w34, w35, w36, w37, w38, w39, w40, w41, w42, w43, w44, w45, w46, w47, w48, w49, w50, w51, w52, w53, w54, w55, w56, w57, w58, w59, w60, w61, w62])), (tp, .inl (y 1, 4096, .inl (upd (upd f (0 : Int32).toNatClampNeg v5) (1 : Int32).toNatClampNeg v10)))] H := hP
  have hD : va_D A [(h0, .inr (16, [.int 0, .int 1, .ref tp, w2, w3, w4, w5, w6, w7, w8, w9, w10, w11, w12, w13, w14, w15, w16, w17, w18, w19, w20, w21, w22, w23, w24, w25, w26, w27, w28, w29, w30, w31, w32, w33, w34, w35, w36, w37, w38, w39, w40, w41, w42, w43, w44, w45, w46, w47, w48, w49, w50, w51, w52, w53, w54, w55, w56, w57, w58, w59, w60, w61, w62])), (tp, .inl (y 1, 4096, .inl (upd (upd f (0 : Int32).toNatClampNeg v5) (1 : Int32).toNatClampNeg v10)))] := hD
  refine lv_aload_n hx hb dX12_add_60 rfl (lv_at hl 1 rfl) ?_
  refine lv_dup hx hb dX12_add_61 rfl ?_
  refine va_get (D := D) (ci := 16) (v := .int 1) (C := RX12) (T := TX12) (N := 64) hx hb hts (by decide +kernel) hown hK hP 0 rfl rfl 1 (by decide) (hts (.fieldLink RX12 84 "SignetRingModel" "taped" "I") (by decide +kernel)) (fun _ h9 => h9) rfl dX12_add_62 ?_
  refine lv_iconst (v := 1) hx hb dX12_add_65 (by decide) ?_
  refine lv_iadd hx hb dX12_add_66 ?_
  refine lv_topi (fun v11 ev11 => ?_)
  have ev11 : v11 = 2 := ev11.trans (by decide +kernel)
  subst ev11
  refine va_put (D := D) (ci := 16) (v := .int 2) (ty := .int) (C := RX12) (T := TX12) (N := 64) hx hb hts (by decide +kernel) tyX12 tyX12_ok nmX12 hown hK hP hD hS 0 rfl rfl 1 (by decide) (hts (.fieldLink RX12 84 "SignetRingModel" "taped" "I") (by decide +kernel)) (fun _ h9 => h9) rfl (by decide +kernel) rfl rfl (Nat.le_of_ble_eq_true rfl) dX12_add_67 (fun H locs hP hD hS => ?_)
  have hP : va_P D vwCl [(h0, .inr (16, [.int 0, .int 2, .ref tp, w2, w3, w4, w5, w6, w7, w8, w9, w10, w11, w12, w13, w14, w15, w16, w17, w18, w19, w20, w21, w22, w23, w24, w25, w26, w27, w28, w29, w30, w31, w32, w33, w34, w35, w36, w37, w38, w39, w40, w41, w42, w43, w44, w45, w46, w47, w48, w49, w50, w51, w52, w53, w54, w55, w56, w57, w58, w59, w60, w61, w62])), (tp, .inl (y 1, 4096, .inl (upd (upd f (0 : Int32).toNatClampNeg v5) (1 : Int32).toNatClampNeg v10)))] H := hP
  have hD : va_D A [(h0, .inr (16, [.int 0, .int 2, .ref tp, w2, w3, w4, w5, w6, w7, w8, w9, w10, w11, w12, w13, w14, w15, w16, w17, w18, w19, w20, w21, w22, w23, w24, w25, w26, w27, w28, w29, w30, w31, w32, w33, w34, w35, w36, w37, w38, w39, w40, w41, w42, w43, w44, w45, w46, w47, w48, w49, w50, w51, w52, w53, w54, w55, w56, w57, w58, w59, w60, w61, w62])), (tp, .inl (y 1, 4096, .inl (upd (upd f (0 : Int32).toNatClampNeg v5) (1 : Int32).toNatClampNeg v10)))] := hD
  refine lv_iinc (v := 2) (lv' := [(4, .int 2), (0, .ref h0), (1, .long wd), (3, .int 4)]) hx hb dX12_add_70 hl (k := 0) rfl (by decide) (by decide) rfl (fun ls hl => ?_)
  refine lv_goto (tgt := 33) hx hb dX12_add_73 (by decide) ?_
  refine lv_iload hx hb dX12_add_33 (lv_at hl 0 rfl) ?_
  refine lv_iload_n hx hb dX12_add_35 rfl (lv_at hl 3 rfl) ?_
  refine lv_icmp_ge (tgt := 76) hx hb dX12_add_36 (by decide) (fun c9 => absurd c9 (by decide)) (fun _ => ?_)
  refine lv_aload_n hx hb dX12_add_39 rfl (lv_at hl 1 rfl) ?_
  refine va_get (D := D) (ci := 16) (v := .ref tp) (C := RX12) (T := TX12) (N := 64) hx hb hts (by decide +kernel) hown hK hP 0 rfl rfl 2 (by decide) (hts (.fieldLink RX12 7 "SignetRingModel" "tape" "[I") (by decide +kernel)) (fun _ h9 => h9) rfl dX12_add_40 ?_
  refine lv_aload_n hx hb dX12_add_43 rfl (lv_at hl 1 rfl) ?_
  refine va_get (D := D) (ci := 16) (v := .int 2) (C := RX12) (T := TX12) (N := 64) hx hb hts (by decide +kernel) hown hK hP 0 rfl rfl 1 (by decide) (hts (.fieldLink RX12 84 "SignetRingModel" "taped" "I") (by decide +kernel)) (fun _ h9 => h9) rfl dX12_add_44 ?_
  refine lv_lload_n hx hb dX12_add_47 rfl (lv_at hl 2 rfl) ?_
  refine lv_bipush (v := 8) hx hb dX12_add_48 (by decide) ?_
  refine lv_iload hx hb dX12_add_50 (lv_at hl 0 rfl) ?_
  refine lv_imul hx hb dX12_add_52 ?_
  refine lv_topi (fun v12 ev12 => ?_)
  have ev12 : v12 = 16 := ev12.trans (by decide +kernel)
  subst ev12
  refine lv_lshr hx hb dX12_add_53 rfl ?_
  refine lv_topl (fun v13 _ => ?_)
  refine lv_ldc2 (v := 255) hx hb hown (hts (.constantLong RX12 87 255) (by decide +kernel)) dX12_add_54 ?_
  refine lv_land hx hb dX12_add_57 ?_
  refine lv_topl (fun v14 _ => ?_)
  refine lv_l2i hx hb dX12_add_58 rfl ?_
  refine lv_topi (fun v15 _ => ?_)
  refine va_iast hx hb hK hP hD hS 1 1 rfl rfl (by unfold vp_in; decide) dX12_add_59 (fun H locs hP hD hS => ?_)
  have hP : va_P D vwCl [(h0, .inr (16, [.int 0, .int 2, .ref tp, w2, w3, w4, w5, w6, w7, w8, w9, w10, w11, w12, w13, w14, w15, w16, w17, w18, w19, w20, w21, w22, w23, w24, w25, w26, w27, w28, w29, w30, w31, w32, w33, w34, w35, w36, w37, w38, w39, w40, w41, w42, w43, w44, w45, w46, w47, w48, w49, w50, w51, w52, w53, w54, w55, w56, w57, w58, w59, w60, w61, w62])), (tp, .inl (y 1, 4096, .inl (upd (upd (upd f (0 : Int32).toNatClampNeg v5) (1 : Int32).toNatClampNeg v10) (2 : Int32).toNatClampNeg v15)))] H := hP
  have hD : va_D A [(h0, .inr (16, [.int 0, .int 2, .ref tp, w2, w3, w4, w5, w6, w7, w8, w9, w10, w11, w12, w13, w14, w15, w16, w17, w18, w19, w20, w21, w22, w23, w24, w25, w26, w27, w28, w29, w30, w31, w32, w33, w34, w35, w36, w37, w38, w39, w40, w41, w42, w43, w44, w45, w46, w47, w48, w49, w50, w51, w52, w53, w54, w55, w56, w57, w58, w59, w60, w61, w62])), (tp, .inl (y 1, 4096, .inl (upd (upd (upd f (0 : Int32).toNatClampNeg v5) (1 : Int32).toNatClampNeg v10) (2 : Int32).toNatClampNeg v15)))] := hD
  refine lv_aload_n hx hb dX12_add_60 rfl (lv_at hl 1 rfl) ?_
  refine lv_dup hx hb dX12_add_61 rfl ?_
  refine va_get (D := D) (ci := 16) (v := .int 2) (C := RX12) (T := TX12) (N := 64) hx hb hts (by decide +kernel) hown hK hP 0 rfl rfl 1 (by decide) (hts (.fieldLink RX12 84 "SignetRingModel" "taped" "I") (by decide +kernel)) (fun _ h9 => h9) rfl dX12_add_62 ?_
  refine lv_iconst (v := 1) hx hb dX12_add_65 (by decide) ?_
  refine lv_iadd hx hb dX12_add_66 ?_
  refine lv_topi (fun v16 ev16 => ?_)
  have ev16 : v16 = 3 := ev16.trans (by decide +kernel)
  subst ev16
  refine va_put (D := D) (ci := 16) (v := .int 3) (ty := .int) (C := RX12) (T := TX12) (N := 64) hx hb hts (by decide +kernel) tyX12 tyX12_ok nmX12 hown hK hP hD hS 0 rfl rfl 1 (by decide) (hts (.fieldLink RX12 84 "SignetRingModel" "taped" "I") (by decide +kernel)) (fun _ h9 => h9) rfl (by decide +kernel) rfl rfl (Nat.le_of_ble_eq_true rfl) dX12_add_67 (fun H locs hP hD hS => ?_)
  have hP : va_P D vwCl [(h0, .inr (16, [.int 0, .int 3, .ref tp, w2, w3, w4, w5, w6, w7, w8, w9, w10, w11, w12, w13, w14, w15, w16, w17, w18, w19, w20, w21, w22, w23, w24, w25, w26, w27, w28, w29, w30, w31, w32, w33, w34, w35, w36, w37, w38, w39, w40, w41, w42, w43, w44, w45, w46, w47, w48, w49, w50, w51, w52, w53, w54, w55, w56, w57, w58, w59, w60, w61, w62])), (tp, .inl (y 1, 4096, .inl (upd (upd (upd f (0 : Int32).toNatClampNeg v5) (1 : Int32).toNatClampNeg v10) (2 : Int32).toNatClampNeg v15)))] H := hP
  have hD : va_D A [(h0, .inr (16, [.int 0, .int 3, .ref tp, w2, w3, w4, w5, w6, w7, w8, w9, w10, w11, w12, w13, w14, w15, w16, w17, w18, w19, w20, w21, w22, w23, w24, w25, w26, w27, w28, w29, w30, w31, w32, w33, w34, w35, w36, w37, w38, w39, w40, w41, w42, w43, w44, w45, w46, w47, w48, w49, w50, w51, w52, w53, w54, w55, w56, w57, w58, w59, w60, w61, w62])), (tp, .inl (y 1, 4096, .inl (upd (upd (upd f (0 : Int32).toNatClampNeg v5) (1 : Int32).toNatClampNeg v10) (2 : Int32).toNatClampNeg v15)))] := hD
  refine lv_iinc (v := 3) (lv' := [(4, .int 3), (0, .ref h0), (1, .long wd), (3, .int 4)]) hx hb dX12_add_70 hl (k := 0) rfl (by decide) (by decide) rfl (fun ls hl => ?_)
  refine lv_goto (tgt := 33) hx hb dX12_add_73 (by decide) ?_
  refine lv_iload hx hb dX12_add_33 (lv_at hl 0 rfl) ?_
  refine lv_iload_n hx hb dX12_add_35 rfl (lv_at hl 3 rfl) ?_
  refine lv_icmp_ge (tgt := 76) hx hb dX12_add_36 (by decide) (fun c9 => absurd c9 (by decide)) (fun _ => ?_)
  refine lv_aload_n hx hb dX12_add_39 rfl (lv_at hl 1 rfl) ?_
  refine va_get (D := D) (ci := 16) (v := .ref tp) (C := RX12) (T := TX12) (N := 64) hx hb hts (by decide +kernel) hown hK hP 0 rfl rfl 2 (by decide) (hts (.fieldLink RX12 7 "SignetRingModel" "tape" "[I") (by decide +kernel)) (fun _ h9 => h9) rfl dX12_add_40 ?_
  refine lv_aload_n hx hb dX12_add_43 rfl (lv_at hl 1 rfl) ?_
  refine va_get (D := D) (ci := 16) (v := .int 3) (C := RX12) (T := TX12) (N := 64) hx hb hts (by decide +kernel) hown hK hP 0 rfl rfl 1 (by decide) (hts (.fieldLink RX12 84 "SignetRingModel" "taped" "I") (by decide +kernel)) (fun _ h9 => h9) rfl dX12_add_44 ?_
  refine lv_lload_n hx hb dX12_add_47 rfl (lv_at hl 2 rfl) ?_
  refine lv_bipush (v := 8) hx hb dX12_add_48 (by decide) ?_
  refine lv_iload hx hb dX12_add_50 (lv_at hl 0 rfl) ?_
  refine lv_imul hx hb dX12_add_52 ?_
  refine lv_topi (fun v17 ev17 => ?_)
  have ev17 : v17 = 24 := ev17.trans (by decide +kernel)
  subst ev17
  refine lv_lshr hx hb dX12_add_53 rfl ?_
  refine lv_topl (fun v18 _ => ?_)
  refine lv_ldc2 (v := 255) hx hb hown (hts (.constantLong RX12 87 255) (by decide +kernel)) dX12_add_54 ?_
  refine lv_land hx hb dX12_add_57 ?_
  refine lv_topl (fun v19 _ => ?_)
  refine lv_l2i hx hb dX12_add_58 rfl ?_
  refine lv_topi (fun v20 _ => ?_)
  refine va_iast hx hb hK hP hD hS 1 1 rfl rfl (by unfold vp_in; decide) dX12_add_59 (fun H locs hP hD hS => ?_)
  have hP : va_P D vwCl [(h0, .inr (16, [.int 0, .int 3, .ref tp, w2, w3, w4, w5, w6, w7, w8, w9, w10, w11, w12, w13, w14, w15, w16, w17, w18, w19, w20, w21, w22, w23, w24, w25, w26, w27, w28, w29, w30, w31, w32, w33, w34, w35, w36, w37, w38, w39, w40, w41, w42, w43, w44, w45, w46, w47, w48, w49, w50, w51, w52, w53, w54, w55, w56, w57, w58, w59, w60, w61, w62])), (tp, .inl (y 1, 4096, .inl (upd (upd (upd (upd f (0 : Int32).toNatClampNeg v5) (1 : Int32).toNatClampNeg v10) (2 : Int32).toNatClampNeg v15) (3 : Int32).toNatClampNeg v20)))] H := hP
  have hD : va_D A [(h0, .inr (16, [.int 0, .int 3, .ref tp, w2, w3, w4, w5, w6, w7, w8, w9, w10, w11, w12, w13, w14, w15, w16, w17, w18, w19, w20, w21, w22, w23, w24, w25, w26, w27, w28, w29, w30, w31, w32, w33, w34, w35, w36, w37, w38, w39, w40, w41, w42, w43, w44, w45, w46, w47, w48, w49, w50, w51, w52, w53, w54, w55, w56, w57, w58, w59, w60, w61, w62])), (tp, .inl (y 1, 4096, .inl (upd (upd (upd (upd f (0 : Int32).toNatClampNeg v5) (1 : Int32).toNatClampNeg v10) (2 : Int32).toNatClampNeg v15) (3 : Int32).toNatClampNeg v20)))] := hD
  refine lv_aload_n hx hb dX12_add_60 rfl (lv_at hl 1 rfl) ?_
  refine lv_dup hx hb dX12_add_61 rfl ?_
  refine va_get (D := D) (ci := 16) (v := .int 3) (C := RX12) (T := TX12) (N := 64) hx hb hts (by decide +kernel) hown hK hP 0 rfl rfl 1 (by decide) (hts (.fieldLink RX12 84 "SignetRingModel" "taped" "I") (by decide +kernel)) (fun _ h9 => h9) rfl dX12_add_62 ?_
  refine lv_iconst (v := 1) hx hb dX12_add_65 (by decide) ?_
  refine lv_iadd hx hb dX12_add_66 ?_
  refine lv_topi (fun v21 ev21 => ?_)
  have ev21 : v21 = 4 := ev21.trans (by decide +kernel)
  subst ev21
  refine va_put (D := D) (ci := 16) (v := .int 4) (ty := .int) (C := RX12) (T := TX12) (N := 64) hx hb hts (by decide +kernel) tyX12 tyX12_ok nmX12 hown hK hP hD hS 0 rfl rfl 1 (by decide) (hts (.fieldLink RX12 84 "SignetRingModel" "taped" "I") (by decide +kernel)) (fun _ h9 => h9) rfl (by decide +kernel) rfl rfl (Nat.le_of_ble_eq_true rfl) dX12_add_67 (fun H locs hP hD hS => ?_)
  have hP : va_P D vwCl [(h0, .inr (16, [.int 0, .int 4, .ref tp, w2, w3, w4, w5, w6, w7, w8, w9, w10, w11, w12, w13, w14, w15, w16, w17, w18, w19, w20, w21, w22, w23, w24, w25, w26, w27, w28, w29, w30, w31, w32, w33, w34, w35, w36, w37, w38, w39, w40, w41, w42, w43, w44, w45, w46, w47, w48, w49, w50, w51, w52, w53, w54, w55, w56, w57, w58, w59, w60, w61, w62])), (tp, .inl (y 1, 4096, .inl (upd (upd (upd (upd f (0 : Int32).toNatClampNeg v5) (1 : Int32).toNatClampNeg v10) (2 : Int32).toNatClampNeg v15) (3 : Int32).toNatClampNeg v20)))] H := hP
  have hD : va_D A [(h0, .inr (16, [.int 0, .int 4, .ref tp, w2, w3, w4, w5, w6, w7, w8, w9, w10, w11, w12, w13, w14, w15, w16, w17, w18, w19, w20, w21, w22, w23, w24, w25, w26, w27, w28, w29, w30, w31, w32, w33, w34, w35, w36, w37, w38, w39, w40, w41, w42, w43, w44, w45, w46, w47, w48, w49, w50, w51, w52, w53, w54, w55, w56, w57, w58, w59, w60, w61, w62])), (tp, .inl (y 1, 4096, .inl (upd (upd (upd (upd f (0 : Int32).toNatClampNeg v5) (1 : Int32).toNatClampNeg v10) (2 : Int32).toNatClampNeg v15) (3 : Int32).toNatClampNeg v20)))] := hD
  refine lv_iinc (v := 4) (lv' := [(4, .int 4), (0, .ref h0), (1, .long wd), (3, .int 4)]) hx hb dX12_add_70 hl (k := 0) rfl (by decide) (by decide) rfl (fun ls hl => ?_)
  refine lv_goto (tgt := 33) hx hb dX12_add_73 (by decide) ?_
  refine lv_iload hx hb dX12_add_33 (lv_at hl 0 rfl) ?_
  refine lv_iload_n hx hb dX12_add_35 rfl (lv_at hl 3 rfl) ?_
  refine lv_icmp_ge (tgt := 76) hx hb dX12_add_36 (by decide) (fun _ => ?_) (fun c9 => absurd (by decide) c9)
  refine lv_iconst (v := 1) hx hb dX12_add_76 (by decide) ?_
  have hP9 := hP.sub (ws' := [(h0, .inr (16, [.int 0, .int 4, .ref tp, w2, w3, w4, w5, w6, w7, w8, w9, w10, w11, w12, w13, w14, w15, w16, w17, w18, w19, w20, w21, w22, w23, w24, w25, w26, w27, w28, w29, w30, w31, w32, w33, w34, w35, w36, w37, w38, w39, w40, w41, w42, w43, w44, w45, w46, w47, w48, w49, w50, w51, w52, w53, w54, w55, w56, w57, w58, w59, w60, w61, w62])), (tp, .inl (y 1, 4096, .inl (upd (upd (upd (upd f (0 : Int32).toNatClampNeg v5) (1 : Int32).toNatClampNeg v10) (2 : Int32).toNatClampNeg v15) (3 : Int32).toNatClampNeg v20)))]) [0, 1] rfl
  have hD9 := hD.sub (ws' := [(h0, .inr (16, [.int 0, .int 4, .ref tp, w2, w3, w4, w5, w6, w7, w8, w9, w10, w11, w12, w13, w14, w15, w16, w17, w18, w19, w20, w21, w22, w23, w24, w25, w26, w27, w28, w29, w30, w31, w32, w33, w34, w35, w36, w37, w38, w39, w40, w41, w42, w43, w44, w45, w46, w47, w48, w49, w50, w51, w52, w53, w54, w55, w56, w57, w58, w59, w60, w61, w62])), (tp, .inl (y 1, 4096, .inl (upd (upd (upd (upd f (0 : Int32).toNatClampNeg v5) (1 : Int32).toNatClampNeg v10) (2 : Int32).toNatClampNeg v15) (3 : Int32).toNatClampNeg v20)))]) [0, 1] (by decide) rfl
  refine W.widen (k := 0) (n := 0) (Nat.le_of_ble_eq_true rfl) (Nat.le_of_ble_eq_true rfl) ?_
  exact W.zret (v := 1) hx hb hr (by decide) (fun t ht hW => ⟨⟨1, (), rfl, rfl, (upd (upd (upd (upd f (0 : Int32).toNatClampNeg v5) (1 : Int32).toNatClampNeg v10) (2 : Int32).toNatClampNeg v15) (3 : Int32).toNatClampNeg v20), by rw [ht]; exact hP9, hD9⟩, hS.F ht⟩) hS.2.2 dX12_add_77
def wz_c_M_add_5 : List Cond := .code yX12_add cX12_add 5 (some .boolean) :: ([.fieldLink RX12 78 "SignetRingModel" "thrown" "I", .fieldLink RX12 84 "SignetRingModel" "taped" "I", .fieldLink RX12 7 "SignetRingModel" "tape" "[I", .constantLong RX12 87 255] ++ (wsX120 ++ ([])))
set_option maxHeartbeats 4000000 in
set_option maxRecDepth 100000 in
theorem c_M_add_5 (l : Launch) (D : va_G) (y : Nat → ClassId) (sz : Nat) (h0 : Nat) (tp : Nat) (w1 : Value) (w2 : Value) (w3 : Value) (w4 : Value) (w5 : Value) (w6 : Value) (w7 : Value) (w8 : Value) (w9 : Value) (w10 : Value) (w11 : Value) (w12 : Value) (w13 : Value) (w14 : Value) (w15 : Value) (w16 : Value) (w17 : Value) (w18 : Value) (w19 : Value) (w20 : Value) (w21 : Value) (w22 : Value) (w23 : Value) (w24 : Value) (w25 : Value) (w26 : Value) (w27 : Value) (w28 : Value) (w29 : Value) (w30 : Value) (w31 : Value) (w32 : Value) (w33 : Value) (w34 : Value) (w35 : Value) (w36 : Value) (w37 : Value) (w38 : Value) (w39 : Value) (w40 : Value) (w41 : Value) (w42 : Value) (w43 : Value) (w44 : Value) (w45 : Value) (w46 : Value) (w47 : Value) (w48 : Value) (w49 : Value) (w50 : Value) (w51 : Value) (w52 : Value) (w53 : Value) (w54 : Value) (w55 : Value) (w56 : Value) (w57 : Value) (w58 : Value) (w59 : Value) (w60 : Value) (w61 : Value) (w62 : Value) (f : Nat → Int32) (wd : Int64) : Met l yX12_add wz_c_M_add_5 ({ frames := 0, cells := 0, slots := 0, locals := 0 }) (va_Pc [.ref h0, .long wd, .int 5] (zB D y [(h0, .inr (16, [w1, .int 0, .ref tp, w2, w3, w4, w5, w6, w7, w8, w9, w10, w11, w12, w13, w14, w15, w16, w17, w18, w19, w20, w21, w22, w23, w24, w25, w26, w27, w28, w29, w30, w31, w32, w33, w34, w35, w36, w37, w38, w39, w40, w41, w42, w43, w44, w45, w46, w47, w48, w49, w50, w51, w52, w53, w54, w55, w56, w57, w58, w59, w60, w61, w62])), (tp, .inl (y 1, 4096, .inl f))] sz [] [] [] [])) (va_Qi (fun (r : Int32) (_ : Unit) => r = 1) (fun _ t => ∃ fz0 : Nat → Int32, va_P D vwCl [(h0, .inr (16, [.int 0, .int 5, .ref tp, w2, w3, w4, w5, w6, w7, w8, w9, w10, w11, w12, w13, w14, w15, w16, w17, w18, w19, w20, w21, w22, w23, w24, w25, w26, w27, w28, w29, w30, w31, w32, w33, w34, w35, w36, w37, w38, w39, w40, w41, w42, w43, w44, w45, w46, w47, w48, w49, w50, w51, w52, w53, w54, w55, w56, w57, w58, w59, w60, w61, w62])), (tp, .inl (y 1, 4096, .inl fz0))] t.heap ∧ va_D (va_A [(h0, .inr (16, [w1, .int 0, .ref tp, w2, w3, w4, w5, w6, w7, w8, w9, w10, w11, w12, w13, w14, w15, w16, w17, w18, w19, w20, w21, w22, w23, w24, w25, w26, w27, w28, w29, w30, w31, w32, w33, w34, w35, w36, w37, w38, w39, w40, w41, w42, w43, w44, w45, w46, w47, w48, w49, w50, w51, w52, w53, w54, w55, w56, w57, w58, w59, w60, w61, w62])), (tp, .inl (y 1, 4096, .inl f))] sz) [(h0, .inr (16, [.int 0, .int 5, .ref tp, w2, w3, w4, w5, w6, w7, w8, w9, w10, w11, w12, w13, w14, w15, w16, w17, w18, w19, w20, w21, w22, w23, w24, w25, w26, w27, w28, w29, w30, w31, w32, w33, w34, w35, w36, w37, w38, w39, w40, w41, w42, w43, w44, w45, w46, w47, w48, w49, w50, w51, w52, w53, w54, w55, w56, w57, w58, w59, w60, w61, w62])), (tp, .inl (y 1, 4096, .inl fz0))]) (va_A [(h0, .inr (16, [w1, .int 0, .ref tp, w2, w3, w4, w5, w6, w7, w8, w9, w10, w11, w12, w13, w14, w15, w16, w17, w18, w19, w20, w21, w22, w23, w24, w25, w26, w27, w28, w29, w30, w31, w32, w33, w34, w35, w36, w37, w38, w39, w40, w41, w42, w43, w44, w45, w46, w47, w48, w49, w50, w51, w52, w53, w54, w55, w56, w57, w58, w59, w60, w61, w62])), (tp, .inl (y 1, 4096, .inl f))] sz)) 0 0 (va_A [(h0, .inr (16, [w1, .int 0, .ref tp, w2, w3, w4, w5, w6, w7, w8, w9, w10, w11, w12, w13, w14, w15, w16, w17, w18, w19, w20, w21, w22, w23, w24, w25, w26, w27, w28, w29, w30, w31, w32, w33, w34, w35, w36, w37, w38, w39, w40, w41, w42, w43, w44, w45, w46, w47, w48, w49, w50, w51, w52, w53, w54, w55, w56, w57, w58, w59, w60, w61, w62])), (tp, .inl (y 1, 4096, .inl f))] sz) := by
  refine Met.ofW (cc := cX12_add) (maxL := 5) (ret := (some .boolean)) (by decide) rfl ?_
  intro p e s m args below meth c s₁ B hml hv
  obtain ⟨rfl, hsz, hP, hK, hD0, hN, hE, hO, hT, hG⟩ := hv
  have hx := B.exec
  have hb := B.bytes
  have hr := B.returns
  have hts := atoms_spec (ws := wz_c_M_add_5) B.pre
  have hown : s.vm.findClass RX12 = some m.cls := findClass_of_methodNamed B.named
  have hlocks := B.notSynchronized
  subst hsz
  have hD := hD0.self (sz := s.heap.size)
  generalize hAe : va_A [(h0, .inr (16, [w1, .int 0, .ref tp, w2, w3, w4, w5, w6, w7, w8, w9, w10, w11, w12, w13, w14, w15, w16, w17, w18, w19, w20, w21, w22, w23, w24, w25, w26, w27, w28, w29, w30, w31, w32, w33, w34, w35, w36, w37, w38, w39, w40, w41, w42, w43, w44, w45, w46, w47, w48, w49, w50, w51, w52, w53, w54, w55, w56, w57, w58, w59, w60, w61, w62])), (tp, .inl (y 1, 4096, .inl f))] s.heap.size = A at hD hE hT hG ⊢
  have hA : ∀ q : Nat, s.heap.size ≤ q → A q := fun q h => by rw [← hAe]; exact Or.inr h
  have hS : va_S A s.heap s.heap [] := va_S.rf
  have hl := lv_entry ([.ref h0, .long wd, .int 5]) (n := 5) (Nat.le_of_ble_eq_true rfl)
  rw [lg_entry_eq]
  generalize (lg_sl ([.ref h0, .long wd, .int 5]) ++ List.replicate (5 - (lg_sl ([.ref h0, .long wd, .int 5])).length) Slot.unset).toArray = ls at hl ⊢
  have hl : lv_has ls 5 [(0, .ref h0), (1, .long wd), (3, .int 5)] := hl
  refine lv_aload_n hx hb dX12_add_0 rfl (lv_at hl 0 rfl) ?_
  refine lv_iconst (v := 0) hx hb dX12_add_1 (by decide) ?_
  refine va_put (D := D) (ci := 16) (v := .int 0) (ty := .int) (C := RX12) (T := TX12) (N := 64) hx hb hts (by decide +kernel) tyX12 tyX12_ok nmX12 hown hK hP hD hS 0 rfl rfl 0 (by decide) (hts (.fieldLink RX12 78 "SignetRingModel" "thrown" "I") (by decide +kernel)) (fun _ h9 => h9) rfl (by decide +kernel) rfl rfl (Nat.le_of_ble_eq_true rfl) dX12_add_2 (fun H locs hP hD hS => ?_)
  have hP : va_P D vwCl [(h0, .inr (16, [.int 0, .int 0, .ref tp, w2, w3, w4, w5, w6, w7, w8, w9, w10, w11, w12, w13, w14, w15, w16, w17, w18, w19, w20, w21, w22, w23, w24, w25, w26, w27, w28, w29, w30, w31, w32, w33, w34, w35, w36, w37, w38, w39, w40, w41, w42, w43, w44, w45, w46, w47, w48, w49, w50, w51, w52, w53, w54, w55, w56, w57, w58, w59, w60, w61, w62])), (tp, .inl (y 1, 4096, .inl f))] H := hP
  have hD : va_D A [(h0, .inr (16, [.int 0, .int 0, .ref tp, w2, w3, w4, w5, w6, w7, w8, w9, w10, w11, w12, w13, w14, w15, w16, w17, w18, w19, w20, w21, w22, w23, w24, w25, w26, w27, w28, w29, w30, w31, w32, w33, w34, w35, w36, w37, w38, w39, w40, w41, w42, w43, w44, w45, w46, w47, w48, w49, w50, w51, w52, w53, w54, w55, w56, w57, w58, w59, w60, w61, w62])), (tp, .inl (y 1, 4096, .inl f))] := hD
  refine lv_iload_n hx hb dX12_add_5 rfl (lv_at hl 2 rfl) ?_
  refine lv_iconst (v := 1) hx hb dX12_add_6 (by decide) ?_
  refine lv_icmp_lt (tgt := 28) hx hb dX12_add_7 (by decide) (fun c9 => absurd c9 (by decide)) (fun _ => ?_)
  refine lv_iload_n hx hb dX12_add_10 rfl (lv_at hl 2 rfl) ?_
  refine lv_bipush (v := 8) hx hb dX12_add_11 (by decide) ?_
  refine lv_icmp_gt (tgt := 28) hx hb dX12_add_13 (by decide) (fun c9 => absurd c9 (by decide)) (fun _ => ?_)
  refine lv_aload_n hx hb dX12_add_16 rfl (lv_at hl 0 rfl) ?_
  refine va_get (D := D) (ci := 16) (v := .int 0) (C := RX12) (T := TX12) (N := 64) hx hb hts (by decide +kernel) hown hK hP 0 rfl rfl 1 (by decide) (hts (.fieldLink RX12 84 "SignetRingModel" "taped" "I") (by decide +kernel)) (fun _ h9 => h9) rfl dX12_add_17 ?_
  refine lv_iload_n hx hb dX12_add_20 rfl (lv_at hl 2 rfl) ?_
  refine lv_iadd hx hb dX12_add_21 ?_
  refine lv_topi (fun v1 ev1 => ?_)
  have ev1 : v1 = 5 := ev1.trans (by decide +kernel)
  subst ev1
  refine lv_sipush (v := 4096) hx hb dX12_add_22 (by decide) ?_
  refine lv_icmp_le (tgt := 30) hx hb dX12_add_25 (by decide) (fun _ => ?_) (fun c9 => absurd (by decide) c9)
  refine lv_iconst (v := 0) hx hb dX12_add_30 (by decide) ?_
  refine lv_istore (lv' := [(4, .int 0), (0, .ref h0), (1, .long wd), (3, .int 5)]) hx hb dX12_add_31 hl (by decide) rfl (fun ls hl => ?_)
  refine lv_iload hx hb dX12_add_33 (lv_at hl 0 rfl) ?_
  refine lv_iload_n hx hb dX12_add_35 rfl (lv_at hl 3 rfl) ?_
  refine lv_icmp_ge (tgt := 76) hx hb dX12_add_36 (by decide) (fun c9 => absurd c9 (by decide)) (fun _ => ?_)
  refine lv_aload_n hx hb dX12_add_39 rfl (lv_at hl 1 rfl) ?_
  refine va_get (D := D) (ci := 16) (v := .ref tp) (C := RX12) (T := TX12) (N := 64) hx hb hts (by decide +kernel) hown hK hP 0 rfl rfl 2 (by decide) (hts (.fieldLink RX12 7 "SignetRingModel" "tape" "[I") (by decide +kernel)) (fun _ h9 => h9) rfl dX12_add_40 ?_
  refine lv_aload_n hx hb dX12_add_43 rfl (lv_at hl 1 rfl) ?_
  refine va_get (D := D) (ci := 16) (v := .int 0) (C := RX12) (T := TX12) (N := 64) hx hb hts (by decide +kernel) hown hK hP 0 rfl rfl 1 (by decide) (hts (.fieldLink RX12 84 "SignetRingModel" "taped" "I") (by decide +kernel)) (fun _ h9 => h9) rfl dX12_add_44 ?_
  refine lv_lload_n hx hb dX12_add_47 rfl (lv_at hl 2 rfl) ?_
  refine lv_bipush (v := 8) hx hb dX12_add_48 (by decide) ?_
  refine lv_iload hx hb dX12_add_50 (lv_at hl 0 rfl) ?_
  refine lv_imul hx hb dX12_add_52 ?_
  refine lv_topi (fun v2 ev2 => ?_)
  have ev2 : v2 = 0 := ev2.trans (by decide +kernel)
  subst ev2
  refine lv_lshr hx hb dX12_add_53 rfl ?_
  refine lv_topl (fun v3 _ => ?_)
  refine lv_ldc2 (v := 255) hx hb hown (hts (.constantLong RX12 87 255) (by decide +kernel)) dX12_add_54 ?_
  refine lv_land hx hb dX12_add_57 ?_
  refine lv_topl (fun v4 _ => ?_)
  refine lv_l2i hx hb dX12_add_58 rfl ?_
  refine lv_topi (fun v5 _ => ?_)
  refine va_iast hx hb hK hP hD hS 1 1 rfl rfl (by unfold vp_in; decide) dX12_add_59 (fun H locs hP hD hS => ?_)
  have hP : va_P D vwCl [(h0, .inr (16, [.int 0, .int 0, .ref tp, w2, w3, w4, w5, w6, w7, w8, w9, w10, w11, w12, w13, w14, w15, w16, w17, w18, w19, w20, w21, w22, w23, w24, w25, w26, w27, w28, w29, w30, w31, w32, w33, w34, w35, w36, w37, w38, w39, w40, w41, w42, w43, w44, w45, w46, w47, w48, w49, w50, w51, w52, w53, w54, w55, w56, w57, w58, w59, w60, w61, w62])), (tp, .inl (y 1, 4096, .inl (upd f (0 : Int32).toNatClampNeg v5)))] H := hP
  have hD : va_D A [(h0, .inr (16, [.int 0, .int 0, .ref tp, w2, w3, w4, w5, w6, w7, w8, w9, w10, w11, w12, w13, w14, w15, w16, w17, w18, w19, w20, w21, w22, w23, w24, w25, w26, w27, w28, w29, w30, w31, w32, w33, w34, w35, w36, w37, w38, w39, w40, w41, w42, w43, w44, w45, w46, w47, w48, w49, w50, w51, w52, w53, w54, w55, w56, w57, w58, w59, w60, w61, w62])), (tp, .inl (y 1, 4096, .inl (upd f (0 : Int32).toNatClampNeg v5)))] := hD
  refine lv_aload_n hx hb dX12_add_60 rfl (lv_at hl 1 rfl) ?_
  refine lv_dup hx hb dX12_add_61 rfl ?_
  refine va_get (D := D) (ci := 16) (v := .int 0) (C := RX12) (T := TX12) (N := 64) hx hb hts (by decide +kernel) hown hK hP 0 rfl rfl 1 (by decide) (hts (.fieldLink RX12 84 "SignetRingModel" "taped" "I") (by decide +kernel)) (fun _ h9 => h9) rfl dX12_add_62 ?_
  refine lv_iconst (v := 1) hx hb dX12_add_65 (by decide) ?_
  refine lv_iadd hx hb dX12_add_66 ?_
  refine lv_topi (fun v6 ev6 => ?_)
  have ev6 : v6 = 1 := ev6.trans (by decide +kernel)
  subst ev6
  refine va_put (D := D) (ci := 16) (v := .int 1) (ty := .int) (C := RX12) (T := TX12) (N := 64) hx hb hts (by decide +kernel) tyX12 tyX12_ok nmX12 hown hK hP hD hS 0 rfl rfl 1 (by decide) (hts (.fieldLink RX12 84 "SignetRingModel" "taped" "I") (by decide +kernel)) (fun _ h9 => h9) rfl (by decide +kernel) rfl rfl (Nat.le_of_ble_eq_true rfl) dX12_add_67 (fun H locs hP hD hS => ?_)
  have hP : va_P D vwCl [(h0, .inr (16, [.int 0, .int 1, .ref tp, w2, w3, w4, w5, w6, w7, w8, w9, w10, w11, w12, w13, w14, w15, w16, w17, w18, w19, w20, w21, w22, w23, w24, w25, w26, w27, w28, w29, w30, w31, w32, w33, w34, w35, w36, w37, w38, w39, w40, w41, w42, w43, w44, w45, w46, w47, w48, w49, w50, w51, w52, w53, w54, w55, w56, w57, w58, w59, w60, w61, w62])), (tp, .inl (y 1, 4096, .inl (upd f (0 : Int32).toNatClampNeg v5)))] H := hP
  have hD : va_D A [(h0, .inr (16, [.int 0, .int 1, .ref tp, w2, w3, w4, w5, w6, w7, w8, w9, w10, w11, w12, w13, w14, w15, w16, w17, w18, w19, w20, w21, w22, w23, w24, w25, w26, w27, w28, w29, w30, w31, w32, w33, w34, w35, w36, w37, w38, w39, w40, w41, w42, w43, w44, w45, w46, w47, w48, w49, w50, w51, w52, w53, w54, w55, w56, w57, w58, w59, w60, w61, w62])), (tp, .inl (y 1, 4096, .inl (upd f (0 : Int32).toNatClampNeg v5)))] := hD
  refine lv_iinc (v := 1) (lv' := [(4, .int 1), (0, .ref h0), (1, .long wd), (3, .int 5)]) hx hb dX12_add_70 hl (k := 0) rfl (by decide) (by decide) rfl (fun ls hl => ?_)
  refine lv_goto (tgt := 33) hx hb dX12_add_73 (by decide) ?_
  refine lv_iload hx hb dX12_add_33 (lv_at hl 0 rfl) ?_
  refine lv_iload_n hx hb dX12_add_35 rfl (lv_at hl 3 rfl) ?_
  refine lv_icmp_ge (tgt := 76) hx hb dX12_add_36 (by decide) (fun c9 => absurd c9 (by decide)) (fun _ => ?_)
  refine lv_aload_n hx hb dX12_add_39 rfl (lv_at hl 1 rfl) ?_
  refine va_get (D := D) (ci := 16) (v := .ref tp) (C := RX12) (T := TX12) (N := 64) hx hb hts (by decide +kernel) hown hK hP 0 rfl rfl 2 (by decide) (hts (.fieldLink RX12 7 "SignetRingModel" "tape" "[I") (by decide +kernel)) (fun _ h9 => h9) rfl dX12_add_40 ?_
  refine lv_aload_n hx hb dX12_add_43 rfl (lv_at hl 1 rfl) ?_
  refine va_get (D := D) (ci := 16) (v := .int 1) (C := RX12) (T := TX12) (N := 64) hx hb hts (by decide +kernel) hown hK hP 0 rfl rfl 1 (by decide) (hts (.fieldLink RX12 84 "SignetRingModel" "taped" "I") (by decide +kernel)) (fun _ h9 => h9) rfl dX12_add_44 ?_
  refine lv_lload_n hx hb dX12_add_47 rfl (lv_at hl 2 rfl) ?_
  refine lv_bipush (v := 8) hx hb dX12_add_48 (by decide) ?_
  refine lv_iload hx hb dX12_add_50 (lv_at hl 0 rfl) ?_
  refine lv_imul hx hb dX12_add_52 ?_
  refine lv_topi (fun v7 ev7 => ?_)
  have ev7 : v7 = 8 := ev7.trans (by decide +kernel)
  subst ev7
  refine lv_lshr hx hb dX12_add_53 rfl ?_
  refine lv_topl (fun v8 _ => ?_)
  refine lv_ldc2 (v := 255) hx hb hown (hts (.constantLong RX12 87 255) (by decide +kernel)) dX12_add_54 ?_
  refine lv_land hx hb dX12_add_57 ?_
  refine lv_topl (fun v9 _ => ?_)
  refine lv_l2i hx hb dX12_add_58 rfl ?_
  refine lv_topi (fun v10 _ => ?_)
  refine va_iast hx hb hK hP hD hS 1 1 rfl rfl (by unfold vp_in; decide) dX12_add_59 (fun H locs hP hD hS => ?_)
  have hP : va_P D vwCl [(h0, .inr (16, [.int 0, .int 1, .ref tp, w2, w3, w4, w5, w6, w7, w8, w9, w10, w11, w12, w13, w14, w15, w16, w17, w18, w19, w20, w21, w22, w23, w24, w25, w26, w27, w28, w29, w30, w31, w32, w33, w34, w35, w36, w37, w38, w39, w40, w41, w42, w43, w44, w45, w46, w47, w48, w49, w50, w51, w52, w53, w54, w55, w56, w57, w58, w59, w60, w61, w62])), (tp, .inl (y 1, 4096, .inl (upd (upd f (0 : Int32).toNatClampNeg v5) (1 : Int32).toNatClampNeg v10)))] H := hP
  have hD : va_D A [(h0, .inr (16, [.int 0, .int 1, .ref tp, w2, w3, w4, w5, w6, w7, w8, w9, w10, w11, w12, w13, w14, w15, w16, w17, w18, w19, w20, w21, w22, w23, w24, w25, w26, w27, w28, w29, w30, w31, w32, w33, w34, w35, w36, w37, w38, w39, w40, w41, w42, w43, w44, w45, w46, w47, w48, w49, w50, w51, w52, w53, w54, w55, w56, w57, w58, w59, w60, w61, w62])), (tp, .inl (y 1, 4096, .inl (upd (upd f (0 : Int32).toNatClampNeg v5) (1 : Int32).toNatClampNeg v10)))] := hD
  refine lv_aload_n hx hb dX12_add_60 rfl (lv_at hl 1 rfl) ?_
  refine lv_dup hx hb dX12_add_61 rfl ?_
  refine va_get (D := D) (ci := 16) (v := .int 1) (C := RX12) (T := TX12) (N := 64) hx hb hts (by decide +kernel) hown hK hP 0 rfl rfl 1 (by decide) (hts (.fieldLink RX12 84 "SignetRingModel" "taped" "I") (by decide +kernel)) (fun _ h9 => h9) rfl dX12_add_62 ?_
  refine lv_iconst (v := 1) hx hb dX12_add_65 (by decide) ?_
  refine lv_iadd hx hb dX12_add_66 ?_
  refine lv_topi (fun v11 ev11 => ?_)
  have ev11 : v11 = 2 := ev11.trans (by decide +kernel)
  subst ev11
  refine va_put (D := D) (ci := 16) (v := .int 2) (ty := .int) (C := RX12) (T := TX12) (N := 64) hx hb hts (by decide +kernel) tyX12 tyX12_ok nmX12 hown hK hP hD hS 0 rfl rfl 1 (by decide) (hts (.fieldLink RX12 84 "SignetRingModel" "taped" "I") (by decide +kernel)) (fun _ h9 => h9) rfl (by decide +kernel) rfl rfl (Nat.le_of_ble_eq_true rfl) dX12_add_67 (fun H locs hP hD hS => ?_)
  have hP : va_P D vwCl [(h0, .inr (16, [.int 0, .int 2, .ref tp, w2, w3, w4, w5, w6, w7, w8, w9, w10, w11, w12, w13, w14, w15, w16, w17, w18, w19, w20, w21, w22, w23, w24, w25, w26, w27, w28, w29, w30, w31, w32, w33, w34, w35, w36, w37, w38, w39, w40, w41, w42, w43, w44, w45, w46, w47, w48, w49, w50, w51, w52, w53, w54, w55, w56, w57, w58, w59, w60, w61, w62])), (tp, .inl (y 1, 4096, .inl (upd (upd f (0 : Int32).toNatClampNeg v5) (1 : Int32).toNatClampNeg v10)))] H := hP
  have hD : va_D A [(h0, .inr (16, [.int 0, .int 2, .ref tp, w2, w3, w4, w5, w6, w7, w8, w9, w10, w11, w12, w13, w14, w15, w16, w17, w18, w19, w20, w21, w22, w23, w24, w25, w26, w27, w28, w29, w30, w31, w32, w33, w34, w35, w36, w37, w38, w39, w40, w41, w42, w43, w44, w45, w46, w47, w48, w49, w50, w51, w52, w53, w54, w55, w56, w57, w58, w59, w60, w61, w62])), (tp, .inl (y 1, 4096, .inl (upd (upd f (0 : Int32).toNatClampNeg v5) (1 : Int32).toNatClampNeg v10)))] := hD
  refine lv_iinc (v := 2) (lv' := [(4, .int 2), (0, .ref h0), (1, .long wd), (3, .int 5)]) hx hb dX12_add_70 hl (k := 0) rfl (by decide) (by decide) rfl (fun ls hl => ?_)
  refine lv_goto (tgt := 33) hx hb dX12_add_73 (by decide) ?_
  refine lv_iload hx hb dX12_add_33 (lv_at hl 0 rfl) ?_
  refine lv_iload_n hx hb dX12_add_35 rfl (lv_at hl 3 rfl) ?_
  refine lv_icmp_ge (tgt := 76) hx hb dX12_add_36 (by decide) (fun c9 => absurd c9 (by decide)) (fun _ => ?_)
  refine lv_aload_n hx hb dX12_add_39 rfl (lv_at hl 1 rfl) ?_
  refine va_get (D := D) (ci := 16) (v := .ref tp) (C := RX12) (T := TX12) (N := 64) hx hb hts (by decide +kernel) hown hK hP 0 rfl rfl 2 (by decide) (hts (.fieldLink RX12 7 "SignetRingModel" "tape" "[I") (by decide +kernel)) (fun _ h9 => h9) rfl dX12_add_40 ?_
  refine lv_aload_n hx hb dX12_add_43 rfl (lv_at hl 1 rfl) ?_
  refine va_get (D := D) (ci := 16) (v := .int 2) (C := RX12) (T := TX12) (N := 64) hx hb hts (by decide +kernel) hown hK hP 0 rfl rfl 1 (by decide) (hts (.fieldLink RX12 84 "SignetRingModel" "taped" "I") (by decide +kernel)) (fun _ h9 => h9) rfl dX12_add_44 ?_
  refine lv_lload_n hx hb dX12_add_47 rfl (lv_at hl 2 rfl) ?_
  refine lv_bipush (v := 8) hx hb dX12_add_48 (by decide) ?_
  refine lv_iload hx hb dX12_add_50 (lv_at hl 0 rfl) ?_
  refine lv_imul hx hb dX12_add_52 ?_
  refine lv_topi (fun v12 ev12 => ?_)
  have ev12 : v12 = 16 := ev12.trans (by decide +kernel)
  subst ev12
  refine lv_lshr hx hb dX12_add_53 rfl ?_
  refine lv_topl (fun v13 _ => ?_)
  refine lv_ldc2 (v := 255) hx hb hown (hts (.constantLong RX12 87 255) (by decide +kernel)) dX12_add_54 ?_
  refine lv_land hx hb dX12_add_57 ?_
  refine lv_topl (fun v14 _ => ?_)
  refine lv_l2i hx hb dX12_add_58 rfl ?_
  refine lv_topi (fun v15 _ => ?_)
  refine va_iast hx hb hK hP hD hS 1 1 rfl rfl (by unfold vp_in; decide) dX12_add_59 (fun H locs hP hD hS => ?_)
  have hP : va_P D vwCl [(h0, .inr (16, [.int 0, .int 2, .ref tp, w2, w3, w4, w5, w6, w7, w8, w9, w10, w11, w12, w13, w14, w15, w16, w17, w18, w19, w20, w21, w22, w23, w24, w25, w26, w27, w28, w29, w30, w31, w32, w33, w34, w35, w36, w37, w38, w39, w40, w41, w42, w43, w44, w45, w46, w47, w48, w49, w50, w51, w52, w53, w54, w55, w56, w57, w58, w59, w60, w61, w62])), (tp, .inl (y 1, 4096, .inl (upd (upd (upd f (0 : Int32).toNatClampNeg v5) (1 : Int32).toNatClampNeg v10) (2 : Int32).toNatClampNeg v15)))] H := hP
  have hD : va_D A [(h0, .inr (16, [.int 0, .int 2, .ref tp, w2, w3, w4, w5, w6, w7, w8, w9, w10, w11, w12, w13, w14, w15, w16, w17, w18, w19, w20, w21, w22, w23, w24, w25, w26, w27, w28, w29, w30, w31, w32, w33, w34, w35, w36, w37, w38, w39, w40, w41, w42, w43, w44, w45, w46, w47, w48, w49, w50, w51, w52, w53, w54, w55, w56, w57, w58, w59, w60, w61, w62])), (tp, .inl (y 1, 4096, .inl (upd (upd (upd f (0 : Int32).toNatClampNeg v5) (1 : Int32).toNatClampNeg v10) (2 : Int32).toNatClampNeg v15)))] := hD
  refine lv_aload_n hx hb dX12_add_60 rfl (lv_at hl 1 rfl) ?_
  refine lv_dup hx hb dX12_add_61 rfl ?_
  refine va_get (D := D) (ci := 16) (v := .int 2) (C := RX12) (T := TX12) (N := 64) hx hb hts (by decide +kernel) hown hK hP 0 rfl rfl 1 (by decide) (hts (.fieldLink RX12 84 "SignetRingModel" "taped" "I") (by decide +kernel)) (fun _ h9 => h9) rfl dX12_add_62 ?_
  refine lv_iconst (v := 1) hx hb dX12_add_65 (by decide) ?_
  refine lv_iadd hx hb dX12_add_66 ?_
  refine lv_topi (fun v16 ev16 => ?_)
  have ev16 : v16 = 3 := ev16.trans (by decide +kernel)
  subst ev16
  refine va_put (D := D) (ci := 16) (v := .int 3) (ty := .int) (C := RX12) (T := TX12) (N := 64) hx hb hts (by decide +kernel) tyX12 tyX12_ok nmX12 hown hK hP hD hS 0 rfl rfl 1 (by decide) (hts (.fieldLink RX12 84 "SignetRingModel" "taped" "I") (by decide +kernel)) (fun _ h9 => h9) rfl (by decide +kernel) rfl rfl (Nat.le_of_ble_eq_true rfl) dX12_add_67 (fun H locs hP hD hS => ?_)
  have hP : va_P D vwCl [(h0, .inr (16, [.int 0, .int 3, .ref tp, w2, w3, w4, w5, w6, w7, w8, w9, w10, w11, w12, w13, w14, w15, w16, w17, w18, w19, w20, w21, w22, w23, w24, w25, w26, w27, w28, w29, w30, w31, w32, w33, w34, w35, w36, w37, w38, w39, w40, w41, w42, w43, w44, w45, w46, w47, w48, w49, w50, w51, w52, w53, w54, w55, w56, w57, w58, w59, w60, w61, w62])), (tp, .inl (y 1, 4096, .inl (upd (upd (upd f (0 : Int32).toNatClampNeg v5) (1 : Int32).toNatClampNeg v10) (2 : Int32).toNatClampNeg v15)))] H := hP
  have hD : va_D A [(h0, .inr (16, [.int 0, .int 3, .ref tp, w2, w3, w4, w5, w6, w7, w8, w9, w10, w11, w12, w13, w14, w15, w16, w17, w18, w19, w20, w21, w22, w23, w24, w25, w26, w27, w28, w29, w30, w31, w32, w33, w34, w35, w36, w37, w38, w39, w40, w41, w42, w43, w44, w45, w46, w47, w48, w49, w50, w51, w52, w53, w54, w55, w56, w57, w58, w59, w60, w61, w62])), (tp, .inl (y 1, 4096, .inl (upd (upd (upd f (0 : Int32).toNatClampNeg v5) (1 : Int32).toNatClampNeg v10) (2 : Int32).toNatClampNeg v15)))] := hD
  refine lv_iinc (v := 3) (lv' := [(4, .int 3), (0, .ref h0), (1, .long wd), (3, .int 5)]) hx hb dX12_add_70 hl (k := 0) rfl (by decide) (by decide) rfl (fun ls hl => ?_)
  refine lv_goto (tgt := 33) hx hb dX12_add_73 (by decide) ?_
  refine lv_iload hx hb dX12_add_33 (lv_at hl 0 rfl) ?_
  refine lv_iload_n hx hb dX12_add_35 rfl (lv_at hl 3 rfl) ?_
  refine lv_icmp_ge (tgt := 76) hx hb dX12_add_36 (by decide) (fun c9 => absurd c9 (by decide)) (fun _ => ?_)
  refine lv_aload_n hx hb dX12_add_39 rfl (lv_at hl 1 rfl) ?_
  refine va_get (D := D) (ci := 16) (v := .ref tp) (C := RX12) (T := TX12) (N := 64) hx hb hts (by decide +kernel) hown hK hP 0 rfl rfl 2 (by decide) (hts (.fieldLink RX12 7 "SignetRingModel" "tape" "[I") (by decide +kernel)) (fun _ h9 => h9) rfl dX12_add_40 ?_
  refine lv_aload_n hx hb dX12_add_43 rfl (lv_at hl 1 rfl) ?_
  refine va_get (D := D) (ci := 16) (v := .int 3) (C := RX12) (T := TX12) (N := 64) hx hb hts (by decide +kernel) hown hK hP 0 rfl rfl 1 (by decide) (hts (.fieldLink RX12 84 "SignetRingModel" "taped" "I") (by decide +kernel)) (fun _ h9 => h9) rfl dX12_add_44 ?_
  refine lv_lload_n hx hb dX12_add_47 rfl (lv_at hl 2 rfl) ?_
  refine lv_bipush (v := 8) hx hb dX12_add_48 (by decide) ?_
  refine lv_iload hx hb dX12_add_50 (lv_at hl 0 rfl) ?_
  refine lv_imul hx hb dX12_add_52 ?_
  refine lv_topi (fun v17 ev17 => ?_)
  have ev17 : v17 = 24 := ev17.trans (by decide +kernel)
  subst ev17
  refine lv_lshr hx hb dX12_add_53 rfl ?_
  refine lv_topl (fun v18 _ => ?_)
  refine lv_ldc2 (v := 255) hx hb hown (hts (.constantLong RX12 87 255) (by decide +kernel)) dX12_add_54 ?_
  refine lv_land hx hb dX12_add_57 ?_
  refine lv_topl (fun v19 _ => ?_)
  refine lv_l2i hx hb dX12_add_58 rfl ?_
  refine lv_topi (fun v20 _ => ?_)
  refine va_iast hx hb hK hP hD hS 1 1 rfl rfl (by unfold vp_in; decide) dX12_add_59 (fun H locs hP hD hS => ?_)
  have hP : va_P D vwCl [(h0, .inr (16, [.int 0, .int 3, .ref tp, w2, w3, w4, w5, w6, w7, w8, w9, w10, w11, w12, w13, w14, w15, w16, w17, w18, w19, w20, w21, w22, w23, w24, w25, w26, w27, w28, w29, w30, w31, w32, w33, w34, w35, w36, w37, w38, w39, w40, w41, w42, w43, w44, w45, w46, w47, w48, w49, w50, w51, w52, w53, w54, w55, w56, w57, w58, w59, w60, w61, w62])), (tp, .inl (y 1, 4096, .inl (upd (upd (upd (upd f (0 : Int32).toNatClampNeg v5) (1 : Int32).toNatClampNeg v10) (2 : Int32).toNatClampNeg v15) (3 : Int32).toNatClampNeg v20)))] H := hP
  have hD : va_D A [(h0, .inr (16, [.int 0, .int 3, .ref tp, w2, w3, w4, w5, w6, w7, w8, w9, w10, w11, w12, w13, w14, w15, w16, w17, w18, w19, w20, w21, w22, w23, w24, w25, w26, w27, w28, w29, w30, w31, w32, w33, w34, w35, w36, w37, w38, w39, w40, w41, w42, w43, w44, w45, w46, w47, w48, w49, w50, w51, w52, w53, w54, w55, w56, w57, w58, w59, w60, w61, w62])), (tp, .inl (y 1, 4096, .inl (upd (upd (upd (upd f (0 : Int32).toNatClampNeg v5) (1 : Int32).toNatClampNeg v10) (2 : Int32).toNatClampNeg v15) (3 : Int32).toNatClampNeg v20)))] := hD
  refine lv_aload_n hx hb dX12_add_60 rfl (lv_at hl 1 rfl) ?_
  refine lv_dup hx hb dX12_add_61 rfl ?_
  refine va_get (D := D) (ci := 16) (v := .int 3) (C := RX12) (T := TX12) (N := 64) hx hb hts (by decide +kernel) hown hK hP 0 rfl rfl 1 (by decide) (hts (.fieldLink RX12 84 "SignetRingModel" "taped" "I") (by decide +kernel)) (fun _ h9 => h9) rfl dX12_add_62 ?_
  refine lv_iconst (v := 1) hx hb dX12_add_65 (by decide) ?_
  refine lv_iadd hx hb dX12_add_66 ?_
  refine lv_topi (fun v21 ev21 => ?_)
  have ev21 : v21 = 4 := ev21.trans (by decide +kernel)
  subst ev21
  refine va_put (D := D) (ci := 16) (v := .int 4) (ty := .int) (C := RX12) (T := TX12) (N := 64) hx hb hts (by decide +kernel) tyX12 tyX12_ok nmX12 hown hK hP hD hS 0 rfl rfl 1 (by decide) (hts (.fieldLink RX12 84 "SignetRingModel" "taped" "I") (by decide +kernel)) (fun _ h9 => h9) rfl (by decide +kernel) rfl rfl (Nat.le_of_ble_eq_true rfl) dX12_add_67 (fun H locs hP hD hS => ?_)
  have hP : va_P D vwCl [(h0, .inr (16, [.int 0, .int 4, .ref tp, w2, w3, w4, w5, w6, w7, w8, w9, w10, w11, w12, w13, w14, w15, w16, w17, w18, w19, w20, w21, w22, w23, w24, w25, w26, w27, w28, w29, w30, w31, w32, w33, w34, w35, w36, w37, w38, w39, w40, w41, w42, w43, w44, w45, w46, w47, w48, w49, w50, w51, w52, w53, w54, w55, w56, w57, w58, w59, w60, w61, w62])), (tp, .inl (y 1, 4096, .inl (upd (upd (upd (upd f (0 : Int32).toNatClampNeg v5) (1 : Int32).toNatClampNeg v10) (2 : Int32).toNatClampNeg v15) (3 : Int32).toNatClampNeg v20)))] H := hP
  have hD : va_D A [(h0, .inr (16, [.int 0, .int 4, .ref tp, w2, w3, w4, w5, w6, w7, w8, w9, w10, w11, w12, w13, w14, w15, w16, w17, w18, w19, w20, w21, w22, w23, w24, w25, w26, w27, w28, w29, w30, w31, w32, w33, w34, w35, w36, w37, w38, w39, w40, w41, w42, w43, w44, w45, w46, w47, w48, w49, w50, w51, w52, w53, w54, w55, w56, w57, w58, w59, w60, w61, w62])), (tp, .inl (y 1, 4096, .inl (upd (upd (upd (upd f (0 : Int32).toNatClampNeg v5) (1 : Int32).toNatClampNeg v10) (2 : Int32).toNatClampNeg v15) (3 : Int32).toNatClampNeg v20)))] := hD
  refine lv_iinc (v := 4) (lv' := [(4, .int 4), (0, .ref h0), (1, .long wd), (3, .int 5)]) hx hb dX12_add_70 hl (k := 0) rfl (by decide) (by decide) rfl (fun ls hl => ?_)
  refine lv_goto (tgt := 33) hx hb dX12_add_73 (by decide) ?_
  refine lv_iload hx hb dX12_add_33 (lv_at hl 0 rfl) ?_
  refine lv_iload_n hx hb dX12_add_35 rfl (lv_at hl 3 rfl) ?_
  refine lv_icmp_ge (tgt := 76) hx hb dX12_add_36 (by decide) (fun c9 => absurd c9 (by decide)) (fun _ => ?_)
  refine lv_aload_n hx hb dX12_add_39 rfl (lv_at hl 1 rfl) ?_
  refine va_get (D := D) (ci := 16) (v := .ref tp) (C := RX12) (T := TX12) (N := 64) hx hb hts (by decide +kernel) hown hK hP 0 rfl rfl 2 (by decide) (hts (.fieldLink RX12 7 "SignetRingModel" "tape" "[I") (by decide +kernel)) (fun _ h9 => h9) rfl dX12_add_40 ?_
  refine lv_aload_n hx hb dX12_add_43 rfl (lv_at hl 1 rfl) ?_
  refine va_get (D := D) (ci := 16) (v := .int 4) (C := RX12) (T := TX12) (N := 64) hx hb hts (by decide +kernel) hown hK hP 0 rfl rfl 1 (by decide) (hts (.fieldLink RX12 84 "SignetRingModel" "taped" "I") (by decide +kernel)) (fun _ h9 => h9) rfl dX12_add_44 ?_
  refine lv_lload_n hx hb dX12_add_47 rfl (lv_at hl 2 rfl) ?_
  refine lv_bipush (v := 8) hx hb dX12_add_48 (by decide) ?_
  refine lv_iload hx hb dX12_add_50 (lv_at hl 0 rfl) ?_
  refine lv_imul hx hb dX12_add_52 ?_
  refine lv_topi (fun v22 ev22 => ?_)
  have ev22 : v22 = 32 := ev22.trans (by decide +kernel)
  subst ev22
  refine lv_lshr hx hb dX12_add_53 rfl ?_
  refine lv_topl (fun v23 _ => ?_)
  refine lv_ldc2 (v := 255) hx hb hown (hts (.constantLong RX12 87 255) (by decide +kernel)) dX12_add_54 ?_
  refine lv_land hx hb dX12_add_57 ?_
  refine lv_topl (fun v24 _ => ?_)
  refine lv_l2i hx hb dX12_add_58 rfl ?_
  refine lv_topi (fun v25 _ => ?_)
  refine va_iast hx hb hK hP hD hS 1 1 rfl rfl (by unfold vp_in; decide) dX12_add_59 (fun H locs hP hD hS => ?_)
  have hP : va_P D vwCl [(h0, .inr (16, [.int 0, .int 4, .ref tp, w2, w3, w4, w5, w6, w7, w8, w9, w10, w11, w12, w13, w14, w15, w16, w17, w18, w19, w20, w21, w22, w23, w24, w25, w26, w27, w28, w29, w30, w31, w32, w33, w34, w35, w36, w37, w38, w39, w40, w41, w42, w43, w44, w45, w46, w47, w48, w49, w50, w51, w52, w53, w54, w55, w56, w57, w58, w59, w60, w61, w62])), (tp, .inl (y 1, 4096, .inl (upd (upd (upd (upd (upd f (0 : Int32).toNatClampNeg v5) (1 : Int32).toNatClampNeg v10) (2 : Int32).toNatClampNeg v15) (3 : Int32).toNatClampNeg v20) (4 : Int32).toNatClampNeg v25)))] H := hP
  have hD : va_D A [(h0, .inr (16, [.int 0, .int 4, .ref tp, w2, w3, w4, w5, w6, w7, w8, w9, w10, w11, w12, w13, w14, w15, w16, w17, w18, w19, w20, w21, w22, w23, w24, w25, w26, w27, w28, w29, w30, w31, w32, w33, w34, w35, w36, w37, w38, w39, w40, w41, w42, w43, w44, w45, w46, w47, w48, w49, w50, w51, w52, w53, w54, w55, w56, w57, w58, w59, w60, w61, w62])), (tp, .inl (y 1, 4096, .inl (upd (upd (upd (upd (upd f (0 : Int32).toNatClampNeg v5) (1 : Int32).toNatClampNeg v10) (2 : Int32).toNatClampNeg v15) (3 : Int32).toNatClampNeg v20) (4 : Int32).toNatClampNeg v25)))] := hD
  refine lv_aload_n hx hb dX12_add_60 rfl (lv_at hl 1 rfl) ?_
  refine lv_dup hx hb dX12_add_61 rfl ?_
  refine va_get (D := D) (ci := 16) (v := .int 4) (C := RX12) (T := TX12) (N := 64) hx hb hts (by decide +kernel) hown hK hP 0 rfl rfl 1 (by decide) (hts (.fieldLink RX12 84 "SignetRingModel" "taped" "I") (by decide +kernel)) (fun _ h9 => h9) rfl dX12_add_62 ?_
  refine lv_iconst (v := 1) hx hb dX12_add_65 (by decide) ?_
  refine lv_iadd hx hb dX12_add_66 ?_
  refine lv_topi (fun v26 ev26 => ?_)
  have ev26 : v26 = 5 := ev26.trans (by decide +kernel)
  subst ev26
  refine va_put (D := D) (ci := 16) (v := .int 5) (ty := .int) (C := RX12) (T := TX12) (N := 64) hx hb hts (by decide +kernel) tyX12 tyX12_ok nmX12 hown hK hP hD hS 0 rfl rfl 1 (by decide) (hts (.fieldLink RX12 84 "SignetRingModel" "taped" "I") (by decide +kernel)) (fun _ h9 => h9) rfl (by decide +kernel) rfl rfl (Nat.le_of_ble_eq_true rfl) dX12_add_67 (fun H locs hP hD hS => ?_)
  have hP : va_P D vwCl [(h0, .inr (16, [.int 0, .int 5, .ref tp, w2, w3, w4, w5, w6, w7, w8, w9, w10, w11, w12, w13, w14, w15, w16, w17, w18, w19, w20, w21, w22, w23, w24, w25, w26, w27, w28, w29, w30, w31, w32, w33, w34, w35, w36, w37, w38, w39, w40, w41, w42, w43, w44, w45, w46, w47, w48, w49, w50, w51, w52, w53, w54, w55, w56, w57, w58, w59, w60, w61, w62])), (tp, .inl (y 1, 4096, .inl (upd (upd (upd (upd (upd f (0 : Int32).toNatClampNeg v5) (1 : Int32).toNatClampNeg v10) (2 : Int32).toNatClampNeg v15) (3 : Int32).toNatClampNeg v20) (4 : Int32).toNatClampNeg v25)))] H := hP
  have hD : va_D A [(h0, .inr (16, [.int 0, .int 5, .ref tp, w2, w3, w4, w5, w6, w7, w8, w9, w10, w11, w12, w13, w14, w15, w16, w17, w18, w19, w20, w21, w22, w23, w24, w25, w26, w27, w28, w29, w30, w31, w32, w33, w34, w35, w36, w37, w38, w39, w40, w41, w42, w43, w44, w45, w46, w47, w48, w49, w50, w51, w52, w53, w54, w55, w56, w57, w58, w59, w60, w61, w62])), (tp, .inl (y 1, 4096, .inl (upd (upd (upd (upd (upd f (0 : Int32).toNatClampNeg v5) (1 : Int32).toNatClampNeg v10) (2 : Int32).toNatClampNeg v15) (3 : Int32).toNatClampNeg v20) (4 : Int32).toNatClampNeg v25)))] := hD
  refine lv_iinc (v := 5) (lv' := [(4, .int 5), (0, .ref h0), (1, .long wd), (3, .int 5)]) hx hb dX12_add_70 hl (k := 0) rfl (by decide) (by decide) rfl (fun ls hl => ?_)
  refine lv_goto (tgt := 33) hx hb dX12_add_73 (by decide) ?_
  refine lv_iload hx hb dX12_add_33 (lv_at hl 0 rfl) ?_
  refine lv_iload_n hx hb dX12_add_35 rfl (lv_at hl 3 rfl) ?_
  refine lv_icmp_ge (tgt := 76) hx hb dX12_add_36 (by decide) (fun _ => ?_) (fun c9 => absurd (by decide) c9)
  refine lv_iconst (v := 1) hx hb dX12_add_76 (by decide) ?_
  have hP9 := hP.sub (ws' := [(h0, .inr (16, [.int 0, .int 5, .ref tp, w2, w3, w4, w5, w6, w7, w8, w9, w10, w11, w12, w13, w14, w15, w16, w17, w18, w19, w20, w21, w22, w23, w24, w25, w26, w27, w28, w29, w30, w31, w32, w33, w34, w35, w36, w37, w38, w39, w40, w41, w42, w43, w44, w45, w46, w47, w48, w49, w50, w51, w52, w53, w54, w55, w56, w57, w58, w59, w60, w61, w62])), (tp, .inl (y 1, 4096, .inl (upd (upd (upd (upd (upd f (0 : Int32).toNatClampNeg v5) (1 : Int32).toNatClampNeg v10) (2 : Int32).toNatClampNeg v15) (3 : Int32).toNatClampNeg v20) (4 : Int32).toNatClampNeg v25)))]) [0, 1] rfl
  have hD9 := hD.sub (ws' := [(h0, .inr (16, [.int 0, .int 5, .ref tp, w2, w3, w4, w5, w6, w7, w8, w9, w10, w11, w12, w13, w14, w15, w16, w17, w18, w19, w20, w21, w22, w23, w24, w25, w26, w27, w28, w29, w30, w31, w32, w33, w34, w35, w36, w37, w38, w39, w40, w41, w42, w43, w44, w45, w46, w47, w48, w49, w50, w51, w52, w53, w54, w55, w56, w57, w58, w59, w60, w61, w62])), (tp, .inl (y 1, 4096, .inl (upd (upd (upd (upd (upd f (0 : Int32).toNatClampNeg v5) (1 : Int32).toNatClampNeg v10) (2 : Int32).toNatClampNeg v15) (3 : Int32).toNatClampNeg v20) (4 : Int32).toNatClampNeg v25)))]) [0, 1] (by decide) rfl
  refine W.widen (k := 0) (n := 0) (Nat.le_of_ble_eq_true rfl) (Nat.le_of_ble_eq_true rfl) ?_
  exact W.zret (v := 1) hx hb hr (by decide) (fun t ht hW => ⟨⟨1, (), rfl, rfl, (upd (upd (upd (upd (upd f (0 : Int32).toNatClampNeg v5) (1 : Int32).toNatClampNeg v10) (2 : Int32).toNatClampNeg v15) (3 : Int32).toNatClampNeg v20) (4 : Int32).toNatClampNeg v25), by rw [ht]; exact hP9, hD9⟩, hS.F ht⟩) hS.2.2 dX12_add_77
def wz_c_M_add_6 : List Cond := .code yX12_add cX12_add 5 (some .boolean) :: ([.fieldLink RX12 78 "SignetRingModel" "thrown" "I", .fieldLink RX12 84 "SignetRingModel" "taped" "I", .fieldLink RX12 7 "SignetRingModel" "tape" "[I", .constantLong RX12 87 255] ++ (wsX120 ++ ([])))
set_option maxHeartbeats 4000000 in
set_option maxRecDepth 100000 in
theorem c_M_add_6 (l : Launch) (D : va_G) (y : Nat → ClassId) (sz : Nat) (h0 : Nat) (tp : Nat) (w1 : Value) (w2 : Value) (w3 : Value) (w4 : Value) (w5 : Value) (w6 : Value) (w7 : Value) (w8 : Value) (w9 : Value) (w10 : Value) (w11 : Value) (w12 : Value) (w13 : Value) (w14 : Value) (w15 : Value) (w16 : Value) (w17 : Value) (w18 : Value) (w19 : Value) (w20 : Value) (w21 : Value) (w22 : Value) (w23 : Value) (w24 : Value) (w25 : Value) (w26 : Value) (w27 : Value) (w28 : Value) (w29 : Value) (w30 : Value) (w31 : Value) (w32 : Value) (w33 : Value) (w34 : Value) (w35 : Value) (w36 : Value) (w37 : Value) (w38 : Value) (w39 : Value) (w40 : Value) (w41 : Value) (w42 : Value) (w43 : Value) (w44 : Value) (w45 : Value) (w46 : Value) (w47 : Value) (w48 : Value) (w49 : Value) (w50 : Value) (w51 : Value) (w52 : Value) (w53 : Value) (w54 : Value) (w55 : Value) (w56 : Value) (w57 : Value) (w58 : Value) (w59 : Value) (w60 : Value) (w61 : Value) (w62 : Value) (f : Nat → Int32) (wd : Int64) : Met l yX12_add wz_c_M_add_6 ({ frames := 0, cells := 0, slots := 0, locals := 0 }) (va_Pc [.ref h0, .long wd, .int 6] (zB D y [(h0, .inr (16, [w1, .int 0, .ref tp, w2, w3, w4, w5, w6, w7, w8, w9, w10, w11, w12, w13, w14, w15, w16, w17, w18, w19, w20, w21, w22, w23, w24, w25, w26, w27, w28, w29, w30, w31, w32, w33, w34, w35, w36, w37, w38, w39, w40, w41, w42, w43, w44, w45, w46, w47, w48, w49, w50, w51, w52, w53, w54, w55, w56, w57, w58, w59, w60, w61, w62])), (tp, .inl (y 1, 4096, .inl f))] sz [] [] [] [])) (va_Qi (fun (r : Int32) (_ : Unit) => r = 1) (fun _ t => ∃ fz0 : Nat → Int32, va_P D vwCl [(h0, .inr (16, [.int 0, .int 6, .ref tp, w2, w3, w4, w5, w6, w7, w8, w9, w10, w11, w12, w13, w14, w15, w16, w17, w18, w19, w20, w21, w22, w23, w24, w25, w26, w27, w28, w29, w30, w31, w32, w33, w34, w35, w36, w37, w38, w39, w40, w41, w42, w43, w44, w45, w46, w47, w48, w49, w50, w51, w52, w53, w54, w55, w56, w57, w58, w59, w60, w61, w62])), (tp, .inl (y 1, 4096, .inl fz0))] t.heap ∧ va_D (va_A [(h0, .inr (16, [w1, .int 0, .ref tp, w2, w3, w4, w5, w6, w7, w8, w9, w10, w11, w12, w13, w14, w15, w16, w17, w18, w19, w20, w21, w22, w23, w24, w25, w26, w27, w28, w29, w30, w31, w32, w33, w34, w35, w36, w37, w38, w39, w40, w41, w42, w43, w44, w45, w46, w47, w48, w49, w50, w51, w52, w53, w54, w55, w56, w57, w58, w59, w60, w61, w62])), (tp, .inl (y 1, 4096, .inl f))] sz) [(h0, .inr (16, [.int 0, .int 6, .ref tp, w2, w3, w4, w5, w6, w7, w8, w9, w10, w11, w12, w13, w14, w15, w16, w17, w18, w19, w20, w21, w22, w23, w24, w25, w26, w27, w28, w29, w30, w31, w32, w33, w34, w35, w36, w37, w38, w39, w40, w41, w42, w43, w44, w45, w46, w47, w48, w49, w50, w51, w52, w53, w54, w55, w56, w57, w58, w59, w60, w61, w62])), (tp, .inl (y 1, 4096, .inl fz0))]) (va_A [(h0, .inr (16, [w1, .int 0, .ref tp, w2, w3, w4, w5, w6, w7, w8, w9, w10, w11, w12, w13, w14, w15, w16, w17, w18, w19, w20, w21, w22, w23, w24, w25, w26, w27, w28, w29, w30, w31, w32, w33, w34, w35, w36, w37, w38, w39, w40, w41, w42, w43, w44, w45, w46, w47, w48, w49, w50, w51, w52, w53, w54, w55, w56, w57, w58, w59, w60, w61, w62])), (tp, .inl (y 1, 4096, .inl f))] sz)) 0 0 (va_A [(h0, .inr (16, [w1, .int 0, .ref tp, w2, w3, w4, w5, w6, w7, w8, w9, w10, w11, w12, w13, w14, w15, w16, w17, w18, w19, w20, w21, w22, w23, w24, w25, w26, w27, w28, w29, w30, w31, w32, w33, w34, w35, w36, w37, w38, w39, w40, w41, w42, w43, w44, w45, w46, w47, w48, w49, w50, w51, w52, w53, w54, w55, w56, w57, w58, w59, w60, w61, w62])), (tp, .inl (y 1, 4096, .inl f))] sz) := by
  refine Met.ofW (cc := cX12_add) (maxL := 5) (ret := (some .boolean)) (by decide) rfl ?_
  intro p e s m args below meth c s₁ B hml hv
  obtain ⟨rfl, hsz, hP, hK, hD0, hN, hE, hO, hT, hG⟩ := hv
  have hx := B.exec
  have hb := B.bytes
  have hr := B.returns
  have hts := atoms_spec (ws := wz_c_M_add_6) B.pre
  have hown : s.vm.findClass RX12 = some m.cls := findClass_of_methodNamed B.named
  have hlocks := B.notSynchronized
  subst hsz
  have hD := hD0.self (sz := s.heap.size)
  generalize hAe : va_A [(h0, .inr (16, [w1, .int 0, .ref tp, w2, w3, w4, w5, w6, w7, w8, w9, w10, w11, w12, w13, w14, w15, w16, w17, w18, w19, w20, w21, w22, w23, w24, w25, w26, w27, w28, w29, w30, w31, w32, w33, w34, w35, w36, w37, w38, w39, w40, w41, w42, w43, w44, w45, w46, w47, w48, w49, w50, w51, w52, w53, w54, w55, w56, w57, w58, w59, w60, w61, w62])), (tp, .inl (y 1, 4096, .inl f))] s.heap.size = A at hD hE hT hG ⊢
  have hA : ∀ q : Nat, s.heap.size ≤ q → A q := fun q h => by rw [← hAe]; exact Or.inr h
  have hS : va_S A s.heap s.heap [] := va_S.rf
  have hl := lv_entry ([.ref h0, .long wd, .int 6]) (n := 5) (Nat.le_of_ble_eq_true rfl)
  rw [lg_entry_eq]
  generalize (lg_sl ([.ref h0, .long wd, .int 6]) ++ List.replicate (5 - (lg_sl ([.ref h0, .long wd, .int 6])).length) Slot.unset).toArray = ls at hl ⊢
  have hl : lv_has ls 5 [(0, .ref h0), (1, .long wd), (3, .int 6)] := hl
  refine lv_aload_n hx hb dX12_add_0 rfl (lv_at hl 0 rfl) ?_
  refine lv_iconst (v := 0) hx hb dX12_add_1 (by decide) ?_
  refine va_put (D := D) (ci := 16) (v := .int 0) (ty := .int) (C := RX12) (T := TX12) (N := 64) hx hb hts (by decide +kernel) tyX12 tyX12_ok nmX12 hown hK hP hD hS 0 rfl rfl 0 (by decide) (hts (.fieldLink RX12 78 "SignetRingModel" "thrown" "I") (by decide +kernel)) (fun _ h9 => h9) rfl (by decide +kernel) rfl rfl (Nat.le_of_ble_eq_true rfl) dX12_add_2 (fun H locs hP hD hS => ?_)
  have hP : va_P D vwCl [(h0, .inr (16, [.int 0, .int 0, .ref tp, w2, w3, w4, w5, w6, w7, w8, w9, w10, w11, w12, w13, w14, w15, w16, w17, w18, w19, w20, w21, w22, w23, w24, w25, w26, w27, w28, w29, w30, w31, w32, w33, w34, w35, w36, w37, w38, w39, w40, w41, w42, w43, w44, w45, w46, w47, w48, w49, w50, w51, w52, w53, w54, w55, w56, w57, w58, w59, w60, w61, w62])), (tp, .inl (y 1, 4096, .inl f))] H := hP
  have hD : va_D A [(h0, .inr (16, [.int 0, .int 0, .ref tp, w2, w3, w4, w5, w6, w7, w8, w9, w10, w11, w12, w13, w14, w15, w16, w17, w18, w19, w20, w21, w22, w23, w24, w25, w26, w27, w28, w29, w30, w31, w32, w33, w34, w35, w36, w37, w38, w39, w40, w41, w42, w43, w44, w45, w46, w47, w48, w49, w50, w51, w52, w53, w54, w55, w56, w57, w58, w59, w60, w61, w62])), (tp, .inl (y 1, 4096, .inl f))] := hD
  refine lv_iload_n hx hb dX12_add_5 rfl (lv_at hl 2 rfl) ?_
  refine lv_iconst (v := 1) hx hb dX12_add_6 (by decide) ?_
  refine lv_icmp_lt (tgt := 28) hx hb dX12_add_7 (by decide) (fun c9 => absurd c9 (by decide)) (fun _ => ?_)
  refine lv_iload_n hx hb dX12_add_10 rfl (lv_at hl 2 rfl) ?_
  refine lv_bipush (v := 8) hx hb dX12_add_11 (by decide) ?_
  refine lv_icmp_gt (tgt := 28) hx hb dX12_add_13 (by decide) (fun c9 => absurd c9 (by decide)) (fun _ => ?_)
  refine lv_aload_n hx hb dX12_add_16 rfl (lv_at hl 0 rfl) ?_
  refine va_get (D := D) (ci := 16) (v := .int 0) (C := RX12) (T := TX12) (N := 64) hx hb hts (by decide +kernel) hown hK hP 0 rfl rfl 1 (by decide) (hts (.fieldLink RX12 84 "SignetRingModel" "taped" "I") (by decide +kernel)) (fun _ h9 => h9) rfl dX12_add_17 ?_
  refine lv_iload_n hx hb dX12_add_20 rfl (lv_at hl 2 rfl) ?_
  refine lv_iadd hx hb dX12_add_21 ?_
  refine lv_topi (fun v1 ev1 => ?_)
  have ev1 : v1 = 6 := ev1.trans (by decide +kernel)
  subst ev1
  refine lv_sipush (v := 4096) hx hb dX12_add_22 (by decide) ?_
  refine lv_icmp_le (tgt := 30) hx hb dX12_add_25 (by decide) (fun _ => ?_) (fun c9 => absurd (by decide) c9)
  refine lv_iconst (v := 0) hx hb dX12_add_30 (by decide) ?_
  refine lv_istore (lv' := [(4, .int 0), (0, .ref h0), (1, .long wd), (3, .int 6)]) hx hb dX12_add_31 hl (by decide) rfl (fun ls hl => ?_)
  refine lv_iload hx hb dX12_add_33 (lv_at hl 0 rfl) ?_
  refine lv_iload_n hx hb dX12_add_35 rfl (lv_at hl 3 rfl) ?_
  refine lv_icmp_ge (tgt := 76) hx hb dX12_add_36 (by decide) (fun c9 => absurd c9 (by decide)) (fun _ => ?_)
  refine lv_aload_n hx hb dX12_add_39 rfl (lv_at hl 1 rfl) ?_
  refine va_get (D := D) (ci := 16) (v := .ref tp) (C := RX12) (T := TX12) (N := 64) hx hb hts (by decide +kernel) hown hK hP 0 rfl rfl 2 (by decide) (hts (.fieldLink RX12 7 "SignetRingModel" "tape" "[I") (by decide +kernel)) (fun _ h9 => h9) rfl dX12_add_40 ?_
  refine lv_aload_n hx hb dX12_add_43 rfl (lv_at hl 1 rfl) ?_
  refine va_get (D := D) (ci := 16) (v := .int 0) (C := RX12) (T := TX12) (N := 64) hx hb hts (by decide +kernel) hown hK hP 0 rfl rfl 1 (by decide) (hts (.fieldLink RX12 84 "SignetRingModel" "taped" "I") (by decide +kernel)) (fun _ h9 => h9) rfl dX12_add_44 ?_
  refine lv_lload_n hx hb dX12_add_47 rfl (lv_at hl 2 rfl) ?_
  refine lv_bipush (v := 8) hx hb dX12_add_48 (by decide) ?_
  refine lv_iload hx hb dX12_add_50 (lv_at hl 0 rfl) ?_
  refine lv_imul hx hb dX12_add_52 ?_
  refine lv_topi (fun v2 ev2 => ?_)
  have ev2 : v2 = 0 := ev2.trans (by decide +kernel)
  subst ev2
  refine lv_lshr hx hb dX12_add_53 rfl ?_
  refine lv_topl (fun v3 _ => ?_)
  refine lv_ldc2 (v := 255) hx hb hown (hts (.constantLong RX12 87 255) (by decide +kernel)) dX12_add_54 ?_
  refine lv_land hx hb dX12_add_57 ?_
  refine lv_topl (fun v4 _ => ?_)
  refine lv_l2i hx hb dX12_add_58 rfl ?_
  refine lv_topi (fun v5 _ => ?_)
  refine va_iast hx hb hK hP hD hS 1 1 rfl rfl (by unfold vp_in; decide) dX12_add_59 (fun H locs hP hD hS => ?_)
  have hP : va_P D vwCl [(h0, .inr (16, [.int 0, .int 0, .ref tp, w2, w3, w4, w5, w6, w7, w8, w9, w10, w11, w12, w13, w14, w15, w16, w17, w18, w19, w20, w21, w22, w23, w24, w25, w26, w27, w28, w29, w30, w31, w32, w33, w34, w35, w36, w37, w38, w39, w40, w41, w42, w43, w44, w45, w46, w47, w48, w49, w50, w51, w52, w53, w54, w55, w56, w57, w58, w59, w60, w61, w62])), (tp, .inl (y 1, 4096, .inl (upd f (0 : Int32).toNatClampNeg v5)))] H := hP
  have hD : va_D A [(h0, .inr (16, [.int 0, .int 0, .ref tp, w2, w3, w4, w5, w6, w7, w8, w9, w10, w11, w12, w13, w14, w15, w16, w17, w18, w19, w20, w21, w22, w23, w24, w25, w26, w27, w28, w29, w30, w31, w32, w33, w34, w35, w36, w37, w38, w39, w40, w41, w42, w43, w44, w45, w46, w47, w48, w49, w50, w51, w52, w53, w54, w55, w56, w57, w58, w59, w60, w61, w62])), (tp, .inl (y 1, 4096, .inl (upd f (0 : Int32).toNatClampNeg v5)))] := hD
  refine lv_aload_n hx hb dX12_add_60 rfl (lv_at hl 1 rfl) ?_
  refine lv_dup hx hb dX12_add_61 rfl ?_
  refine va_get (D := D) (ci := 16) (v := .int 0) (C := RX12) (T := TX12) (N := 64) hx hb hts (by decide +kernel) hown hK hP 0 rfl rfl 1 (by decide) (hts (.fieldLink RX12 84 "SignetRingModel" "taped" "I") (by decide +kernel)) (fun _ h9 => h9) rfl dX12_add_62 ?_
  refine lv_iconst (v := 1) hx hb dX12_add_65 (by decide) ?_
  refine lv_iadd hx hb dX12_add_66 ?_
  refine lv_topi (fun v6 ev6 => ?_)
  have ev6 : v6 = 1 := ev6.trans (by decide +kernel)
  subst ev6
  refine va_put (D := D) (ci := 16) (v := .int 1) (ty := .int) (C := RX12) (T := TX12) (N := 64) hx hb hts (by decide +kernel) tyX12 tyX12_ok nmX12 hown hK hP hD hS 0 rfl rfl 1 (by decide) (hts (.fieldLink RX12 84 "SignetRingModel" "taped" "I") (by decide +kernel)) (fun _ h9 => h9) rfl (by decide +kernel) rfl rfl (Nat.le_of_ble_eq_true rfl) dX12_add_67 (fun H locs hP hD hS => ?_)
  have hP : va_P D vwCl [(h0, .inr (16, [.int 0, .int 1, .ref tp, w2, w3, w4, w5, w6, w7, w8, w9, w10, w11, w12, w13, w14, w15, w16, w17, w18, w19, w20, w21, w22, w23, w24, w25, w26, w27, w28, w29, w30, w31, w32, w33, w34, w35, w36, w37, w38, w39, w40, w41, w42, w43, w44, w45, w46, w47, w48, w49, w50, w51, w52, w53, w54, w55, w56, w57, w58, w59, w60, w61, w62])), (tp, .inl (y 1, 4096, .inl (upd f (0 : Int32).toNatClampNeg v5)))] H := hP
  have hD : va_D A [(h0, .inr (16, [.int 0, .int 1, .ref tp, w2, w3, w4, w5, w6, w7, w8, w9, w10, w11, w12, w13, w14, w15, w16, w17, w18, w19, w20, w21, w22, w23, w24, w25, w26, w27, w28, w29, w30, w31, w32, w33, w34, w35, w36, w37, w38, w39, w40, w41, w42, w43, w44, w45, w46, w47, w48, w49, w50, w51, w52, w53, w54, w55, w56, w57, w58, w59, w60, w61, w62])), (tp, .inl (y 1, 4096, .inl (upd f (0 : Int32).toNatClampNeg v5)))] := hD
  refine lv_iinc (v := 1) (lv' := [(4, .int 1), (0, .ref h0), (1, .long wd), (3, .int 6)]) hx hb dX12_add_70 hl (k := 0) rfl (by decide) (by decide) rfl (fun ls hl => ?_)
  refine lv_goto (tgt := 33) hx hb dX12_add_73 (by decide) ?_
  refine lv_iload hx hb dX12_add_33 (lv_at hl 0 rfl) ?_
  refine lv_iload_n hx hb dX12_add_35 rfl (lv_at hl 3 rfl) ?_
  refine lv_icmp_ge (tgt := 76) hx hb dX12_add_36 (by decide) (fun c9 => absurd c9 (by decide)) (fun _ => ?_)
  refine lv_aload_n hx hb dX12_add_39 rfl (lv_at hl 1 rfl) ?_
  refine va_get (D := D) (ci := 16) (v := .ref tp) (C := RX12) (T := TX12) (N := 64) hx hb hts (by decide +kernel) hown hK hP 0 rfl rfl 2 (by decide) (hts (.fieldLink RX12 7 "SignetRingModel" "tape" "[I") (by decide +kernel)) (fun _ h9 => h9) rfl dX12_add_40 ?_
  refine lv_aload_n hx hb dX12_add_43 rfl (lv_at hl 1 rfl) ?_
  refine va_get (D := D) (ci := 16) (v := .int 1) (C := RX12) (T := TX12) (N := 64) hx hb hts (by decide +kernel) hown hK hP 0 rfl rfl 1 (by decide) (hts (.fieldLink RX12 84 "SignetRingModel" "taped" "I") (by decide +kernel)) (fun _ h9 => h9) rfl dX12_add_44 ?_
  refine lv_lload_n hx hb dX12_add_47 rfl (lv_at hl 2 rfl) ?_
  refine lv_bipush (v := 8) hx hb dX12_add_48 (by decide) ?_
  refine lv_iload hx hb dX12_add_50 (lv_at hl 0 rfl) ?_
  refine lv_imul hx hb dX12_add_52 ?_
  refine lv_topi (fun v7 ev7 => ?_)
  have ev7 : v7 = 8 := ev7.trans (by decide +kernel)
  subst ev7
  refine lv_lshr hx hb dX12_add_53 rfl ?_
  refine lv_topl (fun v8 _ => ?_)
  refine lv_ldc2 (v := 255) hx hb hown (hts (.constantLong RX12 87 255) (by decide +kernel)) dX12_add_54 ?_
  refine lv_land hx hb dX12_add_57 ?_
  refine lv_topl (fun v9 _ => ?_)
  refine lv_l2i hx hb dX12_add_58 rfl ?_
  refine lv_topi (fun v10 _ => ?_)
  refine va_iast hx hb hK hP hD hS 1 1 rfl rfl (by unfold vp_in; decide) dX12_add_59 (fun H locs hP hD hS => ?_)
  have hP : va_P D vwCl [(h0, .inr (16, [.int 0, .int 1, .ref tp, w2, w3, w4, w5, w6, w7, w8, w9, w10, w11, w12, w13, w14, w15, w16, w17, w18, w19, w20, w21, w22, w23, w24, w25, w26, w27, w28, w29, w30, w31, w32, w33, w34, w35, w36, w37, w38, w39, w40, w41, w42, w43, w44, w45, w46, w47, w48, w49, w50, w51, w52, w53, w54, w55, w56, w57, w58, w59, w60, w61, w62])), (tp, .inl (y 1, 4096, .inl (upd (upd f (0 : Int32).toNatClampNeg v5) (1 : Int32).toNatClampNeg v10)))] H := hP
  have hD : va_D A [(h0, .inr (16, [.int 0, .int 1, .ref tp, w2, w3, w4, w5, w6, w7, w8, w9, w10, w11, w12, w13, w14, w15, w16, w17, w18, w19, w20, w21, w22, w23, w24, w25, w26, w27, w28, w29, w30, w31, w32, w33, w34, w35, w36, w37, w38, w39, w40, w41, w42, w43, w44, w45, w46, w47, w48, w49, w50, w51, w52, w53, w54, w55, w56, w57, w58, w59, w60, w61, w62])), (tp, .inl (y 1, 4096, .inl (upd (upd f (0 : Int32).toNatClampNeg v5) (1 : Int32).toNatClampNeg v10)))] := hD
  refine lv_aload_n hx hb dX12_add_60 rfl (lv_at hl 1 rfl) ?_
  refine lv_dup hx hb dX12_add_61 rfl ?_
  refine va_get (D := D) (ci := 16) (v := .int 1) (C := RX12) (T := TX12) (N := 64) hx hb hts (by decide +kernel) hown hK hP 0 rfl rfl 1 (by decide) (hts (.fieldLink RX12 84 "SignetRingModel" "taped" "I") (by decide +kernel)) (fun _ h9 => h9) rfl dX12_add_62 ?_
  refine lv_iconst (v := 1) hx hb dX12_add_65 (by decide) ?_
  refine lv_iadd hx hb dX12_add_66 ?_
  refine lv_topi (fun v11 ev11 => ?_)
  have ev11 : v11 = 2 := ev11.trans (by decide +kernel)
  subst ev11
  refine va_put (D := D) (ci := 16) (v := .int 2) (ty := .int) (C := RX12) (T := TX12) (N := 64) hx hb hts (by decide +kernel) tyX12 tyX12_ok nmX12 hown hK hP hD hS 0 rfl rfl 1 (by decide) (hts (.fieldLink RX12 84 "SignetRingModel" "taped" "I") (by decide +kernel)) (fun _ h9 => h9) rfl (by decide +kernel) rfl rfl (Nat.le_of_ble_eq_true rfl) dX12_add_67 (fun H locs hP hD hS => ?_)
  have hP : va_P D vwCl [(h0, .inr (16, [.int 0, .int 2, .ref tp, w2, w3, w4, w5, w6, w7, w8, w9, w10, w11, w12, w13, w14, w15, w16, w17, w18, w19, w20, w21, w22, w23, w24, w25, w26, w27, w28, w29, w30, w31, w32, w33, w34, w35, w36, w37, w38, w39, w40, w41, w42, w43, w44, w45, w46, w47, w48, w49, w50, w51, w52, w53, w54, w55, w56, w57, w58, w59, w60, w61, w62])), (tp, .inl (y 1, 4096, .inl (upd (upd f (0 : Int32).toNatClampNeg v5) (1 : Int32).toNatClampNeg v10)))] H := hP
  have hD : va_D A [(h0, .inr (16, [.int 0, .int 2, .ref tp, w2, w3, w4, w5, w6, w7, w8, w9, w10, w11, w12, w13, w14, w15, w16, w17, w18, w19, w20, w21, w22, w23, w24, w25, w26, w27, w28, w29, w30, w31, w32, w33, w34, w35, w36, w37, w38, w39, w40, w41, w42, w43, w44, w45, w46, w47, w48, w49, w50, w51, w52, w53, w54, w55, w56, w57, w58, w59, w60, w61, w62])), (tp, .inl (y 1, 4096, .inl (upd (upd f (0 : Int32).toNatClampNeg v5) (1 : Int32).toNatClampNeg v10)))] := hD
  refine lv_iinc (v := 2) (lv' := [(4, .int 2), (0, .ref h0), (1, .long wd), (3, .int 6)]) hx hb dX12_add_70 hl (k := 0) rfl (by decide) (by decide) rfl (fun ls hl => ?_)
  refine lv_goto (tgt := 33) hx hb dX12_add_73 (by decide) ?_
  refine lv_iload hx hb dX12_add_33 (lv_at hl 0 rfl) ?_
  refine lv_iload_n hx hb dX12_add_35 rfl (lv_at hl 3 rfl) ?_
  refine lv_icmp_ge (tgt := 76) hx hb dX12_add_36 (by decide) (fun c9 => absurd c9 (by decide)) (fun _ => ?_)
  refine lv_aload_n hx hb dX12_add_39 rfl (lv_at hl 1 rfl) ?_
  refine va_get (D := D) (ci := 16) (v := .ref tp) (C := RX12) (T := TX12) (N := 64) hx hb hts (by decide +kernel) hown hK hP 0 rfl rfl 2 (by decide) (hts (.fieldLink RX12 7 "SignetRingModel" "tape" "[I") (by decide +kernel)) (fun _ h9 => h9) rfl dX12_add_40 ?_
  refine lv_aload_n hx hb dX12_add_43 rfl (lv_at hl 1 rfl) ?_
  refine va_get (D := D) (ci := 16) (v := .int 2) (C := RX12) (T := TX12) (N := 64) hx hb hts (by decide +kernel) hown hK hP 0 rfl rfl 1 (by decide) (hts (.fieldLink RX12 84 "SignetRingModel" "taped" "I") (by decide +kernel)) (fun _ h9 => h9) rfl dX12_add_44 ?_
  refine lv_lload_n hx hb dX12_add_47 rfl (lv_at hl 2 rfl) ?_
  refine lv_bipush (v := 8) hx hb dX12_add_48 (by decide) ?_
  refine lv_iload hx hb dX12_add_50 (lv_at hl 0 rfl) ?_
  refine lv_imul hx hb dX12_add_52 ?_
  refine lv_topi (fun v12 ev12 => ?_)
  have ev12 : v12 = 16 := ev12.trans (by decide +kernel)
  subst ev12
  refine lv_lshr hx hb dX12_add_53 rfl ?_
  refine lv_topl (fun v13 _ => ?_)
  refine lv_ldc2 (v := 255) hx hb hown (hts (.constantLong RX12 87 255) (by decide +kernel)) dX12_add_54 ?_
  refine lv_land hx hb dX12_add_57 ?_
  refine lv_topl (fun v14 _ => ?_)
  refine lv_l2i hx hb dX12_add_58 rfl ?_
  refine lv_topi (fun v15 _ => ?_)
  refine va_iast hx hb hK hP hD hS 1 1 rfl rfl (by unfold vp_in; decide) dX12_add_59 (fun H locs hP hD hS => ?_)
  have hP : va_P D vwCl [(h0, .inr (16, [.int 0, .int 2, .ref tp, w2, w3, w4, w5, w6, w7, w8, w9, w10, w11, w12, w13, w14, w15, w16, w17, w18, w19, w20, w21, w22, w23, w24, w25, w26, w27, w28, w29, w30, w31, w32, w33, w34, w35, w36, w37, w38, w39, w40, w41, w42, w43, w44, w45, w46, w47, w48, w49, w50, w51, w52, w53, w54, w55, w56, w57, w58, w59, w60, w61, w62])), (tp, .inl (y 1, 4096, .inl (upd (upd (upd f (0 : Int32).toNatClampNeg v5) (1 : Int32).toNatClampNeg v10) (2 : Int32).toNatClampNeg v15)))] H := hP
  have hD : va_D A [(h0, .inr (16, [.int 0, .int 2, .ref tp, w2, w3, w4, w5, w6, w7, w8, w9, w10, w11, w12, w13, w14, w15, w16, w17, w18, w19, w20, w21, w22, w23, w24, w25, w26, w27, w28, w29, w30, w31, w32, w33, w34, w35, w36, w37, w38, w39, w40, w41, w42, w43, w44, w45, w46, w47, w48, w49, w50, w51, w52, w53, w54, w55, w56, w57, w58, w59, w60, w61, w62])), (tp, .inl (y 1, 4096, .inl (upd (upd (upd f (0 : Int32).toNatClampNeg v5) (1 : Int32).toNatClampNeg v10) (2 : Int32).toNatClampNeg v15)))] := hD
  refine lv_aload_n hx hb dX12_add_60 rfl (lv_at hl 1 rfl) ?_
  refine lv_dup hx hb dX12_add_61 rfl ?_
  refine va_get (D := D) (ci := 16) (v := .int 2) (C := RX12) (T := TX12) (N := 64) hx hb hts (by decide +kernel) hown hK hP 0 rfl rfl 1 (by decide) (hts (.fieldLink RX12 84 "SignetRingModel" "taped" "I") (by decide +kernel)) (fun _ h9 => h9) rfl dX12_add_62 ?_
  refine lv_iconst (v := 1) hx hb dX12_add_65 (by decide) ?_
  refine lv_iadd hx hb dX12_add_66 ?_
  refine lv_topi (fun v16 ev16 => ?_)
  have ev16 : v16 = 3 := ev16.trans (by decide +kernel)
  subst ev16
  refine va_put (D := D) (ci := 16) (v := .int 3) (ty := .int) (C := RX12) (T := TX12) (N := 64) hx hb hts (by decide +kernel) tyX12 tyX12_ok nmX12 hown hK hP hD hS 0 rfl rfl 1 (by decide) (hts (.fieldLink RX12 84 "SignetRingModel" "taped" "I") (by decide +kernel)) (fun _ h9 => h9) rfl (by decide +kernel) rfl rfl (Nat.le_of_ble_eq_true rfl) dX12_add_67 (fun H locs hP hD hS => ?_)
  have hP : va_P D vwCl [(h0, .inr (16, [.int 0, .int 3, .ref tp, w2, w3, w4, w5, w6, w7, w8, w9, w10, w11, w12, w13, w14, w15, w16, w17, w18, w19, w20, w21, w22, w23, w24, w25, w26, w27, w28, w29, w30, w31, w32, w33, w34, w35, w36, w37, w38, w39, w40, w41, w42, w43, w44, w45, w46, w47, w48, w49, w50, w51, w52, w53, w54, w55, w56, w57, w58, w59, w60, w61, w62])), (tp, .inl (y 1, 4096, .inl (upd (upd (upd f (0 : Int32).toNatClampNeg v5) (1 : Int32).toNatClampNeg v10) (2 : Int32).toNatClampNeg v15)))] H := hP
  have hD : va_D A [(h0, .inr (16, [.int 0, .int 3, .ref tp, w2, w3, w4, w5, w6, w7, w8, w9, w10, w11, w12, w13, w14, w15, w16, w17, w18, w19, w20, w21, w22, w23, w24, w25, w26, w27, w28, w29, w30, w31, w32, w33, w34, w35, w36, w37, w38, w39, w40, w41, w42, w43, w44, w45, w46, w47, w48, w49, w50, w51, w52, w53, w54, w55, w56, w57, w58, w59, w60, w61, w62])), (tp, .inl (y 1, 4096, .inl (upd (upd (upd f (0 : Int32).toNatClampNeg v5) (1 : Int32).toNatClampNeg v10) (2 : Int32).toNatClampNeg v15)))] := hD
  refine lv_iinc (v := 3) (lv' := [(4, .int 3), (0, .ref h0), (1, .long wd), (3, .int 6)]) hx hb dX12_add_70 hl (k := 0) rfl (by decide) (by decide) rfl (fun ls hl => ?_)
  refine lv_goto (tgt := 33) hx hb dX12_add_73 (by decide) ?_
  refine lv_iload hx hb dX12_add_33 (lv_at hl 0 rfl) ?_
  refine lv_iload_n hx hb dX12_add_35 rfl (lv_at hl 3 rfl) ?_
  refine lv_icmp_ge (tgt := 76) hx hb dX12_add_36 (by decide) (fun c9 => absurd c9 (by decide)) (fun _ => ?_)
  refine lv_aload_n hx hb dX12_add_39 rfl (lv_at hl 1 rfl) ?_
  refine va_get (D := D) (ci := 16) (v := .ref tp) (C := RX12) (T := TX12) (N := 64) hx hb hts (by decide +kernel) hown hK hP 0 rfl rfl 2 (by decide) (hts (.fieldLink RX12 7 "SignetRingModel" "tape" "[I") (by decide +kernel)) (fun _ h9 => h9) rfl dX12_add_40 ?_
  refine lv_aload_n hx hb dX12_add_43 rfl (lv_at hl 1 rfl) ?_
  refine va_get (D := D) (ci := 16) (v := .int 3) (C := RX12) (T := TX12) (N := 64) hx hb hts (by decide +kernel) hown hK hP 0 rfl rfl 1 (by decide) (hts (.fieldLink RX12 84 "SignetRingModel" "taped" "I") (by decide +kernel)) (fun _ h9 => h9) rfl dX12_add_44 ?_
  refine lv_lload_n hx hb dX12_add_47 rfl (lv_at hl 2 rfl) ?_
  refine lv_bipush (v := 8) hx hb dX12_add_48 (by decide) ?_
  refine lv_iload hx hb dX12_add_50 (lv_at hl 0 rfl) ?_
  refine lv_imul hx hb dX12_add_52 ?_
  refine lv_topi (fun v17 ev17 => ?_)
  have ev17 : v17 = 24 := ev17.trans (by decide +kernel)
  subst ev17
  refine lv_lshr hx hb dX12_add_53 rfl ?_
  refine lv_topl (fun v18 _ => ?_)
  refine lv_ldc2 (v := 255) hx hb hown (hts (.constantLong RX12 87 255) (by decide +kernel)) dX12_add_54 ?_
  refine lv_land hx hb dX12_add_57 ?_
  refine lv_topl (fun v19 _ => ?_)
  refine lv_l2i hx hb dX12_add_58 rfl ?_
  refine lv_topi (fun v20 _ => ?_)
  refine va_iast hx hb hK hP hD hS 1 1 rfl rfl (by unfold vp_in; decide) dX12_add_59 (fun H locs hP hD hS => ?_)
  have hP : va_P D vwCl [(h0, .inr (16, [.int 0, .int 3, .ref tp, w2, w3, w4, w5, w6, w7, w8, w9, w10, w11, w12, w13, w14, w15, w16, w17, w18, w19, w20, w21, w22, w23, w24, w25, w26, w27, w28, w29, w30, w31, w32, w33, w34, w35, w36, w37, w38, w39, w40, w41, w42, w43, w44, w45, w46, w47, w48, w49, w50, w51, w52, w53, w54, w55, w56, w57, w58, w59, w60, w61, w62])), (tp, .inl (y 1, 4096, .inl (upd (upd (upd (upd f (0 : Int32).toNatClampNeg v5) (1 : Int32).toNatClampNeg v10) (2 : Int32).toNatClampNeg v15) (3 : Int32).toNatClampNeg v20)))] H := hP
  have hD : va_D A [(h0, .inr (16, [.int 0, .int 3, .ref tp, w2, w3, w4, w5, w6, w7, w8, w9, w10, w11, w12, w13, w14, w15, w16, w17, w18, w19, w20, w21, w22, w23, w24, w25, w26, w27, w28, w29, w30, w31, w32, w33, w34, w35, w36, w37, w38, w39, w40, w41, w42, w43, w44, w45, w46, w47, w48, w49, w50, w51, w52, w53, w54, w55, w56, w57, w58, w59, w60, w61, w62])), (tp, .inl (y 1, 4096, .inl (upd (upd (upd (upd f (0 : Int32).toNatClampNeg v5) (1 : Int32).toNatClampNeg v10) (2 : Int32).toNatClampNeg v15) (3 : Int32).toNatClampNeg v20)))] := hD
  refine lv_aload_n hx hb dX12_add_60 rfl (lv_at hl 1 rfl) ?_
  refine lv_dup hx hb dX12_add_61 rfl ?_
  refine va_get (D := D) (ci := 16) (v := .int 3) (C := RX12) (T := TX12) (N := 64) hx hb hts (by decide +kernel) hown hK hP 0 rfl rfl 1 (by decide) (hts (.fieldLink RX12 84 "SignetRingModel" "taped" "I") (by decide +kernel)) (fun _ h9 => h9) rfl dX12_add_62 ?_
  refine lv_iconst (v := 1) hx hb dX12_add_65 (by decide) ?_
  refine lv_iadd hx hb dX12_add_66 ?_
  refine lv_topi (fun v21 ev21 => ?_)
  have ev21 : v21 = 4 := ev21.trans (by decide +kernel)
  subst ev21
  refine va_put (D := D) (ci := 16) (v := .int 4) (ty := .int) (C := RX12) (T := TX12) (N := 64) hx hb hts (by decide +kernel) tyX12 tyX12_ok nmX12 hown hK hP hD hS 0 rfl rfl 1 (by decide) (hts (.fieldLink RX12 84 "SignetRingModel" "taped" "I") (by decide +kernel)) (fun _ h9 => h9) rfl (by decide +kernel) rfl rfl (Nat.le_of_ble_eq_true rfl) dX12_add_67 (fun H locs hP hD hS => ?_)
  have hP : va_P D vwCl [(h0, .inr (16, [.int 0, .int 4, .ref tp, w2, w3, w4, w5, w6, w7, w8, w9, w10, w11, w12, w13, w14, w15, w16, w17, w18, w19, w20, w21, w22, w23, w24, w25, w26, w27, w28, w29, w30, w31, w32, w33, w34, w35, w36, w37, w38, w39, w40, w41, w42, w43, w44, w45, w46, w47, w48, w49, w50, w51, w52, w53, w54, w55, w56, w57, w58, w59, w60, w61, w62])), (tp, .inl (y 1, 4096, .inl (upd (upd (upd (upd f (0 : Int32).toNatClampNeg v5) (1 : Int32).toNatClampNeg v10) (2 : Int32).toNatClampNeg v15) (3 : Int32).toNatClampNeg v20)))] H := hP
  have hD : va_D A [(h0, .inr (16, [.int 0, .int 4, .ref tp, w2, w3, w4, w5, w6, w7, w8, w9, w10, w11, w12, w13, w14, w15, w16, w17, w18, w19, w20, w21, w22, w23, w24, w25, w26, w27, w28, w29, w30, w31, w32, w33, w34, w35, w36, w37, w38, w39, w40, w41, w42, w43, w44, w45, w46, w47, w48, w49, w50, w51, w52, w53, w54, w55, w56, w57, w58, w59, w60, w61, w62])), (tp, .inl (y 1, 4096, .inl (upd (upd (upd (upd f (0 : Int32).toNatClampNeg v5) (1 : Int32).toNatClampNeg v10) (2 : Int32).toNatClampNeg v15) (3 : Int32).toNatClampNeg v20)))] := hD
  refine lv_iinc (v := 4) (lv' := [(4, .int 4), (0, .ref h0), (1, .long wd), (3, .int 6)]) hx hb dX12_add_70 hl (k := 0) rfl (by decide) (by decide) rfl (fun ls hl => ?_)
  refine lv_goto (tgt := 33) hx hb dX12_add_73 (by decide) ?_
  refine lv_iload hx hb dX12_add_33 (lv_at hl 0 rfl) ?_
  refine lv_iload_n hx hb dX12_add_35 rfl (lv_at hl 3 rfl) ?_
  refine lv_icmp_ge (tgt := 76) hx hb dX12_add_36 (by decide) (fun c9 => absurd c9 (by decide)) (fun _ => ?_)
  refine lv_aload_n hx hb dX12_add_39 rfl (lv_at hl 1 rfl) ?_
  refine va_get (D := D) (ci := 16) (v := .ref tp) (C := RX12) (T := TX12) (N := 64) hx hb hts (by decide +kernel) hown hK hP 0 rfl rfl 2 (by decide) (hts (.fieldLink RX12 7 "SignetRingModel" "tape" "[I") (by decide +kernel)) (fun _ h9 => h9) rfl dX12_add_40 ?_
  refine lv_aload_n hx hb dX12_add_43 rfl (lv_at hl 1 rfl) ?_
  refine va_get (D := D) (ci := 16) (v := .int 4) (C := RX12) (T := TX12) (N := 64) hx hb hts (by decide +kernel) hown hK hP 0 rfl rfl 1 (by decide) (hts (.fieldLink RX12 84 "SignetRingModel" "taped" "I") (by decide +kernel)) (fun _ h9 => h9) rfl dX12_add_44 ?_
  refine lv_lload_n hx hb dX12_add_47 rfl (lv_at hl 2 rfl) ?_
  refine lv_bipush (v := 8) hx hb dX12_add_48 (by decide) ?_
  refine lv_iload hx hb dX12_add_50 (lv_at hl 0 rfl) ?_
  refine lv_imul hx hb dX12_add_52 ?_
  refine lv_topi (fun v22 ev22 => ?_)
  have ev22 : v22 = 32 := ev22.trans (by decide +kernel)
  subst ev22
  refine lv_lshr hx hb dX12_add_53 rfl ?_
  refine lv_topl (fun v23 _ => ?_)
  refine lv_ldc2 (v := 255) hx hb hown (hts (.constantLong RX12 87 255) (by decide +kernel)) dX12_add_54 ?_
  refine lv_land hx hb dX12_add_57 ?_
  refine lv_topl (fun v24 _ => ?_)
  refine lv_l2i hx hb dX12_add_58 rfl ?_
  refine lv_topi (fun v25 _ => ?_)
  refine va_iast hx hb hK hP hD hS 1 1 rfl rfl (by unfold vp_in; decide) dX12_add_59 (fun H locs hP hD hS => ?_)
  have hP : va_P D vwCl [(h0, .inr (16, [.int 0, .int 4, .ref tp, w2, w3, w4, w5, w6, w7, w8, w9, w10, w11, w12, w13, w14, w15, w16, w17, w18, w19, w20, w21, w22, w23, w24, w25, w26, w27, w28, w29, w30, w31, w32, w33, w34, w35, w36, w37, w38, w39, w40, w41, w42, w43, w44, w45, w46, w47, w48, w49, w50, w51, w52, w53, w54, w55, w56, w57, w58, w59, w60, w61, w62])), (tp, .inl (y 1, 4096, .inl (upd (upd (upd (upd (upd f (0 : Int32).toNatClampNeg v5) (1 : Int32).toNatClampNeg v10) (2 : Int32).toNatClampNeg v15) (3 : Int32).toNatClampNeg v20) (4 : Int32).toNatClampNeg v25)))] H := hP
  have hD : va_D A [(h0, .inr (16, [.int 0, .int 4, .ref tp, w2, w3, w4, w5, w6, w7, w8, w9, w10, w11, w12, w13, w14, w15, w16, w17, w18, w19, w20, w21, w22, w23, w24, w25, w26, w27, w28, w29, w30, w31, w32, w33, w34, w35, w36, w37, w38, w39, w40, w41, w42, w43, w44, w45, w46, w47, w48, w49, w50, w51, w52, w53, w54, w55, w56, w57, w58, w59, w60, w61, w62])), (tp, .inl (y 1, 4096, .inl (upd (upd (upd (upd (upd f (0 : Int32).toNatClampNeg v5) (1 : Int32).toNatClampNeg v10) (2 : Int32).toNatClampNeg v15) (3 : Int32).toNatClampNeg v20) (4 : Int32).toNatClampNeg v25)))] := hD
  refine lv_aload_n hx hb dX12_add_60 rfl (lv_at hl 1 rfl) ?_
  refine lv_dup hx hb dX12_add_61 rfl ?_
  refine va_get (D := D) (ci := 16) (v := .int 4) (C := RX12) (T := TX12) (N := 64) hx hb hts (by decide +kernel) hown hK hP 0 rfl rfl 1 (by decide) (hts (.fieldLink RX12 84 "SignetRingModel" "taped" "I") (by decide +kernel)) (fun _ h9 => h9) rfl dX12_add_62 ?_
  refine lv_iconst (v := 1) hx hb dX12_add_65 (by decide) ?_
  refine lv_iadd hx hb dX12_add_66 ?_
  refine lv_topi (fun v26 ev26 => ?_)
  have ev26 : v26 = 5 := ev26.trans (by decide +kernel)
  subst ev26
  refine va_put (D := D) (ci := 16) (v := .int 5) (ty := .int) (C := RX12) (T := TX12) (N := 64) hx hb hts (by decide +kernel) tyX12 tyX12_ok nmX12 hown hK hP hD hS 0 rfl rfl 1 (by decide) (hts (.fieldLink RX12 84 "SignetRingModel" "taped" "I") (by decide +kernel)) (fun _ h9 => h9) rfl (by decide +kernel) rfl rfl (Nat.le_of_ble_eq_true rfl) dX12_add_67 (fun H locs hP hD hS => ?_)
  have hP : va_P D vwCl [(h0, .inr (16, [.int 0, .int 5, .ref tp, w2, w3, w4, w5, w6, w7, w8, w9, w10, w11, w12, w13, w14, w15, w16, w17, w18, w19, w20, w21, w22, w23, w24, w25, w26, w27, w28, w29, w30, w31, w32, w33, w34, w35, w36, w37, w38, w39, w40, w41, w42, w43, w44, w45, w46, w47, w48, w49, w50, w51, w52, w53, w54, w55, w56, w57, w58, w59, w60, w61, w62])), (tp, .inl (y 1, 4096, .inl (upd (upd (upd (upd (upd f (0 : Int32).toNatClampNeg v5) (1 : Int32).toNatClampNeg v10) (2 : Int32).toNatClampNeg v15) (3 : Int32).toNatClampNeg v20) (4 : Int32).toNatClampNeg v25)))] H := hP
  have hD : va_D A [(h0, .inr (16, [.int 0, .int 5, .ref tp, w2, w3, w4, w5, w6, w7, w8, w9, w10, w11, w12, w13, w14, w15, w16, w17, w18, w19, w20, w21, w22, w23, w24, w25, w26, w27, w28, w29, w30, w31, w32, w33, w34, w35, w36, w37, w38, w39, w40, w41, w42, w43, w44, w45, w46, w47, w48, w49, w50, w51, w52, w53, w54, w55, w56, w57, w58, w59, w60, w61, w62])), (tp, .inl (y 1, 4096, .inl (upd (upd (upd (upd (upd f (0 : Int32).toNatClampNeg v5) (1 : Int32).toNatClampNeg v10) (2 : Int32).toNatClampNeg v15) (3 : Int32).toNatClampNeg v20) (4 : Int32).toNatClampNeg v25)))] := hD
  refine lv_iinc (v := 5) (lv' := [(4, .int 5), (0, .ref h0), (1, .long wd), (3, .int 6)]) hx hb dX12_add_70 hl (k := 0) rfl (by decide) (by decide) rfl (fun ls hl => ?_)
  refine lv_goto (tgt := 33) hx hb dX12_add_73 (by decide) ?_
  refine lv_iload hx hb dX12_add_33 (lv_at hl 0 rfl) ?_
  refine lv_iload_n hx hb dX12_add_35 rfl (lv_at hl 3 rfl) ?_
  refine lv_icmp_ge (tgt := 76) hx hb dX12_add_36 (by decide) (fun c9 => absurd c9 (by decide)) (fun _ => ?_)
  refine lv_aload_n hx hb dX12_add_39 rfl (lv_at hl 1 rfl) ?_
  refine va_get (D := D) (ci := 16) (v := .ref tp) (C := RX12) (T := TX12) (N := 64) hx hb hts (by decide +kernel) hown hK hP 0 rfl rfl 2 (by decide) (hts (.fieldLink RX12 7 "SignetRingModel" "tape" "[I") (by decide +kernel)) (fun _ h9 => h9) rfl dX12_add_40 ?_
  refine lv_aload_n hx hb dX12_add_43 rfl (lv_at hl 1 rfl) ?_
  refine va_get (D := D) (ci := 16) (v := .int 5) (C := RX12) (T := TX12) (N := 64) hx hb hts (by decide +kernel) hown hK hP 0 rfl rfl 1 (by decide) (hts (.fieldLink RX12 84 "SignetRingModel" "taped" "I") (by decide +kernel)) (fun _ h9 => h9) rfl dX12_add_44 ?_
  refine lv_lload_n hx hb dX12_add_47 rfl (lv_at hl 2 rfl) ?_
  refine lv_bipush (v := 8) hx hb dX12_add_48 (by decide) ?_
  refine lv_iload hx hb dX12_add_50 (lv_at hl 0 rfl) ?_
  refine lv_imul hx hb dX12_add_52 ?_
  refine lv_topi (fun v27 ev27 => ?_)
  have ev27 : v27 = 40 := ev27.trans (by decide +kernel)
  subst ev27
  refine lv_lshr hx hb dX12_add_53 rfl ?_
  refine lv_topl (fun v28 _ => ?_)
  refine lv_ldc2 (v := 255) hx hb hown (hts (.constantLong RX12 87 255) (by decide +kernel)) dX12_add_54 ?_
  refine lv_land hx hb dX12_add_57 ?_
  refine lv_topl (fun v29 _ => ?_)
  refine lv_l2i hx hb dX12_add_58 rfl ?_
  refine lv_topi (fun v30 _ => ?_)
  refine va_iast hx hb hK hP hD hS 1 1 rfl rfl (by unfold vp_in; decide) dX12_add_59 (fun H locs hP hD hS => ?_)
  have hP : va_P D vwCl [(h0, .inr (16, [.int 0, .int 5, .ref tp, w2, w3, w4, w5, w6, w7, w8, w9, w10, w11, w12, w13, w14, w15, w16, w17, w18, w19, w20, w21, w22, w23, w24, w25, w26, w27, w28, w29, w30, w31, w32, w33, w34, w35, w36, w37, w38, w39, w40, w41, w42, w43, w44, w45, w46, w47, w48, w49, w50, w51, w52, w53, w54, w55, w56, w57, w58, w59, w60, w61, w62])), (tp, .inl (y 1, 4096, .inl (upd (upd (upd (upd (upd (upd f (0 : Int32).toNatClampNeg v5) (1 : Int32).toNatClampNeg v10) (2 : Int32).toNatClampNeg v15) (3 : Int32).toNatClampNeg v20) (4 : Int32).toNatClampNeg v25) (5 : Int32).toNatClampNeg v30)))] H := hP
  have hD : va_D A [(h0, .inr (16, [.int 0, .int 5, .ref tp, w2, w3, w4, w5, w6, w7, w8, w9, w10, w11, w12, w13, w14, w15, w16, w17, w18, w19, w20, w21, w22, w23, w24, w25, w26, w27, w28, w29, w30, w31, w32, w33, w34, w35, w36, w37, w38, w39, w40, w41, w42, w43, w44, w45, w46, w47, w48, w49, w50, w51, w52, w53, w54, w55, w56, w57, w58, w59, w60, w61, w62])), (tp, .inl (y 1, 4096, .inl (upd (upd (upd (upd (upd (upd f (0 : Int32).toNatClampNeg v5) (1 : Int32).toNatClampNeg v10) (2 : Int32).toNatClampNeg v15) (3 : Int32).toNatClampNeg v20) (4 : Int32).toNatClampNeg v25) (5 : Int32).toNatClampNeg v30)))] := hD
  refine lv_aload_n hx hb dX12_add_60 rfl (lv_at hl 1 rfl) ?_
  refine lv_dup hx hb dX12_add_61 rfl ?_
  refine va_get (D := D) (ci := 16) (v := .int 5) (C := RX12) (T := TX12) (N := 64) hx hb hts (by decide +kernel) hown hK hP 0 rfl rfl 1 (by decide) (hts (.fieldLink RX12 84 "SignetRingModel" "taped" "I") (by decide +kernel)) (fun _ h9 => h9) rfl dX12_add_62 ?_
  refine lv_iconst (v := 1) hx hb dX12_add_65 (by decide) ?_
  refine lv_iadd hx hb dX12_add_66 ?_
  refine lv_topi (fun v31 ev31 => ?_)
  have ev31 : v31 = 6 := ev31.trans (by decide +kernel)
  subst ev31
  refine va_put (D := D) (ci := 16) (v := .int 6) (ty := .int) (C := RX12) (T := TX12) (N := 64) hx hb hts (by decide +kernel) tyX12 tyX12_ok nmX12 hown hK hP hD hS 0 rfl rfl 1 (by decide) (hts (.fieldLink RX12 84 "SignetRingModel" "taped" "I") (by decide +kernel)) (fun _ h9 => h9) rfl (by decide +kernel) rfl rfl (Nat.le_of_ble_eq_true rfl) dX12_add_67 (fun H locs hP hD hS => ?_)
  have hP : va_P D vwCl [(h0, .inr (16, [.int 0, .int 6, .ref tp, w2, w3, w4, w5, w6, w7, w8, w9, w10, w11, w12, w13, w14, w15, w16, w17, w18, w19, w20, w21, w22, w23, w24, w25, w26, w27, w28, w29, w30, w31, w32, w33, w34, w35, w36, w37, w38, w39, w40, w41, w42, w43, w44, w45, w46, w47, w48, w49, w50, w51, w52, w53, w54, w55, w56, w57, w58, w59, w60, w61, w62])), (tp, .inl (y 1, 4096, .inl (upd (upd (upd (upd (upd (upd f (0 : Int32).toNatClampNeg v5) (1 : Int32).toNatClampNeg v10) (2 : Int32).toNatClampNeg v15) (3 : Int32).toNatClampNeg v20) (4 : Int32).toNatClampNeg v25) (5 : Int32).toNatClampNeg v30)))] H := hP
  have hD : va_D A [(h0, .inr (16, [.int 0, .int 6, .ref tp, w2, w3, w4, w5, w6, w7, w8, w9, w10, w11, w12, w13, w14, w15, w16, w17, w18, w19, w20, w21, w22, w23, w24, w25, w26, w27, w28, w29, w30, w31, w32, w33, w34, w35, w36, w37, w38, w39, w40, w41, w42, w43, w44, w45, w46, w47, w48, w49, w50, w51, w52, w53, w54, w55, w56, w57, w58, w59, w60, w61, w62])), (tp, .inl (y 1, 4096, .inl (upd (upd (upd (upd (upd (upd f (0 : Int32).toNatClampNeg v5) (1 : Int32).toNatClampNeg v10) (2 : Int32).toNatClampNeg v15) (3 : Int32).toNatClampNeg v20) (4 : Int32).toNatClampNeg v25) (5 : Int32).toNatClampNeg v30)))] := hD
  refine lv_iinc (v := 6) (lv' := [(4, .int 6), (0, .ref h0), (1, .long wd), (3, .int 6)]) hx hb dX12_add_70 hl (k := 0) rfl (by decide) (by decide) rfl (fun ls hl => ?_)
  refine lv_goto (tgt := 33) hx hb dX12_add_73 (by decide) ?_
  refine lv_iload hx hb dX12_add_33 (lv_at hl 0 rfl) ?_
  refine lv_iload_n hx hb dX12_add_35 rfl (lv_at hl 3 rfl) ?_
  refine lv_icmp_ge (tgt := 76) hx hb dX12_add_36 (by decide) (fun _ => ?_) (fun c9 => absurd (by decide) c9)
  refine lv_iconst (v := 1) hx hb dX12_add_76 (by decide) ?_
  have hP9 := hP.sub (ws' := [(h0, .inr (16, [.int 0, .int 6, .ref tp, w2, w3, w4, w5, w6, w7, w8, w9, w10, w11, w12, w13, w14, w15, w16, w17, w18, w19, w20, w21, w22, w23, w24, w25, w26, w27, w28, w29, w30, w31, w32, w33, w34, w35, w36, w37, w38, w39, w40, w41, w42, w43, w44, w45, w46, w47, w48, w49, w50, w51, w52, w53, w54, w55, w56, w57, w58, w59, w60, w61, w62])), (tp, .inl (y 1, 4096, .inl (upd (upd (upd (upd (upd (upd f (0 : Int32).toNatClampNeg v5) (1 : Int32).toNatClampNeg v10) (2 : Int32).toNatClampNeg v15) (3 : Int32).toNatClampNeg v20) (4 : Int32).toNatClampNeg v25) (5 : Int32).toNatClampNeg v30)))]) [0, 1] rfl
  have hD9 := hD.sub (ws' := [(h0, .inr (16, [.int 0, .int 6, .ref tp, w2, w3, w4, w5, w6, w7, w8, w9, w10, w11, w12, w13, w14, w15, w16, w17, w18, w19, w20, w21, w22, w23, w24, w25, w26, w27, w28, w29, w30, w31, w32, w33, w34, w35, w36, w37, w38, w39, w40, w41, w42, w43, w44, w45, w46, w47, w48, w49, w50, w51, w52, w53, w54, w55, w56, w57, w58, w59, w60, w61, w62])), (tp, .inl (y 1, 4096, .inl (upd (upd (upd (upd (upd (upd f (0 : Int32).toNatClampNeg v5) (1 : Int32).toNatClampNeg v10) (2 : Int32).toNatClampNeg v15) (3 : Int32).toNatClampNeg v20) (4 : Int32).toNatClampNeg v25) (5 : Int32).toNatClampNeg v30)))]) [0, 1] (by decide) rfl
  refine W.widen (k := 0) (n := 0) (Nat.le_of_ble_eq_true rfl) (Nat.le_of_ble_eq_true rfl) ?_
  exact W.zret (v := 1) hx hb hr (by decide) (fun t ht hW => ⟨⟨1, (), rfl, rfl, (upd (upd (upd (upd (upd (upd f (0 : Int32).toNatClampNeg v5) (1 : Int32).toNatClampNeg v10) (2 : Int32).toNatClampNeg v15) (3 : Int32).toNatClampNeg v20) (4 : Int32).toNatClampNeg v25) (5 : Int32).toNatClampNeg v30), by rw [ht]; exact hP9, hD9⟩, hS.F ht⟩) hS.2.2 dX12_add_77
def wz_c_M_add_7 : List Cond := .code yX12_add cX12_add 5 (some .boolean) :: ([.fieldLink RX12 78 "SignetRingModel" "thrown" "I", .fieldLink RX12 84 "SignetRingModel" "taped" "I", .fieldLink RX12 7 "SignetRingModel" "tape" "[I", .constantLong RX12 87 255] ++ (wsX120 ++ ([])))
set_option maxHeartbeats 4000000 in
set_option maxRecDepth 100000 in
theorem c_M_add_7 (l : Launch) (D : va_G) (y : Nat → ClassId) (sz : Nat) (h0 : Nat) (tp : Nat) (w1 : Value) (w2 : Value) (w3 : Value) (w4 : Value) (w5 : Value) (w6 : Value) (w7 : Value) (w8 : Value) (w9 : Value) (w10 : Value) (w11 : Value) (w12 : Value) (w13 : Value) (w14 : Value) (w15 : Value) (w16 : Value) (w17 : Value) (w18 : Value) (w19 : Value) (w20 : Value) (w21 : Value) (w22 : Value) (w23 : Value) (w24 : Value) (w25 : Value) (w26 : Value) (w27 : Value) (w28 : Value) (w29 : Value) (w30 : Value) (w31 : Value) (w32 : Value) (w33 : Value) (w34 : Value) (w35 : Value) (w36 : Value) (w37 : Value) (w38 : Value) (w39 : Value) (w40 : Value) (w41 : Value) (w42 : Value) (w43 : Value) (w44 : Value) (w45 : Value) (w46 : Value) (w47 : Value) (w48 : Value) (w49 : Value) (w50 : Value) (w51 : Value) (w52 : Value) (w53 : Value) (w54 : Value) (w55 : Value) (w56 : Value) (w57 : Value) (w58 : Value) (w59 : Value) (w60 : Value) (w61 : Value) (w62 : Value) (f : Nat → Int32) (wd : Int64) : Met l yX12_add wz_c_M_add_7 ({ frames := 0, cells := 0, slots := 0, locals := 0 }) (va_Pc [.ref h0, .long wd, .int 7] (zB D y [(h0, .inr (16, [w1, .int 0, .ref tp, w2, w3, w4, w5, w6, w7, w8, w9, w10, w11, w12, w13, w14, w15, w16, w17, w18, w19, w20, w21, w22, w23, w24, w25, w26, w27, w28, w29, w30, w31, w32, w33, w34, w35, w36, w37, w38, w39, w40, w41, w42, w43, w44, w45, w46, w47, w48, w49, w50, w51, w52, w53, w54, w55, w56, w57, w58, w59, w60, w61, w62])), (tp, .inl (y 1, 4096, .inl f))] sz [] [] [] [])) (va_Qi (fun (r : Int32) (_ : Unit) => r = 1) (fun _ t => ∃ fz0 : Nat → Int32, va_P D vwCl [(h0, .inr (16, [.int 0, .int 7, .ref tp, w2, w3, w4, w5, w6, w7, w8, w9, w10, w11, w12, w13, w14, w15, w16, w17, w18, w19, w20, w21, w22, w23, w24, w25, w26, w27, w28, w29, w30, w31, w32, w33, w34, w35, w36, w37, w38, w39, w40, w41, w42, w43, w44, w45, w46, w47, w48, w49, w50, w51, w52, w53, w54, w55, w56, w57, w58, w59, w60, w61, w62])), (tp, .inl (y 1, 4096, .inl fz0))] t.heap ∧ va_D (va_A [(h0, .inr (16, [w1, .int 0, .ref tp, w2, w3, w4, w5, w6, w7, w8, w9, w10, w11, w12, w13, w14, w15, w16, w17, w18, w19, w20, w21, w22, w23, w24, w25, w26, w27, w28, w29, w30, w31, w32, w33, w34, w35, w36, w37, w38, w39, w40, w41, w42, w43, w44, w45, w46, w47, w48, w49, w50, w51, w52, w53, w54, w55, w56, w57, w58, w59, w60, w61, w62])), (tp, .inl (y 1, 4096, .inl f))] sz) [(h0, .inr (16, [.int 0, .int 7, .ref tp, w2, w3, w4, w5, w6, w7, w8, w9, w10, w11, w12, w13, w14, w15, w16, w17, w18, w19, w20, w21, w22, w23, w24, w25, w26, w27, w28, w29, w30, w31, w32, w33, w34, w35, w36, w37, w38, w39, w40, w41, w42, w43, w44, w45, w46, w47, w48, w49, w50, w51, w52, w53, w54, w55, w56, w57, w58, w59, w60, w61, w62])), (tp, .inl (y 1, 4096, .inl fz0))]) (va_A [(h0, .inr (16, [w1, .int 0, .ref tp, w2, w3, w4, w5, w6, w7, w8, w9, w10, w11, w12, w13, w14, w15, w16, w17, w18, w19, w20, w21, w22, w23, w24, w25, w26, w27, w28, w29, w30, w31, w32, w33, w34, w35, w36, w37, w38, w39, w40, w41, w42, w43, w44, w45, w46, w47, w48, w49, w50, w51, w52, w53, w54, w55, w56, w57, w58, w59, w60, w61, w62])), (tp, .inl (y 1, 4096, .inl f))] sz)) 0 0 (va_A [(h0, .inr (16, [w1, .int 0, .ref tp, w2, w3, w4, w5, w6, w7, w8, w9, w10, w11, w12, w13, w14, w15, w16, w17, w18, w19, w20, w21, w22, w23, w24, w25, w26, w27, w28, w29, w30, w31, w32, w33, w34, w35, w36, w37, w38, w39, w40, w41, w42, w43, w44, w45, w46, w47, w48, w49, w50, w51, w52, w53, w54, w55, w56, w57, w58, w59, w60, w61, w62])), (tp, .inl (y 1, 4096, .inl f))] sz) := by
  refine Met.ofW (cc := cX12_add) (maxL := 5) (ret := (some .boolean)) (by decide) rfl ?_
  intro p e s m args below meth c s₁ B hml hv
  obtain ⟨rfl, hsz, hP, hK, hD0, hN, hE, hO, hT, hG⟩ := hv
  have hx := B.exec
  have hb := B.bytes
  have hr := B.returns
  have hts := atoms_spec (ws := wz_c_M_add_7) B.pre
  have hown : s.vm.findClass RX12 = some m.cls := findClass_of_methodNamed B.named
  have hlocks := B.notSynchronized
  subst hsz
  have hD := hD0.self (sz := s.heap.size)
  generalize hAe : va_A [(h0, .inr (16, [w1, .int 0, .ref tp, w2, w3, w4, w5, w6, w7, w8, w9, w10, w11, w12, w13, w14, w15, w16, w17, w18, w19, w20, w21, w22, w23, w24, w25, w26, w27, w28, w29, w30, w31, w32, w33, w34, w35, w36, w37, w38, w39, w40, w41, w42, w43, w44, w45, w46, w47, w48, w49, w50, w51, w52, w53, w54, w55, w56, w57, w58, w59, w60, w61, w62])), (tp, .inl (y 1, 4096, .inl f))] s.heap.size = A at hD hE hT hG ⊢
  have hA : ∀ q : Nat, s.heap.size ≤ q → A q := fun q h => by rw [← hAe]; exact Or.inr h
  have hS : va_S A s.heap s.heap [] := va_S.rf
  have hl := lv_entry ([.ref h0, .long wd, .int 7]) (n := 5) (Nat.le_of_ble_eq_true rfl)
  rw [lg_entry_eq]
  generalize (lg_sl ([.ref h0, .long wd, .int 7]) ++ List.replicate (5 - (lg_sl ([.ref h0, .long wd, .int 7])).length) Slot.unset).toArray = ls at hl ⊢
  have hl : lv_has ls 5 [(0, .ref h0), (1, .long wd), (3, .int 7)] := hl
  refine lv_aload_n hx hb dX12_add_0 rfl (lv_at hl 0 rfl) ?_
  refine lv_iconst (v := 0) hx hb dX12_add_1 (by decide) ?_
  refine va_put (D := D) (ci := 16) (v := .int 0) (ty := .int) (C := RX12) (T := TX12) (N := 64) hx hb hts (by decide +kernel) tyX12 tyX12_ok nmX12 hown hK hP hD hS 0 rfl rfl 0 (by decide) (hts (.fieldLink RX12 78 "SignetRingModel" "thrown" "I") (by decide +kernel)) (fun _ h9 => h9) rfl (by decide +kernel) rfl rfl (Nat.le_of_ble_eq_true rfl) dX12_add_2 (fun H locs hP hD hS => ?_)
  have hP : va_P D vwCl [(h0, .inr (16, [.int 0, .int 0, .ref tp, w2, w3, w4, w5, w6, w7, w8, w9, w10, w11, w12, w13, w14, w15, w16, w17, w18, w19, w20, w21, w22, w23, w24, w25, w26, w27, w28, w29, w30, w31, w32, w33, w34, w35, w36, w37, w38, w39, w40, w41, w42, w43, w44, w45, w46, w47, w48, w49, w50, w51, w52, w53, w54, w55, w56, w57, w58, w59, w60, w61, w62])), (tp, .inl (y 1, 4096, .inl f))] H := hP
  have hD : va_D A [(h0, .inr (16, [.int 0, .int 0, .ref tp, w2, w3, w4, w5, w6, w7, w8, w9, w10, w11, w12, w13, w14, w15, w16, w17, w18, w19, w20, w21, w22, w23, w24, w25, w26, w27, w28, w29, w30, w31, w32, w33, w34, w35, w36, w37, w38, w39, w40, w41, w42, w43, w44, w45, w46, w47, w48, w49, w50, w51, w52, w53, w54, w55, w56, w57, w58, w59, w60, w61, w62])), (tp, .inl (y 1, 4096, .inl f))] := hD
  refine lv_iload_n hx hb dX12_add_5 rfl (lv_at hl 2 rfl) ?_
  refine lv_iconst (v := 1) hx hb dX12_add_6 (by decide) ?_
  refine lv_icmp_lt (tgt := 28) hx hb dX12_add_7 (by decide) (fun c9 => absurd c9 (by decide)) (fun _ => ?_)
  refine lv_iload_n hx hb dX12_add_10 rfl (lv_at hl 2 rfl) ?_
  refine lv_bipush (v := 8) hx hb dX12_add_11 (by decide) ?_
  refine lv_icmp_gt (tgt := 28) hx hb dX12_add_13 (by decide) (fun c9 => absurd c9 (by decide)) (fun _ => ?_)
  refine lv_aload_n hx hb dX12_add_16 rfl (lv_at hl 0 rfl) ?_
  refine va_get (D := D) (ci := 16) (v := .int 0) (C := RX12) (T := TX12) (N := 64) hx hb hts (by decide +kernel) hown hK hP 0 rfl rfl 1 (by decide) (hts (.fieldLink RX12 84 "SignetRingModel" "taped" "I") (by decide +kernel)) (fun _ h9 => h9) rfl dX12_add_17 ?_
  refine lv_iload_n hx hb dX12_add_20 rfl (lv_at hl 2 rfl) ?_
  refine lv_iadd hx hb dX12_add_21 ?_
  refine lv_topi (fun v1 ev1 => ?_)
  have ev1 : v1 = 7 := ev1.trans (by decide +kernel)
  subst ev1
  refine lv_sipush (v := 4096) hx hb dX12_add_22 (by decide) ?_
  refine lv_icmp_le (tgt := 30) hx hb dX12_add_25 (by decide) (fun _ => ?_) (fun c9 => absurd (by decide) c9)
  refine lv_iconst (v := 0) hx hb dX12_add_30 (by decide) ?_
  refine lv_istore (lv' := [(4, .int 0), (0, .ref h0), (1, .long wd), (3, .int 7)]) hx hb dX12_add_31 hl (by decide) rfl (fun ls hl => ?_)
  refine lv_iload hx hb dX12_add_33 (lv_at hl 0 rfl) ?_
  refine lv_iload_n hx hb dX12_add_35 rfl (lv_at hl 3 rfl) ?_
  refine lv_icmp_ge (tgt := 76) hx hb dX12_add_36 (by decide) (fun c9 => absurd c9 (by decide)) (fun _ => ?_)
  refine lv_aload_n hx hb dX12_add_39 rfl (lv_at hl 1 rfl) ?_
  refine va_get (D := D) (ci := 16) (v := .ref tp) (C := RX12) (T := TX12) (N := 64) hx hb hts (by decide +kernel) hown hK hP 0 rfl rfl 2 (by decide) (hts (.fieldLink RX12 7 "SignetRingModel" "tape" "[I") (by decide +kernel)) (fun _ h9 => h9) rfl dX12_add_40 ?_
  refine lv_aload_n hx hb dX12_add_43 rfl (lv_at hl 1 rfl) ?_
  refine va_get (D := D) (ci := 16) (v := .int 0) (C := RX12) (T := TX12) (N := 64) hx hb hts (by decide +kernel) hown hK hP 0 rfl rfl 1 (by decide) (hts (.fieldLink RX12 84 "SignetRingModel" "taped" "I") (by decide +kernel)) (fun _ h9 => h9) rfl dX12_add_44 ?_
  refine lv_lload_n hx hb dX12_add_47 rfl (lv_at hl 2 rfl) ?_
  refine lv_bipush (v := 8) hx hb dX12_add_48 (by decide) ?_
  refine lv_iload hx hb dX12_add_50 (lv_at hl 0 rfl) ?_
  refine lv_imul hx hb dX12_add_52 ?_
  refine lv_topi (fun v2 ev2 => ?_)
  have ev2 : v2 = 0 := ev2.trans (by decide +kernel)
  subst ev2
  refine lv_lshr hx hb dX12_add_53 rfl ?_
  refine lv_topl (fun v3 _ => ?_)
  refine lv_ldc2 (v := 255) hx hb hown (hts (.constantLong RX12 87 255) (by decide +kernel)) dX12_add_54 ?_
  refine lv_land hx hb dX12_add_57 ?_
  refine lv_topl (fun v4 _ => ?_)
  refine lv_l2i hx hb dX12_add_58 rfl ?_
  refine lv_topi (fun v5 _ => ?_)
  refine va_iast hx hb hK hP hD hS 1 1 rfl rfl (by unfold vp_in; decide) dX12_add_59 (fun H locs hP hD hS => ?_)
  have hP : va_P D vwCl [(h0, .inr (16, [.int 0, .int 0, .ref tp, w2, w3, w4, w5, w6, w7, w8, w9, w10, w11, w12, w13, w14, w15, w16, w17, w18, w19, w20, w21, w22, w23, w24, w25, w26, w27, w28, w29, w30, w31, w32, w33, w34, w35, w36, w37, w38, w39, w40, w41, w42, w43, w44, w45, w46, w47, w48, w49, w50, w51, w52, w53, w54, w55, w56, w57, w58, w59, w60, w61, w62])), (tp, .inl (y 1, 4096, .inl (upd f (0 : Int32).toNatClampNeg v5)))] H := hP
  have hD : va_D A [(h0, .inr (16, [.int 0, .int 0, .ref tp, w2, w3, w4, w5, w6, w7, w8, w9, w10, w11, w12, w13, w14, w15, w16, w17, w18, w19, w20, w21, w22, w23, w24, w25, w26, w27, w28, w29, w30, w31, w32, w33, w34, w35, w36, w37, w38, w39, w40, w41, w42, w43, w44, w45, w46, w47, w48, w49, w50, w51, w52, w53, w54, w55, w56, w57, w58, w59, w60, w61, w62])), (tp, .inl (y 1, 4096, .inl (upd f (0 : Int32).toNatClampNeg v5)))] := hD
  refine lv_aload_n hx hb dX12_add_60 rfl (lv_at hl 1 rfl) ?_
  refine lv_dup hx hb dX12_add_61 rfl ?_
  refine va_get (D := D) (ci := 16) (v := .int 0) (C := RX12) (T := TX12) (N := 64) hx hb hts (by decide +kernel) hown hK hP 0 rfl rfl 1 (by decide) (hts (.fieldLink RX12 84 "SignetRingModel" "taped" "I") (by decide +kernel)) (fun _ h9 => h9) rfl dX12_add_62 ?_
  refine lv_iconst (v := 1) hx hb dX12_add_65 (by decide) ?_
  refine lv_iadd hx hb dX12_add_66 ?_
  refine lv_topi (fun v6 ev6 => ?_)
  have ev6 : v6 = 1 := ev6.trans (by decide +kernel)
  subst ev6
  refine va_put (D := D) (ci := 16) (v := .int 1) (ty := .int) (C := RX12) (T := TX12) (N := 64) hx hb hts (by decide +kernel) tyX12 tyX12_ok nmX12 hown hK hP hD hS 0 rfl rfl 1 (by decide) (hts (.fieldLink RX12 84 "SignetRingModel" "taped" "I") (by decide +kernel)) (fun _ h9 => h9) rfl (by decide +kernel) rfl rfl (Nat.le_of_ble_eq_true rfl) dX12_add_67 (fun H locs hP hD hS => ?_)
  have hP : va_P D vwCl [(h0, .inr (16, [.int 0, .int 1, .ref tp, w2, w3, w4, w5, w6, w7, w8, w9, w10, w11, w12, w13, w14, w15, w16, w17, w18, w19, w20, w21, w22, w23, w24, w25, w26, w27, w28, w29, w30, w31, w32, w33, w34, w35, w36, w37, w38, w39, w40, w41, w42, w43, w44, w45, w46, w47, w48, w49, w50, w51, w52, w53, w54, w55, w56, w57, w58, w59, w60, w61, w62])), (tp, .inl (y 1, 4096, .inl (upd f (0 : Int32).toNatClampNeg v5)))] H := hP
  have hD : va_D A [(h0, .inr (16, [.int 0, .int 1, .ref tp, w2, w3, w4, w5, w6, w7, w8, w9, w10, w11, w12, w13, w14, w15, w16, w17, w18, w19, w20, w21, w22, w23, w24, w25, w26, w27, w28, w29, w30, w31, w32, w33, w34, w35, w36, w37, w38, w39, w40, w41, w42, w43, w44, w45, w46, w47, w48, w49, w50, w51, w52, w53, w54, w55, w56, w57, w58, w59, w60, w61, w62])), (tp, .inl (y 1, 4096, .inl (upd f (0 : Int32).toNatClampNeg v5)))] := hD
  refine lv_iinc (v := 1) (lv' := [(4, .int 1), (0, .ref h0), (1, .long wd), (3, .int 7)]) hx hb dX12_add_70 hl (k := 0) rfl (by decide) (by decide) rfl (fun ls hl => ?_)
  refine lv_goto (tgt := 33) hx hb dX12_add_73 (by decide) ?_
  refine lv_iload hx hb dX12_add_33 (lv_at hl 0 rfl) ?_
  refine lv_iload_n hx hb dX12_add_35 rfl (lv_at hl 3 rfl) ?_
  refine lv_icmp_ge (tgt := 76) hx hb dX12_add_36 (by decide) (fun c9 => absurd c9 (by decide)) (fun _ => ?_)
  refine lv_aload_n hx hb dX12_add_39 rfl (lv_at hl 1 rfl) ?_
  refine va_get (D := D) (ci := 16) (v := .ref tp) (C := RX12) (T := TX12) (N := 64) hx hb hts (by decide +kernel) hown hK hP 0 rfl rfl 2 (by decide) (hts (.fieldLink RX12 7 "SignetRingModel" "tape" "[I") (by decide +kernel)) (fun _ h9 => h9) rfl dX12_add_40 ?_
  refine lv_aload_n hx hb dX12_add_43 rfl (lv_at hl 1 rfl) ?_
  refine va_get (D := D) (ci := 16) (v := .int 1) (C := RX12) (T := TX12) (N := 64) hx hb hts (by decide +kernel) hown hK hP 0 rfl rfl 1 (by decide) (hts (.fieldLink RX12 84 "SignetRingModel" "taped" "I") (by decide +kernel)) (fun _ h9 => h9) rfl dX12_add_44 ?_
  refine lv_lload_n hx hb dX12_add_47 rfl (lv_at hl 2 rfl) ?_
  refine lv_bipush (v := 8) hx hb dX12_add_48 (by decide) ?_
  refine lv_iload hx hb dX12_add_50 (lv_at hl 0 rfl) ?_
  refine lv_imul hx hb dX12_add_52 ?_
  refine lv_topi (fun v7 ev7 => ?_)
  have ev7 : v7 = 8 := ev7.trans (by decide +kernel)
  subst ev7
  refine lv_lshr hx hb dX12_add_53 rfl ?_
  refine lv_topl (fun v8 _ => ?_)
  refine lv_ldc2 (v := 255) hx hb hown (hts (.constantLong RX12 87 255) (by decide +kernel)) dX12_add_54 ?_
  refine lv_land hx hb dX12_add_57 ?_
  refine lv_topl (fun v9 _ => ?_)
  refine lv_l2i hx hb dX12_add_58 rfl ?_
  refine lv_topi (fun v10 _ => ?_)
  refine va_iast hx hb hK hP hD hS 1 1 rfl rfl (by unfold vp_in; decide) dX12_add_59 (fun H locs hP hD hS => ?_)
  have hP : va_P D vwCl [(h0, .inr (16, [.int 0, .int 1, .ref tp, w2, w3, w4, w5, w6, w7, w8, w9, w10, w11, w12, w13, w14, w15, w16, w17, w18, w19, w20, w21, w22, w23, w24, w25, w26, w27, w28, w29, w30, w31, w32, w33, w34, w35, w36, w37, w38, w39, w40, w41, w42, w43, w44, w45, w46, w47, w48, w49, w50, w51, w52, w53, w54, w55, w56, w57, w58, w59, w60, w61, w62])), (tp, .inl (y 1, 4096, .inl (upd (upd f (0 : Int32).toNatClampNeg v5) (1 : Int32).toNatClampNeg v10)))] H := hP
  have hD : va_D A [(h0, .inr (16, [.int 0, .int 1, .ref tp, w2, w3, w4, w5, w6, w7, w8, w9, w10, w11, w12, w13, w14, w15, w16, w17, w18, w19, w20, w21, w22, w23, w24, w25, w26, w27, w28, w29, w30, w31, w32, w33, w34, w35, w36, w37, w38, w39, w40, w41, w42, w43, w44, w45, w46, w47, w48, w49, w50, w51, w52, w53, w54, w55, w56, w57, w58, w59, w60, w61, w62])), (tp, .inl (y 1, 4096, .inl (upd (upd f (0 : Int32).toNatClampNeg v5) (1 : Int32).toNatClampNeg v10)))] := hD
  refine lv_aload_n hx hb dX12_add_60 rfl (lv_at hl 1 rfl) ?_
  refine lv_dup hx hb dX12_add_61 rfl ?_
  refine va_get (D := D) (ci := 16) (v := .int 1) (C := RX12) (T := TX12) (N := 64) hx hb hts (by decide +kernel) hown hK hP 0 rfl rfl 1 (by decide) (hts (.fieldLink RX12 84 "SignetRingModel" "taped" "I") (by decide +kernel)) (fun _ h9 => h9) rfl dX12_add_62 ?_
  refine lv_iconst (v := 1) hx hb dX12_add_65 (by decide) ?_
  refine lv_iadd hx hb dX12_add_66 ?_
  refine lv_topi (fun v11 ev11 => ?_)
  have ev11 : v11 = 2 := ev11.trans (by decide +kernel)
  subst ev11
  refine va_put (D := D) (ci := 16) (v := .int 2) (ty := .int) (C := RX12) (T := TX12) (N := 64) hx hb hts (by decide +kernel) tyX12 tyX12_ok nmX12 hown hK hP hD hS 0 rfl rfl 1 (by decide) (hts (.fieldLink RX12 84 "SignetRingModel" "taped" "I") (by decide +kernel)) (fun _ h9 => h9) rfl (by decide +kernel) rfl rfl (Nat.le_of_ble_eq_true rfl) dX12_add_67 (fun H locs hP hD hS => ?_)
  have hP : va_P D vwCl [(h0, .inr (16, [.int 0, .int 2, .ref tp, w2, w3, w4, w5, w6, w7, w8, w9, w10, w11, w12, w13, w14, w15, w16, w17, w18, w19, w20, w21, w22, w23, w24, w25, w26, w27, w28, w29, w30, w31, w32, w33, w34, w35, w36, w37, w38, w39, w40, w41, w42, w43, w44, w45, w46, w47, w48, w49, w50, w51, w52, w53, w54, w55, w56, w57, w58, w59, w60, w61, w62])), (tp, .inl (y 1, 4096, .inl (upd (upd f (0 : Int32).toNatClampNeg v5) (1 : Int32).toNatClampNeg v10)))] H := hP
  have hD : va_D A [(h0, .inr (16, [.int 0, .int 2, .ref tp, w2, w3, w4, w5, w6, w7, w8, w9, w10, w11, w12, w13, w14, w15, w16, w17, w18, w19, w20, w21, w22, w23, w24, w25, w26, w27, w28, w29, w30, w31, w32, w33, w34, w35, w36, w37, w38, w39, w40, w41, w42, w43, w44, w45, w46, w47, w48, w49, w50, w51, w52, w53, w54, w55, w56, w57, w58, w59, w60, w61, w62])), (tp, .inl (y 1, 4096, .inl (upd (upd f (0 : Int32).toNatClampNeg v5) (1 : Int32).toNatClampNeg v10)))] := hD
  refine lv_iinc (v := 2) (lv' := [(4, .int 2), (0, .ref h0), (1, .long wd), (3, .int 7)]) hx hb dX12_add_70 hl (k := 0) rfl (by decide) (by decide) rfl (fun ls hl => ?_)
  refine lv_goto (tgt := 33) hx hb dX12_add_73 (by decide) ?_
  refine lv_iload hx hb dX12_add_33 (lv_at hl 0 rfl) ?_
  refine lv_iload_n hx hb dX12_add_35 rfl (lv_at hl 3 rfl) ?_
  refine lv_icmp_ge (tgt := 76) hx hb dX12_add_36 (by decide) (fun c9 => absurd c9 (by decide)) (fun _ => ?_)
  refine lv_aload_n hx hb dX12_add_39 rfl (lv_at hl 1 rfl) ?_
  refine va_get (D := D) (ci := 16) (v := .ref tp) (C := RX12) (T := TX12) (N := 64) hx hb hts (by decide +kernel) hown hK hP 0 rfl rfl 2 (by decide) (hts (.fieldLink RX12 7 "SignetRingModel" "tape" "[I") (by decide +kernel)) (fun _ h9 => h9) rfl dX12_add_40 ?_
  refine lv_aload_n hx hb dX12_add_43 rfl (lv_at hl 1 rfl) ?_
  refine va_get (D := D) (ci := 16) (v := .int 2) (C := RX12) (T := TX12) (N := 64) hx hb hts (by decide +kernel) hown hK hP 0 rfl rfl 1 (by decide) (hts (.fieldLink RX12 84 "SignetRingModel" "taped" "I") (by decide +kernel)) (fun _ h9 => h9) rfl dX12_add_44 ?_
  refine lv_lload_n hx hb dX12_add_47 rfl (lv_at hl 2 rfl) ?_
  refine lv_bipush (v := 8) hx hb dX12_add_48 (by decide) ?_
  refine lv_iload hx hb dX12_add_50 (lv_at hl 0 rfl) ?_
  refine lv_imul hx hb dX12_add_52 ?_
  refine lv_topi (fun v12 ev12 => ?_)
  have ev12 : v12 = 16 := ev12.trans (by decide +kernel)
  subst ev12
  refine lv_lshr hx hb dX12_add_53 rfl ?_
  refine lv_topl (fun v13 _ => ?_)
  refine lv_ldc2 (v := 255) hx hb hown (hts (.constantLong RX12 87 255) (by decide +kernel)) dX12_add_54 ?_
  refine lv_land hx hb dX12_add_57 ?_
  refine lv_topl (fun v14 _ => ?_)
  refine lv_l2i hx hb dX12_add_58 rfl ?_
  refine lv_topi (fun v15 _ => ?_)
  refine va_iast hx hb hK hP hD hS 1 1 rfl rfl (by unfold vp_in; decide) dX12_add_59 (fun H locs hP hD hS => ?_)
  have hP : va_P D vwCl [(h0, .inr (16, [.int 0, .int 2, .ref tp, w2, w3, w4, w5, w6, w7, w8, w9, w10, w11, w12, w13, w14, w15, w16, w17, w18, w19, w20, w21, w22, w23, w24, w25, w26, w27, w28, w29, w30, w31, w32, w33, w34, w35, w36, w37, w38, w39, w40, w41, w42, w43, w44, w45, w46, w47, w48, w49, w50, w51, w52, w53, w54, w55, w56, w57, w58, w59, w60, w61, w62])), (tp, .inl (y 1, 4096, .inl (upd (upd (upd f (0 : Int32).toNatClampNeg v5) (1 : Int32).toNatClampNeg v10) (2 : Int32).toNatClampNeg v15)))] H := hP
  have hD : va_D A [(h0, .inr (16, [.int 0, .int 2, .ref tp, w2, w3, w4, w5, w6, w7, w8, w9, w10, w11, w12, w13, w14, w15, w16, w17, w18, w19, w20, w21, w22, w23, w24, w25, w26, w27, w28, w29, w30, w31, w32, w33, w34, w35, w36, w37, w38, w39, w40, w41, w42, w43, w44, w45, w46, w47, w48, w49, w50, w51, w52, w53, w54, w55, w56, w57, w58, w59, w60, w61, w62])), (tp, .inl (y 1, 4096, .inl (upd (upd (upd f (0 : Int32).toNatClampNeg v5) (1 : Int32).toNatClampNeg v10) (2 : Int32).toNatClampNeg v15)))] := hD
  refine lv_aload_n hx hb dX12_add_60 rfl (lv_at hl 1 rfl) ?_
  refine lv_dup hx hb dX12_add_61 rfl ?_
  refine va_get (D := D) (ci := 16) (v := .int 2) (C := RX12) (T := TX12) (N := 64) hx hb hts (by decide +kernel) hown hK hP 0 rfl rfl 1 (by decide) (hts (.fieldLink RX12 84 "SignetRingModel" "taped" "I") (by decide +kernel)) (fun _ h9 => h9) rfl dX12_add_62 ?_
  refine lv_iconst (v := 1) hx hb dX12_add_65 (by decide) ?_
  refine lv_iadd hx hb dX12_add_66 ?_
  refine lv_topi (fun v16 ev16 => ?_)
  have ev16 : v16 = 3 := ev16.trans (by decide +kernel)
  subst ev16
  refine va_put (D := D) (ci := 16) (v := .int 3) (ty := .int) (C := RX12) (T := TX12) (N := 64) hx hb hts (by decide +kernel) tyX12 tyX12_ok nmX12 hown hK hP hD hS 0 rfl rfl 1 (by decide) (hts (.fieldLink RX12 84 "SignetRingModel" "taped" "I") (by decide +kernel)) (fun _ h9 => h9) rfl (by decide +kernel) rfl rfl (Nat.le_of_ble_eq_true rfl) dX12_add_67 (fun H locs hP hD hS => ?_)
  have hP : va_P D vwCl [(h0, .inr (16, [.int 0, .int 3, .ref tp, w2, w3, w4, w5, w6, w7, w8, w9, w10, w11, w12, w13, w14, w15, w16, w17, w18, w19, w20, w21, w22, w23, w24, w25, w26, w27, w28, w29, w30, w31, w32, w33, w34, w35, w36, w37, w38, w39, w40, w41, w42, w43, w44, w45, w46, w47, w48, w49, w50, w51, w52, w53, w54, w55, w56, w57, w58, w59, w60, w61, w62])), (tp, .inl (y 1, 4096, .inl (upd (upd (upd f (0 : Int32).toNatClampNeg v5) (1 : Int32).toNatClampNeg v10) (2 : Int32).toNatClampNeg v15)))] H := hP
  have hD : va_D A [(h0, .inr (16, [.int 0, .int 3, .ref tp, w2, w3, w4, w5, w6, w7, w8, w9, w10, w11, w12, w13, w14, w15, w16, w17, w18, w19, w20, w21, w22, w23, w24, w25, w26, w27, w28, w29, w30, w31, w32, w33, w34, w35, w36, w37, w38, w39, w40, w41, w42, w43, w44, w45, w46, w47, w48, w49, w50, w51, w52, w53, w54, w55, w56, w57, w58, w59, w60, w61, w62])), (tp, .inl (y 1, 4096, .inl (upd (upd (upd f (0 : Int32).toNatClampNeg v5) (1 : Int32).toNatClampNeg v10) (2 : Int32).toNatClampNeg v15)))] := hD
  refine lv_iinc (v := 3) (lv' := [(4, .int 3), (0, .ref h0), (1, .long wd), (3, .int 7)]) hx hb dX12_add_70 hl (k := 0) rfl (by decide) (by decide) rfl (fun ls hl => ?_)
  refine lv_goto (tgt := 33) hx hb dX12_add_73 (by decide) ?_
  refine lv_iload hx hb dX12_add_33 (lv_at hl 0 rfl) ?_
  refine lv_iload_n hx hb dX12_add_35 rfl (lv_at hl 3 rfl) ?_
  refine lv_icmp_ge (tgt := 76) hx hb dX12_add_36 (by decide) (fun c9 => absurd c9 (by decide)) (fun _ => ?_)
  refine lv_aload_n hx hb dX12_add_39 rfl (lv_at hl 1 rfl) ?_
  refine va_get (D := D) (ci := 16) (v := .ref tp) (C := RX12) (T := TX12) (N := 64) hx hb hts (by decide +kernel) hown hK hP 0 rfl rfl 2 (by decide) (hts (.fieldLink RX12 7 "SignetRingModel" "tape" "[I") (by decide +kernel)) (fun _ h9 => h9) rfl dX12_add_40 ?_
  refine lv_aload_n hx hb dX12_add_43 rfl (lv_at hl 1 rfl) ?_
  refine va_get (D := D) (ci := 16) (v := .int 3) (C := RX12) (T := TX12) (N := 64) hx hb hts (by decide +kernel) hown hK hP 0 rfl rfl 1 (by decide) (hts (.fieldLink RX12 84 "SignetRingModel" "taped" "I") (by decide +kernel)) (fun _ h9 => h9) rfl dX12_add_44 ?_
  refine lv_lload_n hx hb dX12_add_47 rfl (lv_at hl 2 rfl) ?_
  refine lv_bipush (v := 8) hx hb dX12_add_48 (by decide) ?_
  refine lv_iload hx hb dX12_add_50 (lv_at hl 0 rfl) ?_
  refine lv_imul hx hb dX12_add_52 ?_
  refine lv_topi (fun v17 ev17 => ?_)
  have ev17 : v17 = 24 := ev17.trans (by decide +kernel)
  subst ev17
  refine lv_lshr hx hb dX12_add_53 rfl ?_
  refine lv_topl (fun v18 _ => ?_)
  refine lv_ldc2 (v := 255) hx hb hown (hts (.constantLong RX12 87 255) (by decide +kernel)) dX12_add_54 ?_
  refine lv_land hx hb dX12_add_57 ?_
  refine lv_topl (fun v19 _ => ?_)
  refine lv_l2i hx hb dX12_add_58 rfl ?_
  refine lv_topi (fun v20 _ => ?_)
  refine va_iast hx hb hK hP hD hS 1 1 rfl rfl (by unfold vp_in; decide) dX12_add_59 (fun H locs hP hD hS => ?_)
  have hP : va_P D vwCl [(h0, .inr (16, [.int 0, .int 3, .ref tp, w2, w3, w4, w5, w6, w7, w8, w9, w10, w11, w12, w13, w14, w15, w16, w17, w18, w19, w20, w21, w22, w23, w24, w25, w26, w27, w28, w29, w30, w31, w32, w33, w34, w35, w36, w37, w38, w39, w40, w41, w42, w43, w44, w45, w46, w47, w48, w49, w50, w51, w52, w53, w54, w55, w56, w57, w58, w59, w60, w61, w62])), (tp, .inl (y 1, 4096, .inl (upd (upd (upd (upd f (0 : Int32).toNatClampNeg v5) (1 : Int32).toNatClampNeg v10) (2 : Int32).toNatClampNeg v15) (3 : Int32).toNatClampNeg v20)))] H := hP
  have hD : va_D A [(h0, .inr (16, [.int 0, .int 3, .ref tp, w2, w3, w4, w5, w6, w7, w8, w9, w10, w11, w12, w13, w14, w15, w16, w17, w18, w19, w20, w21, w22, w23, w24, w25, w26, w27, w28, w29, w30, w31, w32, w33, w34, w35, w36, w37, w38, w39, w40, w41, w42, w43, w44, w45, w46, w47, w48, w49, w50, w51, w52, w53, w54, w55, w56, w57, w58, w59, w60, w61, w62])), (tp, .inl (y 1, 4096, .inl (upd (upd (upd (upd f (0 : Int32).toNatClampNeg v5) (1 : Int32).toNatClampNeg v10) (2 : Int32).toNatClampNeg v15) (3 : Int32).toNatClampNeg v20)))] := hD
  refine lv_aload_n hx hb dX12_add_60 rfl (lv_at hl 1 rfl) ?_
  refine lv_dup hx hb dX12_add_61 rfl ?_
  refine va_get (D := D) (ci := 16) (v := .int 3) (C := RX12) (T := TX12) (N := 64) hx hb hts (by decide +kernel) hown hK hP 0 rfl rfl 1 (by decide) (hts (.fieldLink RX12 84 "SignetRingModel" "taped" "I") (by decide +kernel)) (fun _ h9 => h9) rfl dX12_add_62 ?_
  refine lv_iconst (v := 1) hx hb dX12_add_65 (by decide) ?_
  refine lv_iadd hx hb dX12_add_66 ?_
  refine lv_topi (fun v21 ev21 => ?_)
  have ev21 : v21 = 4 := ev21.trans (by decide +kernel)
  subst ev21
  refine va_put (D := D) (ci := 16) (v := .int 4) (ty := .int) (C := RX12) (T := TX12) (N := 64) hx hb hts (by decide +kernel) tyX12 tyX12_ok nmX12 hown hK hP hD hS 0 rfl rfl 1 (by decide) (hts (.fieldLink RX12 84 "SignetRingModel" "taped" "I") (by decide +kernel)) (fun _ h9 => h9) rfl (by decide +kernel) rfl rfl (Nat.le_of_ble_eq_true rfl) dX12_add_67 (fun H locs hP hD hS => ?_)
  have hP : va_P D vwCl [(h0, .inr (16, [.int 0, .int 4, .ref tp, w2, w3, w4, w5, w6, w7, w8, w9, w10, w11, w12, w13, w14, w15, w16, w17, w18, w19, w20, w21, w22, w23, w24, w25, w26, w27, w28, w29, w30, w31, w32, w33, w34, w35, w36, w37, w38, w39, w40, w41, w42, w43, w44, w45, w46, w47, w48, w49, w50, w51, w52, w53, w54, w55, w56, w57, w58, w59, w60, w61, w62])), (tp, .inl (y 1, 4096, .inl (upd (upd (upd (upd f (0 : Int32).toNatClampNeg v5) (1 : Int32).toNatClampNeg v10) (2 : Int32).toNatClampNeg v15) (3 : Int32).toNatClampNeg v20)))] H := hP
  have hD : va_D A [(h0, .inr (16, [.int 0, .int 4, .ref tp, w2, w3, w4, w5, w6, w7, w8, w9, w10, w11, w12, w13, w14, w15, w16, w17, w18, w19, w20, w21, w22, w23, w24, w25, w26, w27, w28, w29, w30, w31, w32, w33, w34, w35, w36, w37, w38, w39, w40, w41, w42, w43, w44, w45, w46, w47, w48, w49, w50, w51, w52, w53, w54, w55, w56, w57, w58, w59, w60, w61, w62])), (tp, .inl (y 1, 4096, .inl (upd (upd (upd (upd f (0 : Int32).toNatClampNeg v5) (1 : Int32).toNatClampNeg v10) (2 : Int32).toNatClampNeg v15) (3 : Int32).toNatClampNeg v20)))] := hD
  refine lv_iinc (v := 4) (lv' := [(4, .int 4), (0, .ref h0), (1, .long wd), (3, .int 7)]) hx hb dX12_add_70 hl (k := 0) rfl (by decide) (by decide) rfl (fun ls hl => ?_)
  refine lv_goto (tgt := 33) hx hb dX12_add_73 (by decide) ?_
  refine lv_iload hx hb dX12_add_33 (lv_at hl 0 rfl) ?_
  refine lv_iload_n hx hb dX12_add_35 rfl (lv_at hl 3 rfl) ?_
  refine lv_icmp_ge (tgt := 76) hx hb dX12_add_36 (by decide) (fun c9 => absurd c9 (by decide)) (fun _ => ?_)
  refine lv_aload_n hx hb dX12_add_39 rfl (lv_at hl 1 rfl) ?_
  refine va_get (D := D) (ci := 16) (v := .ref tp) (C := RX12) (T := TX12) (N := 64) hx hb hts (by decide +kernel) hown hK hP 0 rfl rfl 2 (by decide) (hts (.fieldLink RX12 7 "SignetRingModel" "tape" "[I") (by decide +kernel)) (fun _ h9 => h9) rfl dX12_add_40 ?_
  refine lv_aload_n hx hb dX12_add_43 rfl (lv_at hl 1 rfl) ?_
  refine va_get (D := D) (ci := 16) (v := .int 4) (C := RX12) (T := TX12) (N := 64) hx hb hts (by decide +kernel) hown hK hP 0 rfl rfl 1 (by decide) (hts (.fieldLink RX12 84 "SignetRingModel" "taped" "I") (by decide +kernel)) (fun _ h9 => h9) rfl dX12_add_44 ?_
  refine lv_lload_n hx hb dX12_add_47 rfl (lv_at hl 2 rfl) ?_
  refine lv_bipush (v := 8) hx hb dX12_add_48 (by decide) ?_
  refine lv_iload hx hb dX12_add_50 (lv_at hl 0 rfl) ?_
  refine lv_imul hx hb dX12_add_52 ?_
  refine lv_topi (fun v22 ev22 => ?_)
  have ev22 : v22 = 32 := ev22.trans (by decide +kernel)
  subst ev22
  refine lv_lshr hx hb dX12_add_53 rfl ?_
  refine lv_topl (fun v23 _ => ?_)
  refine lv_ldc2 (v := 255) hx hb hown (hts (.constantLong RX12 87 255) (by decide +kernel)) dX12_add_54 ?_
  refine lv_land hx hb dX12_add_57 ?_
  refine lv_topl (fun v24 _ => ?_)
  refine lv_l2i hx hb dX12_add_58 rfl ?_
  refine lv_topi (fun v25 _ => ?_)
  refine va_iast hx hb hK hP hD hS 1 1 rfl rfl (by unfold vp_in; decide) dX12_add_59 (fun H locs hP hD hS => ?_)
  have hP : va_P D vwCl [(h0, .inr (16, [.int 0, .int 4, .ref tp, w2, w3, w4, w5, w6, w7, w8, w9, w10, w11, w12, w13, w14, w15, w16, w17, w18, w19, w20, w21, w22, w23, w24, w25, w26, w27, w28, w29, w30, w31, w32, w33, w34, w35, w36, w37, w38, w39, w40, w41, w42, w43, w44, w45, w46, w47, w48, w49, w50, w51, w52, w53, w54, w55, w56, w57, w58, w59, w60, w61, w62])), (tp, .inl (y 1, 4096, .inl (upd (upd (upd (upd (upd f (0 : Int32).toNatClampNeg v5) (1 : Int32).toNatClampNeg v10) (2 : Int32).toNatClampNeg v15) (3 : Int32).toNatClampNeg v20) (4 : Int32).toNatClampNeg v25)))] H := hP
  have hD : va_D A [(h0, .inr (16, [.int 0, .int 4, .ref tp, w2, w3, w4, w5, w6, w7, w8, w9, w10, w11, w12, w13, w14, w15, w16, w17, w18, w19, w20, w21, w22, w23, w24, w25, w26, w27, w28, w29, w30, w31, w32, w33, w34, w35, w36, w37, w38, w39, w40, w41, w42, w43, w44, w45, w46, w47, w48, w49, w50, w51, w52, w53, w54, w55, w56, w57, w58, w59, w60, w61, w62])), (tp, .inl (y 1, 4096, .inl (upd (upd (upd (upd (upd f (0 : Int32).toNatClampNeg v5) (1 : Int32).toNatClampNeg v10) (2 : Int32).toNatClampNeg v15) (3 : Int32).toNatClampNeg v20) (4 : Int32).toNatClampNeg v25)))] := hD
  refine lv_aload_n hx hb dX12_add_60 rfl (lv_at hl 1 rfl) ?_
  refine lv_dup hx hb dX12_add_61 rfl ?_
  refine va_get (D := D) (ci := 16) (v := .int 4) (C := RX12) (T := TX12) (N := 64) hx hb hts (by decide +kernel) hown hK hP 0 rfl rfl 1 (by decide) (hts (.fieldLink RX12 84 "SignetRingModel" "taped" "I") (by decide +kernel)) (fun _ h9 => h9) rfl dX12_add_62 ?_
  refine lv_iconst (v := 1) hx hb dX12_add_65 (by decide) ?_
  refine lv_iadd hx hb dX12_add_66 ?_
  refine lv_topi (fun v26 ev26 => ?_)
  have ev26 : v26 = 5 := ev26.trans (by decide +kernel)
  subst ev26
  refine va_put (D := D) (ci := 16) (v := .int 5) (ty := .int) (C := RX12) (T := TX12) (N := 64) hx hb hts (by decide +kernel) tyX12 tyX12_ok nmX12 hown hK hP hD hS 0 rfl rfl 1 (by decide) (hts (.fieldLink RX12 84 "SignetRingModel" "taped" "I") (by decide +kernel)) (fun _ h9 => h9) rfl (by decide +kernel) rfl rfl (Nat.le_of_ble_eq_true rfl) dX12_add_67 (fun H locs hP hD hS => ?_)
  have hP : va_P D vwCl [(h0, .inr (16, [.int 0, .int 5, .ref tp, w2, w3, w4, w5, w6, w7, w8, w9, w10, w11, w12, w13, w14, w15, w16, w17, w18, w19, w20, w21, w22, w23, w24, w25, w26, w27, w28, w29, w30, w31, w32, w33, w34, w35, w36, w37, w38, w39, w40, w41, w42, w43, w44, w45, w46, w47, w48, w49, w50, w51, w52, w53, w54, w55, w56, w57, w58, w59, w60, w61, w62])), (tp, .inl (y 1, 4096, .inl (upd (upd (upd (upd (upd f (0 : Int32).toNatClampNeg v5) (1 : Int32).toNatClampNeg v10) (2 : Int32).toNatClampNeg v15) (3 : Int32).toNatClampNeg v20) (4 : Int32).toNatClampNeg v25)))] H := hP
  have hD : va_D A [(h0, .inr (16, [.int 0, .int 5, .ref tp, w2, w3, w4, w5, w6, w7, w8, w9, w10, w11, w12, w13, w14, w15, w16, w17, w18, w19, w20, w21, w22, w23, w24, w25, w26, w27, w28, w29, w30, w31, w32, w33, w34, w35, w36, w37, w38, w39, w40, w41, w42, w43, w44, w45, w46, w47, w48, w49, w50, w51, w52, w53, w54, w55, w56, w57, w58, w59, w60, w61, w62])), (tp, .inl (y 1, 4096, .inl (upd (upd (upd (upd (upd f (0 : Int32).toNatClampNeg v5) (1 : Int32).toNatClampNeg v10) (2 : Int32).toNatClampNeg v15) (3 : Int32).toNatClampNeg v20) (4 : Int32).toNatClampNeg v25)))] := hD
  refine lv_iinc (v := 5) (lv' := [(4, .int 5), (0, .ref h0), (1, .long wd), (3, .int 7)]) hx hb dX12_add_70 hl (k := 0) rfl (by decide) (by decide) rfl (fun ls hl => ?_)
  refine lv_goto (tgt := 33) hx hb dX12_add_73 (by decide) ?_
  refine lv_iload hx hb dX12_add_33 (lv_at hl 0 rfl) ?_
  refine lv_iload_n hx hb dX12_add_35 rfl (lv_at hl 3 rfl) ?_
  refine lv_icmp_ge (tgt := 76) hx hb dX12_add_36 (by decide) (fun c9 => absurd c9 (by decide)) (fun _ => ?_)
  refine lv_aload_n hx hb dX12_add_39 rfl (lv_at hl 1 rfl) ?_
  refine va_get (D := D) (ci := 16) (v := .ref tp) (C := RX12) (T := TX12) (N := 64) hx hb hts (by decide +kernel) hown hK hP 0 rfl rfl 2 (by decide) (hts (.fieldLink RX12 7 "SignetRingModel" "tape" "[I") (by decide +kernel)) (fun _ h9 => h9) rfl dX12_add_40 ?_
  refine lv_aload_n hx hb dX12_add_43 rfl (lv_at hl 1 rfl) ?_
  refine va_get (D := D) (ci := 16) (v := .int 5) (C := RX12) (T := TX12) (N := 64) hx hb hts (by decide +kernel) hown hK hP 0 rfl rfl 1 (by decide) (hts (.fieldLink RX12 84 "SignetRingModel" "taped" "I") (by decide +kernel)) (fun _ h9 => h9) rfl dX12_add_44 ?_
  refine lv_lload_n hx hb dX12_add_47 rfl (lv_at hl 2 rfl) ?_
  refine lv_bipush (v := 8) hx hb dX12_add_48 (by decide) ?_
  refine lv_iload hx hb dX12_add_50 (lv_at hl 0 rfl) ?_
  refine lv_imul hx hb dX12_add_52 ?_
  refine lv_topi (fun v27 ev27 => ?_)
  have ev27 : v27 = 40 := ev27.trans (by decide +kernel)
  subst ev27
  refine lv_lshr hx hb dX12_add_53 rfl ?_
  refine lv_topl (fun v28 _ => ?_)
  refine lv_ldc2 (v := 255) hx hb hown (hts (.constantLong RX12 87 255) (by decide +kernel)) dX12_add_54 ?_
  refine lv_land hx hb dX12_add_57 ?_
  refine lv_topl (fun v29 _ => ?_)
  refine lv_l2i hx hb dX12_add_58 rfl ?_
  refine lv_topi (fun v30 _ => ?_)
  refine va_iast hx hb hK hP hD hS 1 1 rfl rfl (by unfold vp_in; decide) dX12_add_59 (fun H locs hP hD hS => ?_)
  have hP : va_P D vwCl [(h0, .inr (16, [.int 0, .int 5, .ref tp, w2, w3, w4, w5, w6, w7, w8, w9, w10, w11, w12, w13, w14, w15, w16, w17, w18, w19, w20, w21, w22, w23, w24, w25, w26, w27, w28, w29, w30, w31, w32, w33, w34, w35, w36, w37, w38, w39, w40, w41, w42, w43, w44, w45, w46, w47, w48, w49, w50, w51, w52, w53, w54, w55, w56, w57, w58, w59, w60, w61, w62])), (tp, .inl (y 1, 4096, .inl (upd (upd (upd (upd (upd (upd f (0 : Int32).toNatClampNeg v5) (1 : Int32).toNatClampNeg v10) (2 : Int32).toNatClampNeg v15) (3 : Int32).toNatClampNeg v20) (4 : Int32).toNatClampNeg v25) (5 : Int32).toNatClampNeg v30)))] H := hP
  have hD : va_D A [(h0, .inr (16, [.int 0, .int 5, .ref tp, w2, w3, w4, w5, w6, w7, w8, w9, w10, w11, w12, w13, w14, w15, w16, w17, w18, w19, w20, w21, w22, w23, w24, w25, w26, w27, w28, w29, w30, w31, w32, w33, w34, w35, w36, w37, w38, w39, w40, w41, w42, w43, w44, w45, w46, w47, w48, w49, w50, w51, w52, w53, w54, w55, w56, w57, w58, w59, w60, w61, w62])), (tp, .inl (y 1, 4096, .inl (upd (upd (upd (upd (upd (upd f (0 : Int32).toNatClampNeg v5) (1 : Int32).toNatClampNeg v10) (2 : Int32).toNatClampNeg v15) (3 : Int32).toNatClampNeg v20) (4 : Int32).toNatClampNeg v25) (5 : Int32).toNatClampNeg v30)))] := hD
  refine lv_aload_n hx hb dX12_add_60 rfl (lv_at hl 1 rfl) ?_
  refine lv_dup hx hb dX12_add_61 rfl ?_
  refine va_get (D := D) (ci := 16) (v := .int 5) (C := RX12) (T := TX12) (N := 64) hx hb hts (by decide +kernel) hown hK hP 0 rfl rfl 1 (by decide) (hts (.fieldLink RX12 84 "SignetRingModel" "taped" "I") (by decide +kernel)) (fun _ h9 => h9) rfl dX12_add_62 ?_
  refine lv_iconst (v := 1) hx hb dX12_add_65 (by decide) ?_
  refine lv_iadd hx hb dX12_add_66 ?_
  refine lv_topi (fun v31 ev31 => ?_)
  have ev31 : v31 = 6 := ev31.trans (by decide +kernel)
  subst ev31
  refine va_put (D := D) (ci := 16) (v := .int 6) (ty := .int) (C := RX12) (T := TX12) (N := 64) hx hb hts (by decide +kernel) tyX12 tyX12_ok nmX12 hown hK hP hD hS 0 rfl rfl 1 (by decide) (hts (.fieldLink RX12 84 "SignetRingModel" "taped" "I") (by decide +kernel)) (fun _ h9 => h9) rfl (by decide +kernel) rfl rfl (Nat.le_of_ble_eq_true rfl) dX12_add_67 (fun H locs hP hD hS => ?_)
  have hP : va_P D vwCl [(h0, .inr (16, [.int 0, .int 6, .ref tp, w2, w3, w4, w5, w6, w7, w8, w9, w10, w11, w12, w13, w14, w15, w16, w17, w18, w19, w20, w21, w22, w23, w24, w25, w26, w27, w28, w29, w30, w31, w32, w33, w34, w35, w36, w37, w38, w39, w40, w41, w42, w43, w44, w45, w46, w47, w48, w49, w50, w51, w52, w53, w54, w55, w56, w57, w58, w59, w60, w61, w62])), (tp, .inl (y 1, 4096, .inl (upd (upd (upd (upd (upd (upd f (0 : Int32).toNatClampNeg v5) (1 : Int32).toNatClampNeg v10) (2 : Int32).toNatClampNeg v15) (3 : Int32).toNatClampNeg v20) (4 : Int32).toNatClampNeg v25) (5 : Int32).toNatClampNeg v30)))] H := hP
  have hD : va_D A [(h0, .inr (16, [.int 0, .int 6, .ref tp, w2, w3, w4, w5, w6, w7, w8, w9, w10, w11, w12, w13, w14, w15, w16, w17, w18, w19, w20, w21, w22, w23, w24, w25, w26, w27, w28, w29, w30, w31, w32, w33, w34, w35, w36, w37, w38, w39, w40, w41, w42, w43, w44, w45, w46, w47, w48, w49, w50, w51, w52, w53, w54, w55, w56, w57, w58, w59, w60, w61, w62])), (tp, .inl (y 1, 4096, .inl (upd (upd (upd (upd (upd (upd f (0 : Int32).toNatClampNeg v5) (1 : Int32).toNatClampNeg v10) (2 : Int32).toNatClampNeg v15) (3 : Int32).toNatClampNeg v20) (4 : Int32).toNatClampNeg v25) (5 : Int32).toNatClampNeg v30)))] := hD
  refine lv_iinc (v := 6) (lv' := [(4, .int 6), (0, .ref h0), (1, .long wd), (3, .int 7)]) hx hb dX12_add_70 hl (k := 0) rfl (by decide) (by decide) rfl (fun ls hl => ?_)
  refine lv_goto (tgt := 33) hx hb dX12_add_73 (by decide) ?_
  refine lv_iload hx hb dX12_add_33 (lv_at hl 0 rfl) ?_
  refine lv_iload_n hx hb dX12_add_35 rfl (lv_at hl 3 rfl) ?_
  refine lv_icmp_ge (tgt := 76) hx hb dX12_add_36 (by decide) (fun c9 => absurd c9 (by decide)) (fun _ => ?_)
  refine lv_aload_n hx hb dX12_add_39 rfl (lv_at hl 1 rfl) ?_
  refine va_get (D := D) (ci := 16) (v := .ref tp) (C := RX12) (T := TX12) (N := 64) hx hb hts (by decide +kernel) hown hK hP 0 rfl rfl 2 (by decide) (hts (.fieldLink RX12 7 "SignetRingModel" "tape" "[I") (by decide +kernel)) (fun _ h9 => h9) rfl dX12_add_40 ?_
  refine lv_aload_n hx hb dX12_add_43 rfl (lv_at hl 1 rfl) ?_
  refine va_get (D := D) (ci := 16) (v := .int 6) (C := RX12) (T := TX12) (N := 64) hx hb hts (by decide +kernel) hown hK hP 0 rfl rfl 1 (by decide) (hts (.fieldLink RX12 84 "SignetRingModel" "taped" "I") (by decide +kernel)) (fun _ h9 => h9) rfl dX12_add_44 ?_
  refine lv_lload_n hx hb dX12_add_47 rfl (lv_at hl 2 rfl) ?_
  refine lv_bipush (v := 8) hx hb dX12_add_48 (by decide) ?_
  refine lv_iload hx hb dX12_add_50 (lv_at hl 0 rfl) ?_
  refine lv_imul hx hb dX12_add_52 ?_
  refine lv_topi (fun v32 ev32 => ?_)
  have ev32 : v32 = 48 := ev32.trans (by decide +kernel)
  subst ev32
  refine lv_lshr hx hb dX12_add_53 rfl ?_
  refine lv_topl (fun v33 _ => ?_)
  refine lv_ldc2 (v := 255) hx hb hown (hts (.constantLong RX12 87 255) (by decide +kernel)) dX12_add_54 ?_
  refine lv_land hx hb dX12_add_57 ?_
  refine lv_topl (fun v34 _ => ?_)
  refine lv_l2i hx hb dX12_add_58 rfl ?_
  refine lv_topi (fun v35 _ => ?_)
  refine va_iast hx hb hK hP hD hS 1 1 rfl rfl (by unfold vp_in; decide) dX12_add_59 (fun H locs hP hD hS => ?_)
  have hP : va_P D vwCl [(h0, .inr (16, [.int 0, .int 6, .ref tp, w2, w3, w4, w5, w6, w7, w8, w9, w10, w11, w12, w13, w14, w15, w16, w17, w18, w19, w20, w21, w22, w23, w24, w25, w26, w27, w28, w29, w30, w31, w32, w33, w34, w35, w36, w37, w38, w39, w40, w41, w42, w43, w44, w45, w46, w47, w48, w49, w50, w51, w52, w53, w54, w55, w56, w57, w58, w59, w60, w61, w62])), (tp, .inl (y 1, 4096, .inl (upd (upd (upd (upd (upd (upd (upd f (0 : Int32).toNatClampNeg v5) (1 : Int32).toNatClampNeg v10) (2 : Int32).toNatClampNeg v15) (3 : Int32).toNatClampNeg v20) (4 : Int32).toNatClampNeg v25) (5 : Int32).toNatClampNeg v30) (6 : Int32).toNatClampNeg v35)))] H := hP
  have hD : va_D A [(h0, .inr (16, [.int 0, .int 6, .ref tp, w2, w3, w4, w5, w6, w7, w8, w9, w10, w11, w12, w13, w14, w15, w16, w17, w18, w19, w20, w21, w22, w23, w24, w25, w26, w27, w28, w29, w30, w31, w32, w33, w34, w35, w36, w37, w38, w39, w40, w41, w42, w43, w44, w45, w46, w47, w48, w49, w50, w51, w52, w53, w54, w55, w56, w57, w58, w59, w60, w61, w62])), (tp, .inl (y 1, 4096, .inl (upd (upd (upd (upd (upd (upd (upd f (0 : Int32).toNatClampNeg v5) (1 : Int32).toNatClampNeg v10) (2 : Int32).toNatClampNeg v15) (3 : Int32).toNatClampNeg v20) (4 : Int32).toNatClampNeg v25) (5 : Int32).toNatClampNeg v30) (6 : Int32).toNatClampNeg v35)))] := hD
  refine lv_aload_n hx hb dX12_add_60 rfl (lv_at hl 1 rfl) ?_
  refine lv_dup hx hb dX12_add_61 rfl ?_
  refine va_get (D := D) (ci := 16) (v := .int 6) (C := RX12) (T := TX12) (N := 64) hx hb hts (by decide +kernel) hown hK hP 0 rfl rfl 1 (by decide) (hts (.fieldLink RX12 84 "SignetRingModel" "taped" "I") (by decide +kernel)) (fun _ h9 => h9) rfl dX12_add_62 ?_
  refine lv_iconst (v := 1) hx hb dX12_add_65 (by decide) ?_
  refine lv_iadd hx hb dX12_add_66 ?_
  refine lv_topi (fun v36 ev36 => ?_)
  have ev36 : v36 = 7 := ev36.trans (by decide +kernel)
  subst ev36
  refine va_put (D := D) (ci := 16) (v := .int 7) (ty := .int) (C := RX12) (T := TX12) (N := 64) hx hb hts (by decide +kernel) tyX12 tyX12_ok nmX12 hown hK hP hD hS 0 rfl rfl 1 (by decide) (hts (.fieldLink RX12 84 "SignetRingModel" "taped" "I") (by decide +kernel)) (fun _ h9 => h9) rfl (by decide +kernel) rfl rfl (Nat.le_of_ble_eq_true rfl) dX12_add_67 (fun H locs hP hD hS => ?_)
  have hP : va_P D vwCl [(h0, .inr (16, [.int 0, .int 7, .ref tp, w2, w3, w4, w5, w6, w7, w8, w9, w10, w11, w12, w13, w14, w15, w16, w17, w18, w19, w20, w21, w22, w23, w24, w25, w26, w27, w28, w29, w30, w31, w32, w33, w34, w35, w36, w37, w38, w39, w40, w41, w42, w43, w44, w45, w46, w47, w48, w49, w50, w51, w52, w53, w54, w55, w56, w57, w58, w59, w60, w61, w62])), (tp, .inl (y 1, 4096, .inl (upd (upd (upd (upd (upd (upd (upd f (0 : Int32).toNatClampNeg v5) (1 : Int32).toNatClampNeg v10) (2 : Int32).toNatClampNeg v15) (3 : Int32).toNatClampNeg v20) (4 : Int32).toNatClampNeg v25) (5 : Int32).toNatClampNeg v30) (6 : Int32).toNatClampNeg v35)))] H := hP
  have hD : va_D A [(h0, .inr (16, [.int 0, .int 7, .ref tp, w2, w3, w4, w5, w6, w7, w8, w9, w10, w11, w12, w13, w14, w15, w16, w17, w18, w19, w20, w21, w22, w23, w24, w25, w26, w27, w28, w29, w30, w31, w32, w33, w34, w35, w36, w37, w38, w39, w40, w41, w42, w43, w44, w45, w46, w47, w48, w49, w50, w51, w52, w53, w54, w55, w56, w57, w58, w59, w60, w61, w62])), (tp, .inl (y 1, 4096, .inl (upd (upd (upd (upd (upd (upd (upd f (0 : Int32).toNatClampNeg v5) (1 : Int32).toNatClampNeg v10) (2 : Int32).toNatClampNeg v15) (3 : Int32).toNatClampNeg v20) (4 : Int32).toNatClampNeg v25) (5 : Int32).toNatClampNeg v30) (6 : Int32).toNatClampNeg v35)))] := hD
  refine lv_iinc (v := 7) (lv' := [(4, .int 7), (0, .ref h0), (1, .long wd), (3, .int 7)]) hx hb dX12_add_70 hl (k := 0) rfl (by decide) (by decide) rfl (fun ls hl => ?_)
  refine lv_goto (tgt := 33) hx hb dX12_add_73 (by decide) ?_
  refine lv_iload hx hb dX12_add_33 (lv_at hl 0 rfl) ?_
  refine lv_iload_n hx hb dX12_add_35 rfl (lv_at hl 3 rfl) ?_
  refine lv_icmp_ge (tgt := 76) hx hb dX12_add_36 (by decide) (fun _ => ?_) (fun c9 => absurd (by decide) c9)
  refine lv_iconst (v := 1) hx hb dX12_add_76 (by decide) ?_
  have hP9 := hP.sub (ws' := [(h0, .inr (16, [.int 0, .int 7, .ref tp, w2, w3, w4, w5, w6, w7, w8, w9, w10, w11, w12, w13, w14, w15, w16, w17, w18, w19, w20, w21, w22, w23, w24, w25, w26, w27, w28, w29, w30, w31, w32, w33, w34, w35, w36, w37, w38, w39, w40, w41, w42, w43, w44, w45, w46, w47, w48, w49, w50, w51, w52, w53, w54, w55, w56, w57, w58, w59, w60, w61, w62])), (tp, .inl (y 1, 4096, .inl (upd (upd (upd (upd (upd (upd (upd f (0 : Int32).toNatClampNeg v5) (1 : Int32).toNatClampNeg v10) (2 : Int32).toNatClampNeg v15) (3 : Int32).toNatClampNeg v20) (4 : Int32).toNatClampNeg v25) (5 : Int32).toNatClampNeg v30) (6 : Int32).toNatClampNeg v35)))]) [0, 1] rfl
  have hD9 := hD.sub (ws' := [(h0, .inr (16, [.int 0, .int 7, .ref tp, w2, w3, w4, w5, w6, w7, w8, w9, w10, w11, w12, w13, w14, w15, w16, w17, w18, w19, w20, w21, w22, w23, w24, w25, w26, w27, w28, w29, w30, w31, w32, w33, w34, w35, w36, w37, w38, w39, w40, w41, w42, w43, w44, w45, w46, w47, w48, w49, w50, w51, w52, w53, w54, w55, w56, w57, w58, w59, w60, w61, w62])), (tp, .inl (y 1, 4096, .inl (upd (upd (upd (upd (upd (upd (upd f (0 : Int32).toNatClampNeg v5) (1 : Int32).toNatClampNeg v10) (2 : Int32).toNatClampNeg v15) (3 : Int32).toNatClampNeg v20) (4 : Int32).toNatClampNeg v25) (5 : Int32).toNatClampNeg v30) (6 : Int32).toNatClampNeg v35)))]) [0, 1] (by decide) rfl
  refine W.widen (k := 0) (n := 0) (Nat.le_of_ble_eq_true rfl) (Nat.le_of_ble_eq_true rfl) ?_
  exact W.zret (v := 1) hx hb hr (by decide) (fun t ht hW => ⟨⟨1, (), rfl, rfl, (upd (upd (upd (upd (upd (upd (upd f (0 : Int32).toNatClampNeg v5) (1 : Int32).toNatClampNeg v10) (2 : Int32).toNatClampNeg v15) (3 : Int32).toNatClampNeg v20) (4 : Int32).toNatClampNeg v25) (5 : Int32).toNatClampNeg v30) (6 : Int32).toNatClampNeg v35), by rw [ht]; exact hP9, hD9⟩, hS.F ht⟩) hS.2.2 dX12_add_77
def wz_c_M_add_8 : List Cond := .code yX12_add cX12_add 5 (some .boolean) :: ([.fieldLink RX12 78 "SignetRingModel" "thrown" "I", .fieldLink RX12 84 "SignetRingModel" "taped" "I", .fieldLink RX12 7 "SignetRingModel" "tape" "[I", .constantLong RX12 87 255] ++ (wsX120 ++ ([])))
set_option maxHeartbeats 4000000 in
set_option maxRecDepth 100000 in
theorem c_M_add_8 (l : Launch) (D : va_G) (y : Nat → ClassId) (sz : Nat) (h0 : Nat) (tp : Nat) (w1 : Value) (w2 : Value) (w3 : Value) (w4 : Value) (w5 : Value) (w6 : Value) (w7 : Value) (w8 : Value) (w9 : Value) (w10 : Value) (w11 : Value) (w12 : Value) (w13 : Value) (w14 : Value) (w15 : Value) (w16 : Value) (w17 : Value) (w18 : Value) (w19 : Value) (w20 : Value) (w21 : Value) (w22 : Value) (w23 : Value) (w24 : Value) (w25 : Value) (w26 : Value) (w27 : Value) (w28 : Value) (w29 : Value) (w30 : Value) (w31 : Value) (w32 : Value) (w33 : Value) (w34 : Value) (w35 : Value) (w36 : Value) (w37 : Value) (w38 : Value) (w39 : Value) (w40 : Value) (w41 : Value) (w42 : Value) (w43 : Value) (w44 : Value) (w45 : Value) (w46 : Value) (w47 : Value) (w48 : Value) (w49 : Value) (w50 : Value) (w51 : Value) (w52 : Value) (w53 : Value) (w54 : Value) (w55 : Value) (w56 : Value) (w57 : Value) (w58 : Value) (w59 : Value) (w60 : Value) (w61 : Value) (w62 : Value) (f : Nat → Int32) (wd : Int64) : Met l yX12_add wz_c_M_add_8 ({ frames := 0, cells := 0, slots := 0, locals := 0 }) (va_Pc [.ref h0, .long wd, .int 8] (zB D y [(h0, .inr (16, [w1, .int 0, .ref tp, w2, w3, w4, w5, w6, w7, w8, w9, w10, w11, w12, w13, w14, w15, w16, w17, w18, w19, w20, w21, w22, w23, w24, w25, w26, w27, w28, w29, w30, w31, w32, w33, w34, w35, w36, w37, w38, w39, w40, w41, w42, w43, w44, w45, w46, w47, w48, w49, w50, w51, w52, w53, w54, w55, w56, w57, w58, w59, w60, w61, w62])), (tp, .inl (y 1, 4096, .inl f))] sz [] [] [] [])) (va_Qi (fun (r : Int32) (_ : Unit) => r = 1) (fun _ t => ∃ fz0 : Nat → Int32, va_P D vwCl [(h0, .inr (16, [.int 0, .int 8, .ref tp, w2, w3, w4, w5, w6, w7, w8, w9, w10, w11, w12, w13, w14, w15, w16, w17, w18, w19, w20, w21, w22, w23, w24, w25, w26, w27, w28, w29, w30, w31, w32, w33, w34, w35, w36, w37, w38, w39, w40, w41, w42, w43, w44, w45, w46, w47, w48, w49, w50, w51, w52, w53, w54, w55, w56, w57, w58, w59, w60, w61, w62])), (tp, .inl (y 1, 4096, .inl fz0))] t.heap ∧ va_D (va_A [(h0, .inr (16, [w1, .int 0, .ref tp, w2, w3, w4, w5, w6, w7, w8, w9, w10, w11, w12, w13, w14, w15, w16, w17, w18, w19, w20, w21, w22, w23, w24, w25, w26, w27, w28, w29, w30, w31, w32, w33, w34, w35, w36, w37, w38, w39, w40, w41, w42, w43, w44, w45, w46, w47, w48, w49, w50, w51, w52, w53, w54, w55, w56, w57, w58, w59, w60, w61, w62])), (tp, .inl (y 1, 4096, .inl f))] sz) [(h0, .inr (16, [.int 0, .int 8, .ref tp, w2, w3, w4, w5, w6, w7, w8, w9, w10, w11, w12, w13, w14, w15, w16, w17, w18, w19, w20, w21, w22, w23, w24, w25, w26, w27, w28, w29, w30, w31, w32, w33, w34, w35, w36, w37, w38, w39, w40, w41, w42, w43, w44, w45, w46, w47, w48, w49, w50, w51, w52, w53, w54, w55, w56, w57, w58, w59, w60, w61, w62])), (tp, .inl (y 1, 4096, .inl fz0))]) (va_A [(h0, .inr (16, [w1, .int 0, .ref tp, w2, w3, w4, w5, w6, w7, w8, w9, w10, w11, w12, w13, w14, w15, w16, w17, w18, w19, w20, w21, w22, w23, w24, w25, w26, w27, w28, w29, w30, w31, w32, w33, w34, w35, w36, w37, w38, w39, w40, w41, w42, w43, w44, w45, w46, w47, w48, w49, w50, w51, w52, w53, w54, w55, w56, w57, w58, w59, w60, w61, w62])), (tp, .inl (y 1, 4096, .inl f))] sz)) 0 0 (va_A [(h0, .inr (16, [w1, .int 0, .ref tp, w2, w3, w4, w5, w6, w7, w8, w9, w10, w11, w12, w13, w14, w15, w16, w17, w18, w19, w20, w21, w22, w23, w24, w25, w26, w27, w28, w29, w30, w31, w32, w33, w34, w35, w36, w37, w38, w39, w40, w41, w42, w43, w44, w45, w46, w47, w48, w49, w50, w51, w52, w53, w54, w55, w56, w57, w58, w59, w60, w61, w62])), (tp, .inl (y 1, 4096, .inl f))] sz) := by
  refine Met.ofW (cc := cX12_add) (maxL := 5) (ret := (some .boolean)) (by decide) rfl ?_
  intro p e s m args below meth c s₁ B hml hv
  obtain ⟨rfl, hsz, hP, hK, hD0, hN, hE, hO, hT, hG⟩ := hv
  have hx := B.exec
  have hb := B.bytes
  have hr := B.returns
  have hts := atoms_spec (ws := wz_c_M_add_8) B.pre
  have hown : s.vm.findClass RX12 = some m.cls := findClass_of_methodNamed B.named
  have hlocks := B.notSynchronized
  subst hsz
  have hD := hD0.self (sz := s.heap.size)
  generalize hAe : va_A [(h0, .inr (16, [w1, .int 0, .ref tp, w2, w3, w4, w5, w6, w7, w8, w9, w10, w11, w12, w13, w14, w15, w16, w17, w18, w19, w20, w21, w22, w23, w24, w25, w26, w27, w28, w29, w30, w31, w32, w33, w34, w35, w36, w37, w38, w39, w40, w41, w42, w43, w44, w45, w46, w47, w48, w49, w50, w51, w52, w53, w54, w55, w56, w57, w58, w59, w60, w61, w62])), (tp, .inl (y 1, 4096, .inl f))] s.heap.size = A at hD hE hT hG ⊢
  have hA : ∀ q : Nat, s.heap.size ≤ q → A q := fun q h => by rw [← hAe]; exact Or.inr h
  have hS : va_S A s.heap s.heap [] := va_S.rf
  have hl := lv_entry ([.ref h0, .long wd, .int 8]) (n := 5) (Nat.le_of_ble_eq_true rfl)
  rw [lg_entry_eq]
  generalize (lg_sl ([.ref h0, .long wd, .int 8]) ++ List.replicate (5 - (lg_sl ([.ref h0, .long wd, .int 8])).length) Slot.unset).toArray = ls at hl ⊢
  have hl : lv_has ls 5 [(0, .ref h0), (1, .long wd), (3, .int 8)] := hl
  refine lv_aload_n hx hb dX12_add_0 rfl (lv_at hl 0 rfl) ?_
  refine lv_iconst (v := 0) hx hb dX12_add_1 (by decide) ?_
  refine va_put (D := D) (ci := 16) (v := .int 0) (ty := .int) (C := RX12) (T := TX12) (N := 64) hx hb hts (by decide +kernel) tyX12 tyX12_ok nmX12 hown hK hP hD hS 0 rfl rfl 0 (by decide) (hts (.fieldLink RX12 78 "SignetRingModel" "thrown" "I") (by decide +kernel)) (fun _ h9 => h9) rfl (by decide +kernel) rfl rfl (Nat.le_of_ble_eq_true rfl) dX12_add_2 (fun H locs hP hD hS => ?_)
  have hP : va_P D vwCl [(h0, .inr (16, [.int 0, .int 0, .ref tp, w2, w3, w4, w5, w6, w7, w8, w9, w10, w11, w12, w13, w14, w15, w16, w17, w18, w19, w20, w21, w22, w23, w24, w25, w26, w27, w28, w29, w30, w31, w32, w33, w34, w35, w36, w37, w38, w39, w40, w41, w42, w43, w44, w45, w46, w47, w48, w49, w50, w51, w52, w53, w54, w55, w56, w57, w58, w59, w60, w61, w62])), (tp, .inl (y 1, 4096, .inl f))] H := hP
  have hD : va_D A [(h0, .inr (16, [.int 0, .int 0, .ref tp, w2, w3, w4, w5, w6, w7, w8, w9, w10, w11, w12, w13, w14, w15, w16, w17, w18, w19, w20, w21, w22, w23, w24, w25, w26, w27, w28, w29, w30, w31, w32, w33, w34, w35, w36, w37, w38, w39, w40, w41, w42, w43, w44, w45, w46, w47, w48, w49, w50, w51, w52, w53, w54, w55, w56, w57, w58, w59, w60, w61, w62])), (tp, .inl (y 1, 4096, .inl f))] := hD
  refine lv_iload_n hx hb dX12_add_5 rfl (lv_at hl 2 rfl) ?_
  refine lv_iconst (v := 1) hx hb dX12_add_6 (by decide) ?_
  refine lv_icmp_lt (tgt := 28) hx hb dX12_add_7 (by decide) (fun c9 => absurd c9 (by decide)) (fun _ => ?_)
  refine lv_iload_n hx hb dX12_add_10 rfl (lv_at hl 2 rfl) ?_
  refine lv_bipush (v := 8) hx hb dX12_add_11 (by decide) ?_
  refine lv_icmp_gt (tgt := 28) hx hb dX12_add_13 (by decide) (fun c9 => absurd c9 (by decide)) (fun _ => ?_)
  refine lv_aload_n hx hb dX12_add_16 rfl (lv_at hl 0 rfl) ?_
  refine va_get (D := D) (ci := 16) (v := .int 0) (C := RX12) (T := TX12) (N := 64) hx hb hts (by decide +kernel) hown hK hP 0 rfl rfl 1 (by decide) (hts (.fieldLink RX12 84 "SignetRingModel" "taped" "I") (by decide +kernel)) (fun _ h9 => h9) rfl dX12_add_17 ?_
  refine lv_iload_n hx hb dX12_add_20 rfl (lv_at hl 2 rfl) ?_
  refine lv_iadd hx hb dX12_add_21 ?_
  refine lv_topi (fun v1 ev1 => ?_)
  have ev1 : v1 = 8 := ev1.trans (by decide +kernel)
  subst ev1
  refine lv_sipush (v := 4096) hx hb dX12_add_22 (by decide) ?_
  refine lv_icmp_le (tgt := 30) hx hb dX12_add_25 (by decide) (fun _ => ?_) (fun c9 => absurd (by decide) c9)
  refine lv_iconst (v := 0) hx hb dX12_add_30 (by decide) ?_
  refine lv_istore (lv' := [(4, .int 0), (0, .ref h0), (1, .long wd), (3, .int 8)]) hx hb dX12_add_31 hl (by decide) rfl (fun ls hl => ?_)
  refine lv_iload hx hb dX12_add_33 (lv_at hl 0 rfl) ?_
  refine lv_iload_n hx hb dX12_add_35 rfl (lv_at hl 3 rfl) ?_
  refine lv_icmp_ge (tgt := 76) hx hb dX12_add_36 (by decide) (fun c9 => absurd c9 (by decide)) (fun _ => ?_)
  refine lv_aload_n hx hb dX12_add_39 rfl (lv_at hl 1 rfl) ?_
  refine va_get (D := D) (ci := 16) (v := .ref tp) (C := RX12) (T := TX12) (N := 64) hx hb hts (by decide +kernel) hown hK hP 0 rfl rfl 2 (by decide) (hts (.fieldLink RX12 7 "SignetRingModel" "tape" "[I") (by decide +kernel)) (fun _ h9 => h9) rfl dX12_add_40 ?_
  refine lv_aload_n hx hb dX12_add_43 rfl (lv_at hl 1 rfl) ?_
  refine va_get (D := D) (ci := 16) (v := .int 0) (C := RX12) (T := TX12) (N := 64) hx hb hts (by decide +kernel) hown hK hP 0 rfl rfl 1 (by decide) (hts (.fieldLink RX12 84 "SignetRingModel" "taped" "I") (by decide +kernel)) (fun _ h9 => h9) rfl dX12_add_44 ?_
  refine lv_lload_n hx hb dX12_add_47 rfl (lv_at hl 2 rfl) ?_
  refine lv_bipush (v := 8) hx hb dX12_add_48 (by decide) ?_
  refine lv_iload hx hb dX12_add_50 (lv_at hl 0 rfl) ?_
  refine lv_imul hx hb dX12_add_52 ?_
  refine lv_topi (fun v2 ev2 => ?_)
  have ev2 : v2 = 0 := ev2.trans (by decide +kernel)
  subst ev2
  refine lv_lshr hx hb dX12_add_53 rfl ?_
  refine lv_topl (fun v3 _ => ?_)
  refine lv_ldc2 (v := 255) hx hb hown (hts (.constantLong RX12 87 255) (by decide +kernel)) dX12_add_54 ?_
  refine lv_land hx hb dX12_add_57 ?_
  refine lv_topl (fun v4 _ => ?_)
  refine lv_l2i hx hb dX12_add_58 rfl ?_
  refine lv_topi (fun v5 _ => ?_)
  refine va_iast hx hb hK hP hD hS 1 1 rfl rfl (by unfold vp_in; decide) dX12_add_59 (fun H locs hP hD hS => ?_)
  have hP : va_P D vwCl [(h0, .inr (16, [.int 0, .int 0, .ref tp, w2, w3, w4, w5, w6, w7, w8, w9, w10, w11, w12, w13, w14, w15, w16, w17, w18, w19, w20, w21, w22, w23, w24, w25, w26, w27, w28, w29, w30, w31, w32, w33, w34, w35, w36, w37, w38, w39, w40, w41, w42, w43, w44, w45, w46, w47, w48, w49, w50, w51, w52, w53, w54, w55, w56, w57, w58, w59, w60, w61, w62])), (tp, .inl (y 1, 4096, .inl (upd f (0 : Int32).toNatClampNeg v5)))] H := hP
  have hD : va_D A [(h0, .inr (16, [.int 0, .int 0, .ref tp, w2, w3, w4, w5, w6, w7, w8, w9, w10, w11, w12, w13, w14, w15, w16, w17, w18, w19, w20, w21, w22, w23, w24, w25, w26, w27, w28, w29, w30, w31, w32, w33, w34, w35, w36, w37, w38, w39, w40, w41, w42, w43, w44, w45, w46, w47, w48, w49, w50, w51, w52, w53, w54, w55, w56, w57, w58, w59, w60, w61, w62])), (tp, .inl (y 1, 4096, .inl (upd f (0 : Int32).toNatClampNeg v5)))] := hD
  refine lv_aload_n hx hb dX12_add_60 rfl (lv_at hl 1 rfl) ?_
  refine lv_dup hx hb dX12_add_61 rfl ?_
  refine va_get (D := D) (ci := 16) (v := .int 0) (C := RX12) (T := TX12) (N := 64) hx hb hts (by decide +kernel) hown hK hP 0 rfl rfl 1 (by decide) (hts (.fieldLink RX12 84 "SignetRingModel" "taped" "I") (by decide +kernel)) (fun _ h9 => h9) rfl dX12_add_62 ?_
  refine lv_iconst (v := 1) hx hb dX12_add_65 (by decide) ?_
  refine lv_iadd hx hb dX12_add_66 ?_
  refine lv_topi (fun v6 ev6 => ?_)
  have ev6 : v6 = 1 := ev6.trans (by decide +kernel)
  subst ev6
  refine va_put (D := D) (ci := 16) (v := .int 1) (ty := .int) (C := RX12) (T := TX12) (N := 64) hx hb hts (by decide +kernel) tyX12 tyX12_ok nmX12 hown hK hP hD hS 0 rfl rfl 1 (by decide) (hts (.fieldLink RX12 84 "SignetRingModel" "taped" "I") (by decide +kernel)) (fun _ h9 => h9) rfl (by decide +kernel) rfl rfl (Nat.le_of_ble_eq_true rfl) dX12_add_67 (fun H locs hP hD hS => ?_)
  have hP : va_P D vwCl [(h0, .inr (16, [.int 0, .int 1, .ref tp, w2, w3, w4, w5, w6, w7, w8, w9, w10, w11, w12, w13, w14, w15, w16, w17, w18, w19, w20, w21, w22, w23, w24, w25, w26, w27, w28, w29, w30, w31, w32, w33, w34, w35, w36, w37, w38, w39, w40, w41, w42, w43, w44, w45, w46, w47, w48, w49, w50, w51, w52, w53, w54, w55, w56, w57, w58, w59, w60, w61, w62])), (tp, .inl (y 1, 4096, .inl (upd f (0 : Int32).toNatClampNeg v5)))] H := hP
  have hD : va_D A [(h0, .inr (16, [.int 0, .int 1, .ref tp, w2, w3, w4, w5, w6, w7, w8, w9, w10, w11, w12, w13, w14, w15, w16, w17, w18, w19, w20, w21, w22, w23, w24, w25, w26, w27, w28, w29, w30, w31, w32, w33, w34, w35, w36, w37, w38, w39, w40, w41, w42, w43, w44, w45, w46, w47, w48, w49, w50, w51, w52, w53, w54, w55, w56, w57, w58, w59, w60, w61, w62])), (tp, .inl (y 1, 4096, .inl (upd f (0 : Int32).toNatClampNeg v5)))] := hD
  refine lv_iinc (v := 1) (lv' := [(4, .int 1), (0, .ref h0), (1, .long wd), (3, .int 8)]) hx hb dX12_add_70 hl (k := 0) rfl (by decide) (by decide) rfl (fun ls hl => ?_)
  refine lv_goto (tgt := 33) hx hb dX12_add_73 (by decide) ?_
  refine lv_iload hx hb dX12_add_33 (lv_at hl 0 rfl) ?_
  refine lv_iload_n hx hb dX12_add_35 rfl (lv_at hl 3 rfl) ?_
  refine lv_icmp_ge (tgt := 76) hx hb dX12_add_36 (by decide) (fun c9 => absurd c9 (by decide)) (fun _ => ?_)
  refine lv_aload_n hx hb dX12_add_39 rfl (lv_at hl 1 rfl) ?_
  refine va_get (D := D) (ci := 16) (v := .ref tp) (C := RX12) (T := TX12) (N := 64) hx hb hts (by decide +kernel) hown hK hP 0 rfl rfl 2 (by decide) (hts (.fieldLink RX12 7 "SignetRingModel" "tape" "[I") (by decide +kernel)) (fun _ h9 => h9) rfl dX12_add_40 ?_
  refine lv_aload_n hx hb dX12_add_43 rfl (lv_at hl 1 rfl) ?_
  refine va_get (D := D) (ci := 16) (v := .int 1) (C := RX12) (T := TX12) (N := 64) hx hb hts (by decide +kernel) hown hK hP 0 rfl rfl 1 (by decide) (hts (.fieldLink RX12 84 "SignetRingModel" "taped" "I") (by decide +kernel)) (fun _ h9 => h9) rfl dX12_add_44 ?_
  refine lv_lload_n hx hb dX12_add_47 rfl (lv_at hl 2 rfl) ?_
  refine lv_bipush (v := 8) hx hb dX12_add_48 (by decide) ?_
  refine lv_iload hx hb dX12_add_50 (lv_at hl 0 rfl) ?_
  refine lv_imul hx hb dX12_add_52 ?_
  refine lv_topi (fun v7 ev7 => ?_)
  have ev7 : v7 = 8 := ev7.trans (by decide +kernel)
  subst ev7
  refine lv_lshr hx hb dX12_add_53 rfl ?_
  refine lv_topl (fun v8 _ => ?_)
  refine lv_ldc2 (v := 255) hx hb hown (hts (.constantLong RX12 87 255) (by decide +kernel)) dX12_add_54 ?_
  refine lv_land hx hb dX12_add_57 ?_
  refine lv_topl (fun v9 _ => ?_)
  refine lv_l2i hx hb dX12_add_58 rfl ?_
  refine lv_topi (fun v10 _ => ?_)
  refine va_iast hx hb hK hP hD hS 1 1 rfl rfl (by unfold vp_in; decide) dX12_add_59 (fun H locs hP hD hS => ?_)
  have hP : va_P D vwCl [(h0, .inr (16, [.int 0, .int 1, .ref tp, w2, w3, w4, w5, w6, w7, w8, w9, w10, w11, w12, w13, w14, w15, w16, w17, w18, w19, w20, w21, w22, w23, w24, w25, w26, w27, w28, w29, w30, w31, w32, w33, w34, w35, w36, w37, w38, w39, w40, w41, w42, w43, w44, w45, w46, w47, w48, w49, w50, w51, w52, w53, w54, w55, w56, w57, w58, w59, w60, w61, w62])), (tp, .inl (y 1, 4096, .inl (upd (upd f (0 : Int32).toNatClampNeg v5) (1 : Int32).toNatClampNeg v10)))] H := hP
  have hD : va_D A [(h0, .inr (16, [.int 0, .int 1, .ref tp, w2, w3, w4, w5, w6, w7, w8, w9, w10, w11, w12, w13, w14, w15, w16, w17, w18, w19, w20, w21, w22, w23, w24, w25, w26, w27, w28, w29, w30, w31, w32, w33, w34, w35, w36, w37, w38, w39, w40, w41, w42, w43, w44, w45, w46, w47, w48, w49, w50, w51, w52, w53, w54, w55, w56, w57, w58, w59, w60, w61, w62])), (tp, .inl (y 1, 4096, .inl (upd (upd f (0 : Int32).toNatClampNeg v5) (1 : Int32).toNatClampNeg v10)))] := hD
  refine lv_aload_n hx hb dX12_add_60 rfl (lv_at hl 1 rfl) ?_
  refine lv_dup hx hb dX12_add_61 rfl ?_
  refine va_get (D := D) (ci := 16) (v := .int 1) (C := RX12) (T := TX12) (N := 64) hx hb hts (by decide +kernel) hown hK hP 0 rfl rfl 1 (by decide) (hts (.fieldLink RX12 84 "SignetRingModel" "taped" "I") (by decide +kernel)) (fun _ h9 => h9) rfl dX12_add_62 ?_
  refine lv_iconst (v := 1) hx hb dX12_add_65 (by decide) ?_
  refine lv_iadd hx hb dX12_add_66 ?_
  refine lv_topi (fun v11 ev11 => ?_)
  have ev11 : v11 = 2 := ev11.trans (by decide +kernel)
  subst ev11
  refine va_put (D := D) (ci := 16) (v := .int 2) (ty := .int) (C := RX12) (T := TX12) (N := 64) hx hb hts (by decide +kernel) tyX12 tyX12_ok nmX12 hown hK hP hD hS 0 rfl rfl 1 (by decide) (hts (.fieldLink RX12 84 "SignetRingModel" "taped" "I") (by decide +kernel)) (fun _ h9 => h9) rfl (by decide +kernel) rfl rfl (Nat.le_of_ble_eq_true rfl) dX12_add_67 (fun H locs hP hD hS => ?_)
  have hP : va_P D vwCl [(h0, .inr (16, [.int 0, .int 2, .ref tp, w2, w3, w4, w5, w6, w7, w8, w9, w10, w11, w12, w13, w14, w15, w16, w17, w18, w19, w20, w21, w22, w23, w24, w25, w26, w27, w28, w29, w30, w31, w32, w33, w34, w35, w36, w37, w38, w39, w40, w41, w42, w43, w44, w45, w46, w47, w48, w49, w50, w51, w52, w53, w54, w55, w56, w57, w58, w59, w60, w61, w62])), (tp, .inl (y 1, 4096, .inl (upd (upd f (0 : Int32).toNatClampNeg v5) (1 : Int32).toNatClampNeg v10)))] H := hP
  have hD : va_D A [(h0, .inr (16, [.int 0, .int 2, .ref tp, w2, w3, w4, w5, w6, w7, w8, w9, w10, w11, w12, w13, w14, w15, w16, w17, w18, w19, w20, w21, w22, w23, w24, w25, w26, w27, w28, w29, w30, w31, w32, w33, w34, w35, w36, w37, w38, w39, w40, w41, w42, w43, w44, w45, w46, w47, w48, w49, w50, w51, w52, w53, w54, w55, w56, w57, w58, w59, w60, w61, w62])), (tp, .inl (y 1, 4096, .inl (upd (upd f (0 : Int32).toNatClampNeg v5) (1 : Int32).toNatClampNeg v10)))] := hD
  refine lv_iinc (v := 2) (lv' := [(4, .int 2), (0, .ref h0), (1, .long wd), (3, .int 8)]) hx hb dX12_add_70 hl (k := 0) rfl (by decide) (by decide) rfl (fun ls hl => ?_)
  refine lv_goto (tgt := 33) hx hb dX12_add_73 (by decide) ?_
  refine lv_iload hx hb dX12_add_33 (lv_at hl 0 rfl) ?_
  refine lv_iload_n hx hb dX12_add_35 rfl (lv_at hl 3 rfl) ?_
  refine lv_icmp_ge (tgt := 76) hx hb dX12_add_36 (by decide) (fun c9 => absurd c9 (by decide)) (fun _ => ?_)
  refine lv_aload_n hx hb dX12_add_39 rfl (lv_at hl 1 rfl) ?_
  refine va_get (D := D) (ci := 16) (v := .ref tp) (C := RX12) (T := TX12) (N := 64) hx hb hts (by decide +kernel) hown hK hP 0 rfl rfl 2 (by decide) (hts (.fieldLink RX12 7 "SignetRingModel" "tape" "[I") (by decide +kernel)) (fun _ h9 => h9) rfl dX12_add_40 ?_
  refine lv_aload_n hx hb dX12_add_43 rfl (lv_at hl 1 rfl) ?_
  refine va_get (D := D) (ci := 16) (v := .int 2) (C := RX12) (T := TX12) (N := 64) hx hb hts (by decide +kernel) hown hK hP 0 rfl rfl 1 (by decide) (hts (.fieldLink RX12 84 "SignetRingModel" "taped" "I") (by decide +kernel)) (fun _ h9 => h9) rfl dX12_add_44 ?_
  refine lv_lload_n hx hb dX12_add_47 rfl (lv_at hl 2 rfl) ?_
  refine lv_bipush (v := 8) hx hb dX12_add_48 (by decide) ?_
  refine lv_iload hx hb dX12_add_50 (lv_at hl 0 rfl) ?_
  refine lv_imul hx hb dX12_add_52 ?_
  refine lv_topi (fun v12 ev12 => ?_)
  have ev12 : v12 = 16 := ev12.trans (by decide +kernel)
  subst ev12
  refine lv_lshr hx hb dX12_add_53 rfl ?_
  refine lv_topl (fun v13 _ => ?_)
  refine lv_ldc2 (v := 255) hx hb hown (hts (.constantLong RX12 87 255) (by decide +kernel)) dX12_add_54 ?_
  refine lv_land hx hb dX12_add_57 ?_
  refine lv_topl (fun v14 _ => ?_)
  refine lv_l2i hx hb dX12_add_58 rfl ?_
  refine lv_topi (fun v15 _ => ?_)
  refine va_iast hx hb hK hP hD hS 1 1 rfl rfl (by unfold vp_in; decide) dX12_add_59 (fun H locs hP hD hS => ?_)
  have hP : va_P D vwCl [(h0, .inr (16, [.int 0, .int 2, .ref tp, w2, w3, w4, w5, w6, w7, w8, w9, w10, w11, w12, w13, w14, w15, w16, w17, w18, w19, w20, w21, w22, w23, w24, w25, w26, w27, w28, w29, w30, w31, w32, w33, w34, w35, w36, w37, w38, w39, w40, w41, w42, w43, w44, w45, w46, w47, w48, w49, w50, w51, w52, w53, w54, w55, w56, w57, w58, w59, w60, w61, w62])), (tp, .inl (y 1, 4096, .inl (upd (upd (upd f (0 : Int32).toNatClampNeg v5) (1 : Int32).toNatClampNeg v10) (2 : Int32).toNatClampNeg v15)))] H := hP
  have hD : va_D A [(h0, .inr (16, [.int 0, .int 2, .ref tp, w2, w3, w4, w5, w6, w7, w8, w9, w10, w11, w12, w13, w14, w15, w16, w17, w18, w19, w20, w21, w22, w23, w24, w25, w26, w27, w28, w29, w30, w31, w32, w33, w34, w35, w36, w37, w38, w39, w40, w41, w42, w43, w44, w45, w46, w47, w48, w49, w50, w51, w52, w53, w54, w55, w56, w57, w58, w59, w60, w61, w62])), (tp, .inl (y 1, 4096, .inl (upd (upd (upd f (0 : Int32).toNatClampNeg v5) (1 : Int32).toNatClampNeg v10) (2 : Int32).toNatClampNeg v15)))] := hD
  refine lv_aload_n hx hb dX12_add_60 rfl (lv_at hl 1 rfl) ?_
  refine lv_dup hx hb dX12_add_61 rfl ?_
  refine va_get (D := D) (ci := 16) (v := .int 2) (C := RX12) (T := TX12) (N := 64) hx hb hts (by decide +kernel) hown hK hP 0 rfl rfl 1 (by decide) (hts (.fieldLink RX12 84 "SignetRingModel" "taped" "I") (by decide +kernel)) (fun _ h9 => h9) rfl dX12_add_62 ?_
  refine lv_iconst (v := 1) hx hb dX12_add_65 (by decide) ?_
  refine lv_iadd hx hb dX12_add_66 ?_
  refine lv_topi (fun v16 ev16 => ?_)
  have ev16 : v16 = 3 := ev16.trans (by decide +kernel)
  subst ev16
  refine va_put (D := D) (ci := 16) (v := .int 3) (ty := .int) (C := RX12) (T := TX12) (N := 64) hx hb hts (by decide +kernel) tyX12 tyX12_ok nmX12 hown hK hP hD hS 0 rfl rfl 1 (by decide) (hts (.fieldLink RX12 84 "SignetRingModel" "taped" "I") (by decide +kernel)) (fun _ h9 => h9) rfl (by decide +kernel) rfl rfl (Nat.le_of_ble_eq_true rfl) dX12_add_67 (fun H locs hP hD hS => ?_)
  have hP : va_P D vwCl [(h0, .inr (16, [.int 0, .int 3, .ref tp, w2, w3, w4, w5, w6, w7, w8, w9, w10, w11, w12, w13, w14, w15, w16, w17, w18, w19, w20, w21, w22, w23, w24, w25, w26, w27, w28, w29, w30, w31, w32, w33, w34, w35, w36, w37, w38, w39, w40, w41, w42, w43, w44, w45, w46, w47, w48, w49, w50, w51, w52, w53, w54, w55, w56, w57, w58, w59, w60, w61, w62])), (tp, .inl (y 1, 4096, .inl (upd (upd (upd f (0 : Int32).toNatClampNeg v5) (1 : Int32).toNatClampNeg v10) (2 : Int32).toNatClampNeg v15)))] H := hP
  have hD : va_D A [(h0, .inr (16, [.int 0, .int 3, .ref tp, w2, w3, w4, w5, w6, w7, w8, w9, w10, w11, w12, w13, w14, w15, w16, w17, w18, w19, w20, w21, w22, w23, w24, w25, w26, w27, w28, w29, w30, w31, w32, w33, w34, w35, w36, w37, w38, w39, w40, w41, w42, w43, w44, w45, w46, w47, w48, w49, w50, w51, w52, w53, w54, w55, w56, w57, w58, w59, w60, w61, w62])), (tp, .inl (y 1, 4096, .inl (upd (upd (upd f (0 : Int32).toNatClampNeg v5) (1 : Int32).toNatClampNeg v10) (2 : Int32).toNatClampNeg v15)))] := hD
  refine lv_iinc (v := 3) (lv' := [(4, .int 3), (0, .ref h0), (1, .long wd), (3, .int 8)]) hx hb dX12_add_70 hl (k := 0) rfl (by decide) (by decide) rfl (fun ls hl => ?_)
  refine lv_goto (tgt := 33) hx hb dX12_add_73 (by decide) ?_
  refine lv_iload hx hb dX12_add_33 (lv_at hl 0 rfl) ?_
  refine lv_iload_n hx hb dX12_add_35 rfl (lv_at hl 3 rfl) ?_
  refine lv_icmp_ge (tgt := 76) hx hb dX12_add_36 (by decide) (fun c9 => absurd c9 (by decide)) (fun _ => ?_)
  refine lv_aload_n hx hb dX12_add_39 rfl (lv_at hl 1 rfl) ?_
  refine va_get (D := D) (ci := 16) (v := .ref tp) (C := RX12) (T := TX12) (N := 64) hx hb hts (by decide +kernel) hown hK hP 0 rfl rfl 2 (by decide) (hts (.fieldLink RX12 7 "SignetRingModel" "tape" "[I") (by decide +kernel)) (fun _ h9 => h9) rfl dX12_add_40 ?_
  refine lv_aload_n hx hb dX12_add_43 rfl (lv_at hl 1 rfl) ?_
  refine va_get (D := D) (ci := 16) (v := .int 3) (C := RX12) (T := TX12) (N := 64) hx hb hts (by decide +kernel) hown hK hP 0 rfl rfl 1 (by decide) (hts (.fieldLink RX12 84 "SignetRingModel" "taped" "I") (by decide +kernel)) (fun _ h9 => h9) rfl dX12_add_44 ?_
  refine lv_lload_n hx hb dX12_add_47 rfl (lv_at hl 2 rfl) ?_
  refine lv_bipush (v := 8) hx hb dX12_add_48 (by decide) ?_
  refine lv_iload hx hb dX12_add_50 (lv_at hl 0 rfl) ?_
  refine lv_imul hx hb dX12_add_52 ?_
  refine lv_topi (fun v17 ev17 => ?_)
  have ev17 : v17 = 24 := ev17.trans (by decide +kernel)
  subst ev17
  refine lv_lshr hx hb dX12_add_53 rfl ?_
  refine lv_topl (fun v18 _ => ?_)
  refine lv_ldc2 (v := 255) hx hb hown (hts (.constantLong RX12 87 255) (by decide +kernel)) dX12_add_54 ?_
  refine lv_land hx hb dX12_add_57 ?_
  refine lv_topl (fun v19 _ => ?_)
  refine lv_l2i hx hb dX12_add_58 rfl ?_
  refine lv_topi (fun v20 _ => ?_)
  refine va_iast hx hb hK hP hD hS 1 1 rfl rfl (by unfold vp_in; decide) dX12_add_59 (fun H locs hP hD hS => ?_)
  have hP : va_P D vwCl [(h0, .inr (16, [.int 0, .int 3, .ref tp, w2, w3, w4, w5, w6, w7, w8, w9, w10, w11, w12, w13, w14, w15, w16, w17, w18, w19, w20, w21, w22, w23, w24, w25, w26, w27, w28, w29, w30, w31, w32, w33, w34, w35, w36, w37, w38, w39, w40, w41, w42, w43, w44, w45, w46, w47, w48, w49, w50, w51, w52, w53, w54, w55, w56, w57, w58, w59, w60, w61, w62])), (tp, .inl (y 1, 4096, .inl (upd (upd (upd (upd f (0 : Int32).toNatClampNeg v5) (1 : Int32).toNatClampNeg v10) (2 : Int32).toNatClampNeg v15) (3 : Int32).toNatClampNeg v20)))] H := hP
  have hD : va_D A [(h0, .inr (16, [.int 0, .int 3, .ref tp, w2, w3, w4, w5, w6, w7, w8, w9, w10, w11, w12, w13, w14, w15, w16, w17, w18, w19, w20, w21, w22, w23, w24, w25, w26, w27, w28, w29, w30, w31, w32, w33, w34, w35, w36, w37, w38, w39, w40, w41, w42, w43, w44, w45, w46, w47, w48, w49, w50, w51, w52, w53, w54, w55, w56, w57, w58, w59, w60, w61, w62])), (tp, .inl (y 1, 4096, .inl (upd (upd (upd (upd f (0 : Int32).toNatClampNeg v5) (1 : Int32).toNatClampNeg v10) (2 : Int32).toNatClampNeg v15) (3 : Int32).toNatClampNeg v20)))] := hD
  refine lv_aload_n hx hb dX12_add_60 rfl (lv_at hl 1 rfl) ?_
  refine lv_dup hx hb dX12_add_61 rfl ?_
  refine va_get (D := D) (ci := 16) (v := .int 3) (C := RX12) (T := TX12) (N := 64) hx hb hts (by decide +kernel) hown hK hP 0 rfl rfl 1 (by decide) (hts (.fieldLink RX12 84 "SignetRingModel" "taped" "I") (by decide +kernel)) (fun _ h9 => h9) rfl dX12_add_62 ?_
  refine lv_iconst (v := 1) hx hb dX12_add_65 (by decide) ?_
  refine lv_iadd hx hb dX12_add_66 ?_
  refine lv_topi (fun v21 ev21 => ?_)
  have ev21 : v21 = 4 := ev21.trans (by decide +kernel)
  subst ev21
  refine va_put (D := D) (ci := 16) (v := .int 4) (ty := .int) (C := RX12) (T := TX12) (N := 64) hx hb hts (by decide +kernel) tyX12 tyX12_ok nmX12 hown hK hP hD hS 0 rfl rfl 1 (by decide) (hts (.fieldLink RX12 84 "SignetRingModel" "taped" "I") (by decide +kernel)) (fun _ h9 => h9) rfl (by decide +kernel) rfl rfl (Nat.le_of_ble_eq_true rfl) dX12_add_67 (fun H locs hP hD hS => ?_)
  have hP : va_P D vwCl [(h0, .inr (16, [.int 0, .int 4, .ref tp, w2, w3, w4, w5, w6, w7, w8, w9, w10, w11, w12, w13, w14, w15, w16, w17, w18, w19, w20, w21, w22, w23, w24, w25, w26, w27, w28, w29, w30, w31, w32, w33, w34, w35, w36, w37, w38, w39, w40, w41, w42, w43, w44, w45, w46, w47, w48, w49, w50, w51, w52, w53, w54, w55, w56, w57, w58, w59, w60, w61, w62])), (tp, .inl (y 1, 4096, .inl (upd (upd (upd (upd f (0 : Int32).toNatClampNeg v5) (1 : Int32).toNatClampNeg v10) (2 : Int32).toNatClampNeg v15) (3 : Int32).toNatClampNeg v20)))] H := hP
  have hD : va_D A [(h0, .inr (16, [.int 0, .int 4, .ref tp, w2, w3, w4, w5, w6, w7, w8, w9, w10, w11, w12, w13, w14, w15, w16, w17, w18, w19, w20, w21, w22, w23, w24, w25, w26, w27, w28, w29, w30, w31, w32, w33, w34, w35, w36, w37, w38, w39, w40, w41, w42, w43, w44, w45, w46, w47, w48, w49, w50, w51, w52, w53, w54, w55, w56, w57, w58, w59, w60, w61, w62])), (tp, .inl (y 1, 4096, .inl (upd (upd (upd (upd f (0 : Int32).toNatClampNeg v5) (1 : Int32).toNatClampNeg v10) (2 : Int32).toNatClampNeg v15) (3 : Int32).toNatClampNeg v20)))] := hD
  refine lv_iinc (v := 4) (lv' := [(4, .int 4), (0, .ref h0), (1, .long wd), (3, .int 8)]) hx hb dX12_add_70 hl (k := 0) rfl (by decide) (by decide) rfl (fun ls hl => ?_)
  refine lv_goto (tgt := 33) hx hb dX12_add_73 (by decide) ?_
  refine lv_iload hx hb dX12_add_33 (lv_at hl 0 rfl) ?_
  refine lv_iload_n hx hb dX12_add_35 rfl (lv_at hl 3 rfl) ?_
  refine lv_icmp_ge (tgt := 76) hx hb dX12_add_36 (by decide) (fun c9 => absurd c9 (by decide)) (fun _ => ?_)
  refine lv_aload_n hx hb dX12_add_39 rfl (lv_at hl 1 rfl) ?_
  refine va_get (D := D) (ci := 16) (v := .ref tp) (C := RX12) (T := TX12) (N := 64) hx hb hts (by decide +kernel) hown hK hP 0 rfl rfl 2 (by decide) (hts (.fieldLink RX12 7 "SignetRingModel" "tape" "[I") (by decide +kernel)) (fun _ h9 => h9) rfl dX12_add_40 ?_
  refine lv_aload_n hx hb dX12_add_43 rfl (lv_at hl 1 rfl) ?_
  refine va_get (D := D) (ci := 16) (v := .int 4) (C := RX12) (T := TX12) (N := 64) hx hb hts (by decide +kernel) hown hK hP 0 rfl rfl 1 (by decide) (hts (.fieldLink RX12 84 "SignetRingModel" "taped" "I") (by decide +kernel)) (fun _ h9 => h9) rfl dX12_add_44 ?_
  refine lv_lload_n hx hb dX12_add_47 rfl (lv_at hl 2 rfl) ?_
  refine lv_bipush (v := 8) hx hb dX12_add_48 (by decide) ?_
  refine lv_iload hx hb dX12_add_50 (lv_at hl 0 rfl) ?_
  refine lv_imul hx hb dX12_add_52 ?_
  refine lv_topi (fun v22 ev22 => ?_)
  have ev22 : v22 = 32 := ev22.trans (by decide +kernel)
  subst ev22
  refine lv_lshr hx hb dX12_add_53 rfl ?_
  refine lv_topl (fun v23 _ => ?_)
  refine lv_ldc2 (v := 255) hx hb hown (hts (.constantLong RX12 87 255) (by decide +kernel)) dX12_add_54 ?_
  refine lv_land hx hb dX12_add_57 ?_
  refine lv_topl (fun v24 _ => ?_)
  refine lv_l2i hx hb dX12_add_58 rfl ?_
  refine lv_topi (fun v25 _ => ?_)
  refine va_iast hx hb hK hP hD hS 1 1 rfl rfl (by unfold vp_in; decide) dX12_add_59 (fun H locs hP hD hS => ?_)
  have hP : va_P D vwCl [(h0, .inr (16, [.int 0, .int 4, .ref tp, w2, w3, w4, w5, w6, w7, w8, w9, w10, w11, w12, w13, w14, w15, w16, w17, w18, w19, w20, w21, w22, w23, w24, w25, w26, w27, w28, w29, w30, w31, w32, w33, w34, w35, w36, w37, w38, w39, w40, w41, w42, w43, w44, w45, w46, w47, w48, w49, w50, w51, w52, w53, w54, w55, w56, w57, w58, w59, w60, w61, w62])), (tp, .inl (y 1, 4096, .inl (upd (upd (upd (upd (upd f (0 : Int32).toNatClampNeg v5) (1 : Int32).toNatClampNeg v10) (2 : Int32).toNatClampNeg v15) (3 : Int32).toNatClampNeg v20) (4 : Int32).toNatClampNeg v25)))] H := hP
  have hD : va_D A [(h0, .inr (16, [.int 0, .int 4, .ref tp, w2, w3, w4, w5, w6, w7, w8, w9, w10, w11, w12, w13, w14, w15, w16, w17, w18, w19, w20, w21, w22, w23, w24, w25, w26, w27, w28, w29, w30, w31, w32, w33, w34, w35, w36, w37, w38, w39, w40, w41, w42, w43, w44, w45, w46, w47, w48, w49, w50, w51, w52, w53, w54, w55, w56, w57, w58, w59, w60, w61, w62])), (tp, .inl (y 1, 4096, .inl (upd (upd (upd (upd (upd f (0 : Int32).toNatClampNeg v5) (1 : Int32).toNatClampNeg v10) (2 : Int32).toNatClampNeg v15) (3 : Int32).toNatClampNeg v20) (4 : Int32).toNatClampNeg v25)))] := hD
  refine lv_aload_n hx hb dX12_add_60 rfl (lv_at hl 1 rfl) ?_
  refine lv_dup hx hb dX12_add_61 rfl ?_
  refine va_get (D := D) (ci := 16) (v := .int 4) (C := RX12) (T := TX12) (N := 64) hx hb hts (by decide +kernel) hown hK hP 0 rfl rfl 1 (by decide) (hts (.fieldLink RX12 84 "SignetRingModel" "taped" "I") (by decide +kernel)) (fun _ h9 => h9) rfl dX12_add_62 ?_
  refine lv_iconst (v := 1) hx hb dX12_add_65 (by decide) ?_
  refine lv_iadd hx hb dX12_add_66 ?_
  refine lv_topi (fun v26 ev26 => ?_)
  have ev26 : v26 = 5 := ev26.trans (by decide +kernel)
  subst ev26
  refine va_put (D := D) (ci := 16) (v := .int 5) (ty := .int) (C := RX12) (T := TX12) (N := 64) hx hb hts (by decide +kernel) tyX12 tyX12_ok nmX12 hown hK hP hD hS 0 rfl rfl 1 (by decide) (hts (.fieldLink RX12 84 "SignetRingModel" "taped" "I") (by decide +kernel)) (fun _ h9 => h9) rfl (by decide +kernel) rfl rfl (Nat.le_of_ble_eq_true rfl) dX12_add_67 (fun H locs hP hD hS => ?_)
  have hP : va_P D vwCl [(h0, .inr (16, [.int 0, .int 5, .ref tp, w2, w3, w4, w5, w6, w7, w8, w9, w10, w11, w12, w13, w14, w15, w16, w17, w18, w19, w20, w21, w22, w23, w24, w25, w26, w27, w28, w29, w30, w31, w32, w33, w34, w35, w36, w37, w38, w39, w40, w41, w42, w43, w44, w45, w46, w47, w48, w49, w50, w51, w52, w53, w54, w55, w56, w57, w58, w59, w60, w61, w62])), (tp, .inl (y 1, 4096, .inl (upd (upd (upd (upd (upd f (0 : Int32).toNatClampNeg v5) (1 : Int32).toNatClampNeg v10) (2 : Int32).toNatClampNeg v15) (3 : Int32).toNatClampNeg v20) (4 : Int32).toNatClampNeg v25)))] H := hP
  have hD : va_D A [(h0, .inr (16, [.int 0, .int 5, .ref tp, w2, w3, w4, w5, w6, w7, w8, w9, w10, w11, w12, w13, w14, w15, w16, w17, w18, w19, w20, w21, w22, w23, w24, w25, w26, w27, w28, w29, w30, w31, w32, w33, w34, w35, w36, w37, w38, w39, w40, w41, w42, w43, w44, w45, w46, w47, w48, w49, w50, w51, w52, w53, w54, w55, w56, w57, w58, w59, w60, w61, w62])), (tp, .inl (y 1, 4096, .inl (upd (upd (upd (upd (upd f (0 : Int32).toNatClampNeg v5) (1 : Int32).toNatClampNeg v10) (2 : Int32).toNatClampNeg v15) (3 : Int32).toNatClampNeg v20) (4 : Int32).toNatClampNeg v25)))] := hD
  refine lv_iinc (v := 5) (lv' := [(4, .int 5), (0, .ref h0), (1, .long wd), (3, .int 8)]) hx hb dX12_add_70 hl (k := 0) rfl (by decide) (by decide) rfl (fun ls hl => ?_)
  refine lv_goto (tgt := 33) hx hb dX12_add_73 (by decide) ?_
  refine lv_iload hx hb dX12_add_33 (lv_at hl 0 rfl) ?_
  refine lv_iload_n hx hb dX12_add_35 rfl (lv_at hl 3 rfl) ?_
  refine lv_icmp_ge (tgt := 76) hx hb dX12_add_36 (by decide) (fun c9 => absurd c9 (by decide)) (fun _ => ?_)
  refine lv_aload_n hx hb dX12_add_39 rfl (lv_at hl 1 rfl) ?_
  refine va_get (D := D) (ci := 16) (v := .ref tp) (C := RX12) (T := TX12) (N := 64) hx hb hts (by decide +kernel) hown hK hP 0 rfl rfl 2 (by decide) (hts (.fieldLink RX12 7 "SignetRingModel" "tape" "[I") (by decide +kernel)) (fun _ h9 => h9) rfl dX12_add_40 ?_
  refine lv_aload_n hx hb dX12_add_43 rfl (lv_at hl 1 rfl) ?_
  refine va_get (D := D) (ci := 16) (v := .int 5) (C := RX12) (T := TX12) (N := 64) hx hb hts (by decide +kernel) hown hK hP 0 rfl rfl 1 (by decide) (hts (.fieldLink RX12 84 "SignetRingModel" "taped" "I") (by decide +kernel)) (fun _ h9 => h9) rfl dX12_add_44 ?_
  refine lv_lload_n hx hb dX12_add_47 rfl (lv_at hl 2 rfl) ?_
  refine lv_bipush (v := 8) hx hb dX12_add_48 (by decide) ?_
  refine lv_iload hx hb dX12_add_50 (lv_at hl 0 rfl) ?_
  refine lv_imul hx hb dX12_add_52 ?_
  refine lv_topi (fun v27 ev27 => ?_)
  have ev27 : v27 = 40 := ev27.trans (by decide +kernel)
  subst ev27
  refine lv_lshr hx hb dX12_add_53 rfl ?_
  refine lv_topl (fun v28 _ => ?_)
  refine lv_ldc2 (v := 255) hx hb hown (hts (.constantLong RX12 87 255) (by decide +kernel)) dX12_add_54 ?_
  refine lv_land hx hb dX12_add_57 ?_
  refine lv_topl (fun v29 _ => ?_)
  refine lv_l2i hx hb dX12_add_58 rfl ?_
  refine lv_topi (fun v30 _ => ?_)
  refine va_iast hx hb hK hP hD hS 1 1 rfl rfl (by unfold vp_in; decide) dX12_add_59 (fun H locs hP hD hS => ?_)
  have hP : va_P D vwCl [(h0, .inr (16, [.int 0, .int 5, .ref tp, w2, w3, w4, w5, w6, w7, w8, w9, w10, w11, w12, w13, w14, w15, w16, w17, w18, w19, w20, w21, w22, w23, w24, w25, w26, w27, w28, w29, w30, w31, w32, w33, w34, w35, w36, w37, w38, w39, w40, w41, w42, w43, w44, w45, w46, w47, w48, w49, w50, w51, w52, w53, w54, w55, w56, w57, w58, w59, w60, w61, w62])), (tp, .inl (y 1, 4096, .inl (upd (upd (upd (upd (upd (upd f (0 : Int32).toNatClampNeg v5) (1 : Int32).toNatClampNeg v10) (2 : Int32).toNatClampNeg v15) (3 : Int32).toNatClampNeg v20) (4 : Int32).toNatClampNeg v25) (5 : Int32).toNatClampNeg v30)))] H := hP
  have hD : va_D A [(h0, .inr (16, [.int 0, .int 5, .ref tp, w2, w3, w4, w5, w6, w7, w8, w9, w10, w11, w12, w13, w14, w15, w16, w17, w18, w19, w20, w21, w22, w23, w24, w25, w26, w27, w28, w29, w30, w31, w32, w33, w34, w35, w36, w37, w38, w39, w40, w41, w42, w43, w44, w45, w46, w47, w48, w49, w50, w51, w52, w53, w54, w55, w56, w57, w58, w59, w60, w61, w62])), (tp, .inl (y 1, 4096, .inl (upd (upd (upd (upd (upd (upd f (0 : Int32).toNatClampNeg v5) (1 : Int32).toNatClampNeg v10) (2 : Int32).toNatClampNeg v15) (3 : Int32).toNatClampNeg v20) (4 : Int32).toNatClampNeg v25) (5 : Int32).toNatClampNeg v30)))] := hD
  refine lv_aload_n hx hb dX12_add_60 rfl (lv_at hl 1 rfl) ?_
  refine lv_dup hx hb dX12_add_61 rfl ?_
  refine va_get (D := D) (ci := 16) (v := .int 5) (C := RX12) (T := TX12) (N := 64) hx hb hts (by decide +kernel) hown hK hP 0 rfl rfl 1 (by decide) (hts (.fieldLink RX12 84 "SignetRingModel" "taped" "I") (by decide +kernel)) (fun _ h9 => h9) rfl dX12_add_62 ?_
  refine lv_iconst (v := 1) hx hb dX12_add_65 (by decide) ?_
  refine lv_iadd hx hb dX12_add_66 ?_
  refine lv_topi (fun v31 ev31 => ?_)
  have ev31 : v31 = 6 := ev31.trans (by decide +kernel)
  subst ev31
  refine va_put (D := D) (ci := 16) (v := .int 6) (ty := .int) (C := RX12) (T := TX12) (N := 64) hx hb hts (by decide +kernel) tyX12 tyX12_ok nmX12 hown hK hP hD hS 0 rfl rfl 1 (by decide) (hts (.fieldLink RX12 84 "SignetRingModel" "taped" "I") (by decide +kernel)) (fun _ h9 => h9) rfl (by decide +kernel) rfl rfl (Nat.le_of_ble_eq_true rfl) dX12_add_67 (fun H locs hP hD hS => ?_)
  have hP : va_P D vwCl [(h0, .inr (16, [.int 0, .int 6, .ref tp, w2, w3, w4, w5, w6, w7, w8, w9, w10, w11, w12, w13, w14, w15, w16, w17, w18, w19, w20, w21, w22, w23, w24, w25, w26, w27, w28, w29, w30, w31, w32, w33, w34, w35, w36, w37, w38, w39, w40, w41, w42, w43, w44, w45, w46, w47, w48, w49, w50, w51, w52, w53, w54, w55, w56, w57, w58, w59, w60, w61, w62])), (tp, .inl (y 1, 4096, .inl (upd (upd (upd (upd (upd (upd f (0 : Int32).toNatClampNeg v5) (1 : Int32).toNatClampNeg v10) (2 : Int32).toNatClampNeg v15) (3 : Int32).toNatClampNeg v20) (4 : Int32).toNatClampNeg v25) (5 : Int32).toNatClampNeg v30)))] H := hP
  have hD : va_D A [(h0, .inr (16, [.int 0, .int 6, .ref tp, w2, w3, w4, w5, w6, w7, w8, w9, w10, w11, w12, w13, w14, w15, w16, w17, w18, w19, w20, w21, w22, w23, w24, w25, w26, w27, w28, w29, w30, w31, w32, w33, w34, w35, w36, w37, w38, w39, w40, w41, w42, w43, w44, w45, w46, w47, w48, w49, w50, w51, w52, w53, w54, w55, w56, w57, w58, w59, w60, w61, w62])), (tp, .inl (y 1, 4096, .inl (upd (upd (upd (upd (upd (upd f (0 : Int32).toNatClampNeg v5) (1 : Int32).toNatClampNeg v10) (2 : Int32).toNatClampNeg v15) (3 : Int32).toNatClampNeg v20) (4 : Int32).toNatClampNeg v25) (5 : Int32).toNatClampNeg v30)))] := hD
  refine lv_iinc (v := 6) (lv' := [(4, .int 6), (0, .ref h0), (1, .long wd), (3, .int 8)]) hx hb dX12_add_70 hl (k := 0) rfl (by decide) (by decide) rfl (fun ls hl => ?_)
  refine lv_goto (tgt := 33) hx hb dX12_add_73 (by decide) ?_
  refine lv_iload hx hb dX12_add_33 (lv_at hl 0 rfl) ?_
  refine lv_iload_n hx hb dX12_add_35 rfl (lv_at hl 3 rfl) ?_
  refine lv_icmp_ge (tgt := 76) hx hb dX12_add_36 (by decide) (fun c9 => absurd c9 (by decide)) (fun _ => ?_)
  refine lv_aload_n hx hb dX12_add_39 rfl (lv_at hl 1 rfl) ?_
  refine va_get (D := D) (ci := 16) (v := .ref tp) (C := RX12) (T := TX12) (N := 64) hx hb hts (by decide +kernel) hown hK hP 0 rfl rfl 2 (by decide) (hts (.fieldLink RX12 7 "SignetRingModel" "tape" "[I") (by decide +kernel)) (fun _ h9 => h9) rfl dX12_add_40 ?_
  refine lv_aload_n hx hb dX12_add_43 rfl (lv_at hl 1 rfl) ?_
  refine va_get (D := D) (ci := 16) (v := .int 6) (C := RX12) (T := TX12) (N := 64) hx hb hts (by decide +kernel) hown hK hP 0 rfl rfl 1 (by decide) (hts (.fieldLink RX12 84 "SignetRingModel" "taped" "I") (by decide +kernel)) (fun _ h9 => h9) rfl dX12_add_44 ?_
  refine lv_lload_n hx hb dX12_add_47 rfl (lv_at hl 2 rfl) ?_
  refine lv_bipush (v := 8) hx hb dX12_add_48 (by decide) ?_
  refine lv_iload hx hb dX12_add_50 (lv_at hl 0 rfl) ?_
  refine lv_imul hx hb dX12_add_52 ?_
  refine lv_topi (fun v32 ev32 => ?_)
  have ev32 : v32 = 48 := ev32.trans (by decide +kernel)
  subst ev32
  refine lv_lshr hx hb dX12_add_53 rfl ?_
  refine lv_topl (fun v33 _ => ?_)
  refine lv_ldc2 (v := 255) hx hb hown (hts (.constantLong RX12 87 255) (by decide +kernel)) dX12_add_54 ?_
  refine lv_land hx hb dX12_add_57 ?_
  refine lv_topl (fun v34 _ => ?_)
  refine lv_l2i hx hb dX12_add_58 rfl ?_
  refine lv_topi (fun v35 _ => ?_)
  refine va_iast hx hb hK hP hD hS 1 1 rfl rfl (by unfold vp_in; decide) dX12_add_59 (fun H locs hP hD hS => ?_)
  have hP : va_P D vwCl [(h0, .inr (16, [.int 0, .int 6, .ref tp, w2, w3, w4, w5, w6, w7, w8, w9, w10, w11, w12, w13, w14, w15, w16, w17, w18, w19, w20, w21, w22, w23, w24, w25, w26, w27, w28, w29, w30, w31, w32, w33, w34, w35, w36, w37, w38, w39, w40, w41, w42, w43, w44, w45, w46, w47, w48, w49, w50, w51, w52, w53, w54, w55, w56, w57, w58, w59, w60, w61, w62])), (tp, .inl (y 1, 4096, .inl (upd (upd (upd (upd (upd (upd (upd f (0 : Int32).toNatClampNeg v5) (1 : Int32).toNatClampNeg v10) (2 : Int32).toNatClampNeg v15) (3 : Int32).toNatClampNeg v20) (4 : Int32).toNatClampNeg v25) (5 : Int32).toNatClampNeg v30) (6 : Int32).toNatClampNeg v35)))] H := hP
  have hD : va_D A [(h0, .inr (16, [.int 0, .int 6, .ref tp, w2, w3, w4, w5, w6, w7, w8, w9, w10, w11, w12, w13, w14, w15, w16, w17, w18, w19, w20, w21, w22, w23, w24, w25, w26, w27, w28, w29, w30, w31, w32, w33, w34, w35, w36, w37, w38, w39, w40, w41, w42, w43, w44, w45, w46, w47, w48, w49, w50, w51, w52, w53, w54, w55, w56, w57, w58, w59, w60, w61, w62])), (tp, .inl (y 1, 4096, .inl (upd (upd (upd (upd (upd (upd (upd f (0 : Int32).toNatClampNeg v5) (1 : Int32).toNatClampNeg v10) (2 : Int32).toNatClampNeg v15) (3 : Int32).toNatClampNeg v20) (4 : Int32).toNatClampNeg v25) (5 : Int32).toNatClampNeg v30) (6 : Int32).toNatClampNeg v35)))] := hD
  refine lv_aload_n hx hb dX12_add_60 rfl (lv_at hl 1 rfl) ?_
  refine lv_dup hx hb dX12_add_61 rfl ?_
  refine va_get (D := D) (ci := 16) (v := .int 6) (C := RX12) (T := TX12) (N := 64) hx hb hts (by decide +kernel) hown hK hP 0 rfl rfl 1 (by decide) (hts (.fieldLink RX12 84 "SignetRingModel" "taped" "I") (by decide +kernel)) (fun _ h9 => h9) rfl dX12_add_62 ?_
  refine lv_iconst (v := 1) hx hb dX12_add_65 (by decide) ?_
  refine lv_iadd hx hb dX12_add_66 ?_
  refine lv_topi (fun v36 ev36 => ?_)
  have ev36 : v36 = 7 := ev36.trans (by decide +kernel)
  subst ev36
  refine va_put (D := D) (ci := 16) (v := .int 7) (ty := .int) (C := RX12) (T := TX12) (N := 64) hx hb hts (by decide +kernel) tyX12 tyX12_ok nmX12 hown hK hP hD hS 0 rfl rfl 1 (by decide) (hts (.fieldLink RX12 84 "SignetRingModel" "taped" "I") (by decide +kernel)) (fun _ h9 => h9) rfl (by decide +kernel) rfl rfl (Nat.le_of_ble_eq_true rfl) dX12_add_67 (fun H locs hP hD hS => ?_)
  have hP : va_P D vwCl [(h0, .inr (16, [.int 0, .int 7, .ref tp, w2, w3, w4, w5, w6, w7, w8, w9, w10, w11, w12, w13, w14, w15, w16, w17, w18, w19, w20, w21, w22, w23, w24, w25, w26, w27, w28, w29, w30, w31, w32, w33, w34, w35, w36, w37, w38, w39, w40, w41, w42, w43, w44, w45, w46, w47, w48, w49, w50, w51, w52, w53, w54, w55, w56, w57, w58, w59, w60, w61, w62])), (tp, .inl (y 1, 4096, .inl (upd (upd (upd (upd (upd (upd (upd f (0 : Int32).toNatClampNeg v5) (1 : Int32).toNatClampNeg v10) (2 : Int32).toNatClampNeg v15) (3 : Int32).toNatClampNeg v20) (4 : Int32).toNatClampNeg v25) (5 : Int32).toNatClampNeg v30) (6 : Int32).toNatClampNeg v35)))] H := hP
  have hD : va_D A [(h0, .inr (16, [.int 0, .int 7, .ref tp, w2, w3, w4, w5, w6, w7, w8, w9, w10, w11, w12, w13, w14, w15, w16, w17, w18, w19, w20, w21, w22, w23, w24, w25, w26, w27, w28, w29, w30, w31, w32, w33, w34, w35, w36, w37, w38, w39, w40, w41, w42, w43, w44, w45, w46, w47, w48, w49, w50, w51, w52, w53, w54, w55, w56, w57, w58, w59, w60, w61, w62])), (tp, .inl (y 1, 4096, .inl (upd (upd (upd (upd (upd (upd (upd f (0 : Int32).toNatClampNeg v5) (1 : Int32).toNatClampNeg v10) (2 : Int32).toNatClampNeg v15) (3 : Int32).toNatClampNeg v20) (4 : Int32).toNatClampNeg v25) (5 : Int32).toNatClampNeg v30) (6 : Int32).toNatClampNeg v35)))] := hD
  refine lv_iinc (v := 7) (lv' := [(4, .int 7), (0, .ref h0), (1, .long wd), (3, .int 8)]) hx hb dX12_add_70 hl (k := 0) rfl (by decide) (by decide) rfl (fun ls hl => ?_)
  refine lv_goto (tgt := 33) hx hb dX12_add_73 (by decide) ?_
  refine lv_iload hx hb dX12_add_33 (lv_at hl 0 rfl) ?_
  refine lv_iload_n hx hb dX12_add_35 rfl (lv_at hl 3 rfl) ?_
  refine lv_icmp_ge (tgt := 76) hx hb dX12_add_36 (by decide) (fun c9 => absurd c9 (by decide)) (fun _ => ?_)
  refine lv_aload_n hx hb dX12_add_39 rfl (lv_at hl 1 rfl) ?_
  refine va_get (D := D) (ci := 16) (v := .ref tp) (C := RX12) (T := TX12) (N := 64) hx hb hts (by decide +kernel) hown hK hP 0 rfl rfl 2 (by decide) (hts (.fieldLink RX12 7 "SignetRingModel" "tape" "[I") (by decide +kernel)) (fun _ h9 => h9) rfl dX12_add_40 ?_
  refine lv_aload_n hx hb dX12_add_43 rfl (lv_at hl 1 rfl) ?_
  refine va_get (D := D) (ci := 16) (v := .int 7) (C := RX12) (T := TX12) (N := 64) hx hb hts (by decide +kernel) hown hK hP 0 rfl rfl 1 (by decide) (hts (.fieldLink RX12 84 "SignetRingModel" "taped" "I") (by decide +kernel)) (fun _ h9 => h9) rfl dX12_add_44 ?_
  refine lv_lload_n hx hb dX12_add_47 rfl (lv_at hl 2 rfl) ?_
  refine lv_bipush (v := 8) hx hb dX12_add_48 (by decide) ?_
  refine lv_iload hx hb dX12_add_50 (lv_at hl 0 rfl) ?_
  refine lv_imul hx hb dX12_add_52 ?_
  refine lv_topi (fun v37 ev37 => ?_)
  have ev37 : v37 = 56 := ev37.trans (by decide +kernel)
  subst ev37
  refine lv_lshr hx hb dX12_add_53 rfl ?_
  refine lv_topl (fun v38 _ => ?_)
  refine lv_ldc2 (v := 255) hx hb hown (hts (.constantLong RX12 87 255) (by decide +kernel)) dX12_add_54 ?_
  refine lv_land hx hb dX12_add_57 ?_
  refine lv_topl (fun v39 _ => ?_)
  refine lv_l2i hx hb dX12_add_58 rfl ?_
  refine lv_topi (fun v40 _ => ?_)
  refine va_iast hx hb hK hP hD hS 1 1 rfl rfl (by unfold vp_in; decide) dX12_add_59 (fun H locs hP hD hS => ?_)
  have hP : va_P D vwCl [(h0, .inr (16, [.int 0, .int 7, .ref tp, w2, w3, w4, w5, w6, w7, w8, w9, w10, w11, w12, w13, w14, w15, w16, w17, w18, w19, w20, w21, w22, w23, w24, w25, w26, w27, w28, w29, w30, w31, w32, w33, w34, w35, w36, w37, w38, w39, w40, w41, w42, w43, w44, w45, w46, w47, w48, w49, w50, w51, w52, w53, w54, w55, w56, w57, w58, w59, w60, w61, w62])), (tp, .inl (y 1, 4096, .inl (upd (upd (upd (upd (upd (upd (upd (upd f (0 : Int32).toNatClampNeg v5) (1 : Int32).toNatClampNeg v10) (2 : Int32).toNatClampNeg v15) (3 : Int32).toNatClampNeg v20) (4 : Int32).toNatClampNeg v25) (5 : Int32).toNatClampNeg v30) (6 : Int32).toNatClampNeg v35) (7 : Int32).toNatClampNeg v40)))] H := hP
  have hD : va_D A [(h0, .inr (16, [.int 0, .int 7, .ref tp, w2, w3, w4, w5, w6, w7, w8, w9, w10, w11, w12, w13, w14, w15, w16, w17, w18, w19, w20, w21, w22, w23, w24, w25, w26, w27, w28, w29, w30, w31, w32, w33, w34, w35, w36, w37, w38, w39, w40, w41, w42, w43, w44, w45, w46, w47, w48, w49, w50, w51, w52, w53, w54, w55, w56, w57, w58, w59, w60, w61, w62])), (tp, .inl (y 1, 4096, .inl (upd (upd (upd (upd (upd (upd (upd (upd f (0 : Int32).toNatClampNeg v5) (1 : Int32).toNatClampNeg v10) (2 : Int32).toNatClampNeg v15) (3 : Int32).toNatClampNeg v20) (4 : Int32).toNatClampNeg v25) (5 : Int32).toNatClampNeg v30) (6 : Int32).toNatClampNeg v35) (7 : Int32).toNatClampNeg v40)))] := hD
  refine lv_aload_n hx hb dX12_add_60 rfl (lv_at hl 1 rfl) ?_
  refine lv_dup hx hb dX12_add_61 rfl ?_
  refine va_get (D := D) (ci := 16) (v := .int 7) (C := RX12) (T := TX12) (N := 64) hx hb hts (by decide +kernel) hown hK hP 0 rfl rfl 1 (by decide) (hts (.fieldLink RX12 84 "SignetRingModel" "taped" "I") (by decide +kernel)) (fun _ h9 => h9) rfl dX12_add_62 ?_
  refine lv_iconst (v := 1) hx hb dX12_add_65 (by decide) ?_
  refine lv_iadd hx hb dX12_add_66 ?_
  refine lv_topi (fun v41 ev41 => ?_)
  have ev41 : v41 = 8 := ev41.trans (by decide +kernel)
  subst ev41
  refine va_put (D := D) (ci := 16) (v := .int 8) (ty := .int) (C := RX12) (T := TX12) (N := 64) hx hb hts (by decide +kernel) tyX12 tyX12_ok nmX12 hown hK hP hD hS 0 rfl rfl 1 (by decide) (hts (.fieldLink RX12 84 "SignetRingModel" "taped" "I") (by decide +kernel)) (fun _ h9 => h9) rfl (by decide +kernel) rfl rfl (Nat.le_of_ble_eq_true rfl) dX12_add_67 (fun H locs hP hD hS => ?_)
  have hP : va_P D vwCl [(h0, .inr (16, [.int 0, .int 8, .ref tp, w2, w3, w4, w5, w6, w7, w8, w9, w10, w11, w12, w13, w14, w15, w16, w17, w18, w19, w20, w21, w22, w23, w24, w25, w26, w27, w28, w29, w30, w31, w32, w33, w34, w35, w36, w37, w38, w39, w40, w41, w42, w43, w44, w45, w46, w47, w48, w49, w50, w51, w52, w53, w54, w55, w56, w57, w58, w59, w60, w61, w62])), (tp, .inl (y 1, 4096, .inl (upd (upd (upd (upd (upd (upd (upd (upd f (0 : Int32).toNatClampNeg v5) (1 : Int32).toNatClampNeg v10) (2 : Int32).toNatClampNeg v15) (3 : Int32).toNatClampNeg v20) (4 : Int32).toNatClampNeg v25) (5 : Int32).toNatClampNeg v30) (6 : Int32).toNatClampNeg v35) (7 : Int32).toNatClampNeg v40)))] H := hP
  have hD : va_D A [(h0, .inr (16, [.int 0, .int 8, .ref tp, w2, w3, w4, w5, w6, w7, w8, w9, w10, w11, w12, w13, w14, w15, w16, w17, w18, w19, w20, w21, w22, w23, w24, w25, w26, w27, w28, w29, w30, w31, w32, w33, w34, w35, w36, w37, w38, w39, w40, w41, w42, w43, w44, w45, w46, w47, w48, w49, w50, w51, w52, w53, w54, w55, w56, w57, w58, w59, w60, w61, w62])), (tp, .inl (y 1, 4096, .inl (upd (upd (upd (upd (upd (upd (upd (upd f (0 : Int32).toNatClampNeg v5) (1 : Int32).toNatClampNeg v10) (2 : Int32).toNatClampNeg v15) (3 : Int32).toNatClampNeg v20) (4 : Int32).toNatClampNeg v25) (5 : Int32).toNatClampNeg v30) (6 : Int32).toNatClampNeg v35) (7 : Int32).toNatClampNeg v40)))] := hD
  refine lv_iinc (v := 8) (lv' := [(4, .int 8), (0, .ref h0), (1, .long wd), (3, .int 8)]) hx hb dX12_add_70 hl (k := 0) rfl (by decide) (by decide) rfl (fun ls hl => ?_)
  refine lv_goto (tgt := 33) hx hb dX12_add_73 (by decide) ?_
  refine lv_iload hx hb dX12_add_33 (lv_at hl 0 rfl) ?_
  refine lv_iload_n hx hb dX12_add_35 rfl (lv_at hl 3 rfl) ?_
  refine lv_icmp_ge (tgt := 76) hx hb dX12_add_36 (by decide) (fun _ => ?_) (fun c9 => absurd (by decide) c9)
  refine lv_iconst (v := 1) hx hb dX12_add_76 (by decide) ?_
  have hP9 := hP.sub (ws' := [(h0, .inr (16, [.int 0, .int 8, .ref tp, w2, w3, w4, w5, w6, w7, w8, w9, w10, w11, w12, w13, w14, w15, w16, w17, w18, w19, w20, w21, w22, w23, w24, w25, w26, w27, w28, w29, w30, w31, w32, w33, w34, w35, w36, w37, w38, w39, w40, w41, w42, w43, w44, w45, w46, w47, w48, w49, w50, w51, w52, w53, w54, w55, w56, w57, w58, w59, w60, w61, w62])), (tp, .inl (y 1, 4096, .inl (upd (upd (upd (upd (upd (upd (upd (upd f (0 : Int32).toNatClampNeg v5) (1 : Int32).toNatClampNeg v10) (2 : Int32).toNatClampNeg v15) (3 : Int32).toNatClampNeg v20) (4 : Int32).toNatClampNeg v25) (5 : Int32).toNatClampNeg v30) (6 : Int32).toNatClampNeg v35) (7 : Int32).toNatClampNeg v40)))]) [0, 1] rfl
  have hD9 := hD.sub (ws' := [(h0, .inr (16, [.int 0, .int 8, .ref tp, w2, w3, w4, w5, w6, w7, w8, w9, w10, w11, w12, w13, w14, w15, w16, w17, w18, w19, w20, w21, w22, w23, w24, w25, w26, w27, w28, w29, w30, w31, w32, w33, w34, w35, w36, w37, w38, w39, w40, w41, w42, w43, w44, w45, w46, w47, w48, w49, w50, w51, w52, w53, w54, w55, w56, w57, w58, w59, w60, w61, w62])), (tp, .inl (y 1, 4096, .inl (upd (upd (upd (upd (upd (upd (upd (upd f (0 : Int32).toNatClampNeg v5) (1 : Int32).toNatClampNeg v10) (2 : Int32).toNatClampNeg v15) (3 : Int32).toNatClampNeg v20) (4 : Int32).toNatClampNeg v25) (5 : Int32).toNatClampNeg v30) (6 : Int32).toNatClampNeg v35) (7 : Int32).toNatClampNeg v40)))]) [0, 1] (by decide) rfl
  refine W.widen (k := 0) (n := 0) (Nat.le_of_ble_eq_true rfl) (Nat.le_of_ble_eq_true rfl) ?_
  exact W.zret (v := 1) hx hb hr (by decide) (fun t ht hW => ⟨⟨1, (), rfl, rfl, (upd (upd (upd (upd (upd (upd (upd (upd f (0 : Int32).toNatClampNeg v5) (1 : Int32).toNatClampNeg v10) (2 : Int32).toNatClampNeg v15) (3 : Int32).toNatClampNeg v20) (4 : Int32).toNatClampNeg v25) (5 : Int32).toNatClampNeg v30) (6 : Int32).toNatClampNeg v35) (7 : Int32).toNatClampNeg v40), by rw [ht]; exact hP9, hD9⟩, hS.F ht⟩) hS.2.2 dX12_add_77
def wz_c_M_add_lo : List Cond := .code yX12_add cX12_add 5 (some .boolean) :: ([.fieldLink RX12 78 "SignetRingModel" "thrown" "I"] ++ (wsX120 ++ ([])))
set_option maxHeartbeats 4000000 in
set_option maxRecDepth 100000 in
theorem c_M_add_lo (l : Launch) (D : va_G) (y : Nat → ClassId) (sz : Nat) (h0 : Nat) (w1 : Value) (w2 : Value) (w3 : Value) (w4 : Value) (w5 : Value) (w6 : Value) (w7 : Value) (w8 : Value) (w9 : Value) (w10 : Value) (w11 : Value) (w12 : Value) (w13 : Value) (w14 : Value) (w15 : Value) (w16 : Value) (w17 : Value) (w18 : Value) (w19 : Value) (w20 : Value) (w21 : Value) (w22 : Value) (w23 : Value) (w24 : Value) (w25 : Value) (w26 : Value) (w27 : Value) (w28 : Value) (w29 : Value) (w30 : Value) (w31 : Value) (w32 : Value) (w33 : Value) (w34 : Value) (w35 : Value) (w36 : Value) (w37 : Value) (w38 : Value) (w39 : Value) (w40 : Value) (w41 : Value) (w42 : Value) (w43 : Value) (w44 : Value) (w45 : Value) (w46 : Value) (w47 : Value) (w48 : Value) (w49 : Value) (w50 : Value) (w51 : Value) (w52 : Value) (w53 : Value) (w54 : Value) (w55 : Value) (w56 : Value) (w57 : Value) (w58 : Value) (w59 : Value) (w60 : Value) (w61 : Value) (w62 : Value) (w63 : Value) (w64 : Value) (wd : Int64) (n : Int32) (h1 : n < 1) : Met l yX12_add wz_c_M_add_lo ({ frames := 0, cells := 0, slots := 0, locals := 0 }) (va_Pc [.ref h0, .long wd, .int n] (zB D y [(h0, .inr (16, [w1, w2, w3, w4, w5, w6, w7, w8, w9, w10, w11, w12, w13, w14, w15, w16, w17, w18, w19, w20, w21, w22, w23, w24, w25, w26, w27, w28, w29, w30, w31, w32, w33, w34, w35, w36, w37, w38, w39, w40, w41, w42, w43, w44, w45, w46, w47, w48, w49, w50, w51, w52, w53, w54, w55, w56, w57, w58, w59, w60, w61, w62, w63, w64]))] sz [] [] [] [])) (va_Qi (fun (r : Int32) (_ : Unit) => r = 0) (fun _ t => va_P D vwCl [(h0, .inr (16, [.int 0, w2, w3, w4, w5, w6, w7, w8, w9, w10, w11, w12, w13, w14, w15, w16, w17, w18, w19, w20, w21, w22, w23, w24, w25, w26, w27, w28, w29, w30, w31, w32, w33, w34, w35, w36, w37, w38, w39, w40, w41, w42, w43, w44, w45, w46, w47, w48, w49, w50, w51, w52, w53, w54, w55, w56, w57, w58, w59, w60, w61, w62, w63, w64]))] t.heap ∧ va_D (va_A [(h0, .inr (16, [w1, w2, w3, w4, w5, w6, w7, w8, w9, w10, w11, w12, w13, w14, w15, w16, w17, w18, w19, w20, w21, w22, w23, w24, w25, w26, w27, w28, w29, w30, w31, w32, w33, w34, w35, w36, w37, w38, w39, w40, w41, w42, w43, w44, w45, w46, w47, w48, w49, w50, w51, w52, w53, w54, w55, w56, w57, w58, w59, w60, w61, w62, w63, w64]))] sz) [(h0, .inr (16, [.int 0, w2, w3, w4, w5, w6, w7, w8, w9, w10, w11, w12, w13, w14, w15, w16, w17, w18, w19, w20, w21, w22, w23, w24, w25, w26, w27, w28, w29, w30, w31, w32, w33, w34, w35, w36, w37, w38, w39, w40, w41, w42, w43, w44, w45, w46, w47, w48, w49, w50, w51, w52, w53, w54, w55, w56, w57, w58, w59, w60, w61, w62, w63, w64]))]) (va_A [(h0, .inr (16, [w1, w2, w3, w4, w5, w6, w7, w8, w9, w10, w11, w12, w13, w14, w15, w16, w17, w18, w19, w20, w21, w22, w23, w24, w25, w26, w27, w28, w29, w30, w31, w32, w33, w34, w35, w36, w37, w38, w39, w40, w41, w42, w43, w44, w45, w46, w47, w48, w49, w50, w51, w52, w53, w54, w55, w56, w57, w58, w59, w60, w61, w62, w63, w64]))] sz)) 0 0 (va_A [(h0, .inr (16, [w1, w2, w3, w4, w5, w6, w7, w8, w9, w10, w11, w12, w13, w14, w15, w16, w17, w18, w19, w20, w21, w22, w23, w24, w25, w26, w27, w28, w29, w30, w31, w32, w33, w34, w35, w36, w37, w38, w39, w40, w41, w42, w43, w44, w45, w46, w47, w48, w49, w50, w51, w52, w53, w54, w55, w56, w57, w58, w59, w60, w61, w62, w63, w64]))] sz) := by
  refine Met.ofW (cc := cX12_add) (maxL := 5) (ret := (some .boolean)) (by decide) rfl ?_
  intro p e s m args below meth c s₁ B hml hv
  obtain ⟨rfl, hsz, hP, hK, hD0, hN, hE, hO, hT, hG⟩ := hv
  have hx := B.exec
  have hb := B.bytes
  have hr := B.returns
  have hts := atoms_spec (ws := wz_c_M_add_lo) B.pre
  have hown : s.vm.findClass RX12 = some m.cls := findClass_of_methodNamed B.named
  have hlocks := B.notSynchronized
  subst hsz
  have hD := hD0.self (sz := s.heap.size)
  generalize hAe : va_A [(h0, .inr (16, [w1, w2, w3, w4, w5, w6, w7, w8, w9, w10, w11, w12, w13, w14, w15, w16, w17, w18, w19, w20, w21, w22, w23, w24, w25, w26, w27, w28, w29, w30, w31, w32, w33, w34, w35, w36, w37, w38, w39, w40, w41, w42, w43, w44, w45, w46, w47, w48, w49, w50, w51, w52, w53, w54, w55, w56, w57, w58, w59, w60, w61, w62, w63, w64]))] s.heap.size = A at hD hE hT hG ⊢
  have hA : ∀ q : Nat, s.heap.size ≤ q → A q := fun q h => by rw [← hAe]; exact Or.inr h
  have hS : va_S A s.heap s.heap [] := va_S.rf
  have hl := lv_entry ([.ref h0, .long wd, .int n]) (n := 5) (Nat.le_of_ble_eq_true rfl)
  rw [lg_entry_eq]
  generalize (lg_sl ([.ref h0, .long wd, .int n]) ++ List.replicate (5 - (lg_sl ([.ref h0, .long wd, .int n])).length) Slot.unset).toArray = ls at hl ⊢
  have hl : lv_has ls 5 [(0, .ref h0), (1, .long wd), (3, .int n)] := hl
  refine lv_aload_n hx hb dX12_add_0 rfl (lv_at hl 0 rfl) ?_
  refine lv_iconst (v := 0) hx hb dX12_add_1 (by decide) ?_
  refine va_put (D := D) (ci := 16) (v := .int 0) (ty := .int) (C := RX12) (T := TX12) (N := 64) hx hb hts (by decide +kernel) tyX12 tyX12_ok nmX12 hown hK hP hD hS 0 rfl rfl 0 (by decide) (hts (.fieldLink RX12 78 "SignetRingModel" "thrown" "I") (by decide +kernel)) (fun _ h9 => h9) rfl (by decide +kernel) rfl rfl (Nat.le_of_ble_eq_true rfl) dX12_add_2 (fun H locs hP hD hS => ?_)
  have hP : va_P D vwCl [(h0, .inr (16, [.int 0, w2, w3, w4, w5, w6, w7, w8, w9, w10, w11, w12, w13, w14, w15, w16, w17, w18, w19, w20, w21, w22, w23, w24, w25, w26, w27, w28, w29, w30, w31, w32, w33, w34, w35, w36, w37, w38, w39, w40, w41, w42, w43, w44, w45, w46, w47, w48, w49, w50, w51, w52, w53, w54, w55, w56, w57, w58, w59, w60, w61, w62, w63, w64]))] H := hP
  have hD : va_D A [(h0, .inr (16, [.int 0, w2, w3, w4, w5, w6, w7, w8, w9, w10, w11, w12, w13, w14, w15, w16, w17, w18, w19, w20, w21, w22, w23, w24, w25, w26, w27, w28, w29, w30, w31, w32, w33, w34, w35, w36, w37, w38, w39, w40, w41, w42, w43, w44, w45, w46, w47, w48, w49, w50, w51, w52, w53, w54, w55, w56, w57, w58, w59, w60, w61, w62, w63, w64]))] := hD
  refine lv_iload_n hx hb dX12_add_5 rfl (lv_at hl 2 rfl) ?_
  refine lv_iconst (v := 1) hx hb dX12_add_6 (by decide) ?_
  refine lv_icmp_lt (tgt := 28) hx hb dX12_add_7 (by decide) (fun _ => ?_) (fun c9 => absurd h1 c9)
  refine lv_iconst (v := 0) hx hb dX12_add_28 (by decide) ?_
  have hP9 := hP.sub (ws' := [(h0, .inr (16, [.int 0, w2, w3, w4, w5, w6, w7, w8, w9, w10, w11, w12, w13, w14, w15, w16, w17, w18, w19, w20, w21, w22, w23, w24, w25, w26, w27, w28, w29, w30, w31, w32, w33, w34, w35, w36, w37, w38, w39, w40, w41, w42, w43, w44, w45, w46, w47, w48, w49, w50, w51, w52, w53, w54, w55, w56, w57, w58, w59, w60, w61, w62, w63, w64]))]) [0] rfl
  have hD9 := hD.sub (ws' := [(h0, .inr (16, [.int 0, w2, w3, w4, w5, w6, w7, w8, w9, w10, w11, w12, w13, w14, w15, w16, w17, w18, w19, w20, w21, w22, w23, w24, w25, w26, w27, w28, w29, w30, w31, w32, w33, w34, w35, w36, w37, w38, w39, w40, w41, w42, w43, w44, w45, w46, w47, w48, w49, w50, w51, w52, w53, w54, w55, w56, w57, w58, w59, w60, w61, w62, w63, w64]))]) [0] (by decide) rfl
  refine W.widen (k := 0) (n := 0) (Nat.le_of_ble_eq_true rfl) (Nat.le_of_ble_eq_true rfl) ?_
  exact W.zret (v := 0) hx hb hr (by decide) (fun t ht hW => ⟨⟨0, (), rfl, rfl, by rw [ht]; exact hP9, hD9⟩, hS.F ht⟩) hS.2.2 dX12_add_29
def wz_c_M_add_hi : List Cond := .code yX12_add cX12_add 5 (some .boolean) :: ([.fieldLink RX12 78 "SignetRingModel" "thrown" "I"] ++ (wsX120 ++ ([])))
set_option maxHeartbeats 4000000 in
set_option maxRecDepth 100000 in
theorem c_M_add_hi (l : Launch) (D : va_G) (y : Nat → ClassId) (sz : Nat) (h0 : Nat) (w1 : Value) (w2 : Value) (w3 : Value) (w4 : Value) (w5 : Value) (w6 : Value) (w7 : Value) (w8 : Value) (w9 : Value) (w10 : Value) (w11 : Value) (w12 : Value) (w13 : Value) (w14 : Value) (w15 : Value) (w16 : Value) (w17 : Value) (w18 : Value) (w19 : Value) (w20 : Value) (w21 : Value) (w22 : Value) (w23 : Value) (w24 : Value) (w25 : Value) (w26 : Value) (w27 : Value) (w28 : Value) (w29 : Value) (w30 : Value) (w31 : Value) (w32 : Value) (w33 : Value) (w34 : Value) (w35 : Value) (w36 : Value) (w37 : Value) (w38 : Value) (w39 : Value) (w40 : Value) (w41 : Value) (w42 : Value) (w43 : Value) (w44 : Value) (w45 : Value) (w46 : Value) (w47 : Value) (w48 : Value) (w49 : Value) (w50 : Value) (w51 : Value) (w52 : Value) (w53 : Value) (w54 : Value) (w55 : Value) (w56 : Value) (w57 : Value) (w58 : Value) (w59 : Value) (w60 : Value) (w61 : Value) (w62 : Value) (w63 : Value) (w64 : Value) (wd : Int64) (n : Int32) (h1 : ¬ n < 1) (h2 : 8 < n) : Met l yX12_add wz_c_M_add_hi ({ frames := 0, cells := 0, slots := 0, locals := 0 }) (va_Pc [.ref h0, .long wd, .int n] (zB D y [(h0, .inr (16, [w1, w2, w3, w4, w5, w6, w7, w8, w9, w10, w11, w12, w13, w14, w15, w16, w17, w18, w19, w20, w21, w22, w23, w24, w25, w26, w27, w28, w29, w30, w31, w32, w33, w34, w35, w36, w37, w38, w39, w40, w41, w42, w43, w44, w45, w46, w47, w48, w49, w50, w51, w52, w53, w54, w55, w56, w57, w58, w59, w60, w61, w62, w63, w64]))] sz [] [] [] [])) (va_Qi (fun (r : Int32) (_ : Unit) => r = 0) (fun _ t => va_P D vwCl [(h0, .inr (16, [.int 0, w2, w3, w4, w5, w6, w7, w8, w9, w10, w11, w12, w13, w14, w15, w16, w17, w18, w19, w20, w21, w22, w23, w24, w25, w26, w27, w28, w29, w30, w31, w32, w33, w34, w35, w36, w37, w38, w39, w40, w41, w42, w43, w44, w45, w46, w47, w48, w49, w50, w51, w52, w53, w54, w55, w56, w57, w58, w59, w60, w61, w62, w63, w64]))] t.heap ∧ va_D (va_A [(h0, .inr (16, [w1, w2, w3, w4, w5, w6, w7, w8, w9, w10, w11, w12, w13, w14, w15, w16, w17, w18, w19, w20, w21, w22, w23, w24, w25, w26, w27, w28, w29, w30, w31, w32, w33, w34, w35, w36, w37, w38, w39, w40, w41, w42, w43, w44, w45, w46, w47, w48, w49, w50, w51, w52, w53, w54, w55, w56, w57, w58, w59, w60, w61, w62, w63, w64]))] sz) [(h0, .inr (16, [.int 0, w2, w3, w4, w5, w6, w7, w8, w9, w10, w11, w12, w13, w14, w15, w16, w17, w18, w19, w20, w21, w22, w23, w24, w25, w26, w27, w28, w29, w30, w31, w32, w33, w34, w35, w36, w37, w38, w39, w40, w41, w42, w43, w44, w45, w46, w47, w48, w49, w50, w51, w52, w53, w54, w55, w56, w57, w58, w59, w60, w61, w62, w63, w64]))]) (va_A [(h0, .inr (16, [w1, w2, w3, w4, w5, w6, w7, w8, w9, w10, w11, w12, w13, w14, w15, w16, w17, w18, w19, w20, w21, w22, w23, w24, w25, w26, w27, w28, w29, w30, w31, w32, w33, w34, w35, w36, w37, w38, w39, w40, w41, w42, w43, w44, w45, w46, w47, w48, w49, w50, w51, w52, w53, w54, w55, w56, w57, w58, w59, w60, w61, w62, w63, w64]))] sz)) 0 0 (va_A [(h0, .inr (16, [w1, w2, w3, w4, w5, w6, w7, w8, w9, w10, w11, w12, w13, w14, w15, w16, w17, w18, w19, w20, w21, w22, w23, w24, w25, w26, w27, w28, w29, w30, w31, w32, w33, w34, w35, w36, w37, w38, w39, w40, w41, w42, w43, w44, w45, w46, w47, w48, w49, w50, w51, w52, w53, w54, w55, w56, w57, w58, w59, w60, w61, w62, w63, w64]))] sz) := by
  refine Met.ofW (cc := cX12_add) (maxL := 5) (ret := (some .boolean)) (by decide) rfl ?_
  intro p e s m args below meth c s₁ B hml hv
  obtain ⟨rfl, hsz, hP, hK, hD0, hN, hE, hO, hT, hG⟩ := hv
  have hx := B.exec
  have hb := B.bytes
  have hr := B.returns
  have hts := atoms_spec (ws := wz_c_M_add_hi) B.pre
  have hown : s.vm.findClass RX12 = some m.cls := findClass_of_methodNamed B.named
  have hlocks := B.notSynchronized
  subst hsz
  have hD := hD0.self (sz := s.heap.size)
  generalize hAe : va_A [(h0, .inr (16, [w1, w2, w3, w4, w5, w6, w7, w8, w9, w10, w11, w12, w13, w14, w15, w16, w17, w18, w19, w20, w21, w22, w23, w24, w25, w26, w27, w28, w29, w30, w31, w32, w33, w34, w35, w36, w37, w38, w39, w40, w41, w42, w43, w44, w45, w46, w47, w48, w49, w50, w51, w52, w53, w54, w55, w56, w57, w58, w59, w60, w61, w62, w63, w64]))] s.heap.size = A at hD hE hT hG ⊢
  have hA : ∀ q : Nat, s.heap.size ≤ q → A q := fun q h => by rw [← hAe]; exact Or.inr h
  have hS : va_S A s.heap s.heap [] := va_S.rf
  have hl := lv_entry ([.ref h0, .long wd, .int n]) (n := 5) (Nat.le_of_ble_eq_true rfl)
  rw [lg_entry_eq]
  generalize (lg_sl ([.ref h0, .long wd, .int n]) ++ List.replicate (5 - (lg_sl ([.ref h0, .long wd, .int n])).length) Slot.unset).toArray = ls at hl ⊢
  have hl : lv_has ls 5 [(0, .ref h0), (1, .long wd), (3, .int n)] := hl
  refine lv_aload_n hx hb dX12_add_0 rfl (lv_at hl 0 rfl) ?_
  refine lv_iconst (v := 0) hx hb dX12_add_1 (by decide) ?_
  refine va_put (D := D) (ci := 16) (v := .int 0) (ty := .int) (C := RX12) (T := TX12) (N := 64) hx hb hts (by decide +kernel) tyX12 tyX12_ok nmX12 hown hK hP hD hS 0 rfl rfl 0 (by decide) (hts (.fieldLink RX12 78 "SignetRingModel" "thrown" "I") (by decide +kernel)) (fun _ h9 => h9) rfl (by decide +kernel) rfl rfl (Nat.le_of_ble_eq_true rfl) dX12_add_2 (fun H locs hP hD hS => ?_)
  have hP : va_P D vwCl [(h0, .inr (16, [.int 0, w2, w3, w4, w5, w6, w7, w8, w9, w10, w11, w12, w13, w14, w15, w16, w17, w18, w19, w20, w21, w22, w23, w24, w25, w26, w27, w28, w29, w30, w31, w32, w33, w34, w35, w36, w37, w38, w39, w40, w41, w42, w43, w44, w45, w46, w47, w48, w49, w50, w51, w52, w53, w54, w55, w56, w57, w58, w59, w60, w61, w62, w63, w64]))] H := hP
  have hD : va_D A [(h0, .inr (16, [.int 0, w2, w3, w4, w5, w6, w7, w8, w9, w10, w11, w12, w13, w14, w15, w16, w17, w18, w19, w20, w21, w22, w23, w24, w25, w26, w27, w28, w29, w30, w31, w32, w33, w34, w35, w36, w37, w38, w39, w40, w41, w42, w43, w44, w45, w46, w47, w48, w49, w50, w51, w52, w53, w54, w55, w56, w57, w58, w59, w60, w61, w62, w63, w64]))] := hD
  refine lv_iload_n hx hb dX12_add_5 rfl (lv_at hl 2 rfl) ?_
  refine lv_iconst (v := 1) hx hb dX12_add_6 (by decide) ?_
  refine lv_icmp_lt (tgt := 28) hx hb dX12_add_7 (by decide) (fun c9 => absurd c9 h1) (fun _ => ?_)
  refine lv_iload_n hx hb dX12_add_10 rfl (lv_at hl 2 rfl) ?_
  refine lv_bipush (v := 8) hx hb dX12_add_11 (by decide) ?_
  refine lv_icmp_gt (tgt := 28) hx hb dX12_add_13 (by decide) (fun _ => ?_) (fun c9 => absurd h2 c9)
  refine lv_iconst (v := 0) hx hb dX12_add_28 (by decide) ?_
  have hP9 := hP.sub (ws' := [(h0, .inr (16, [.int 0, w2, w3, w4, w5, w6, w7, w8, w9, w10, w11, w12, w13, w14, w15, w16, w17, w18, w19, w20, w21, w22, w23, w24, w25, w26, w27, w28, w29, w30, w31, w32, w33, w34, w35, w36, w37, w38, w39, w40, w41, w42, w43, w44, w45, w46, w47, w48, w49, w50, w51, w52, w53, w54, w55, w56, w57, w58, w59, w60, w61, w62, w63, w64]))]) [0] rfl
  have hD9 := hD.sub (ws' := [(h0, .inr (16, [.int 0, w2, w3, w4, w5, w6, w7, w8, w9, w10, w11, w12, w13, w14, w15, w16, w17, w18, w19, w20, w21, w22, w23, w24, w25, w26, w27, w28, w29, w30, w31, w32, w33, w34, w35, w36, w37, w38, w39, w40, w41, w42, w43, w44, w45, w46, w47, w48, w49, w50, w51, w52, w53, w54, w55, w56, w57, w58, w59, w60, w61, w62, w63, w64]))]) [0] (by decide) rfl
  refine W.widen (k := 0) (n := 0) (Nat.le_of_ble_eq_true rfl) (Nat.le_of_ble_eq_true rfl) ?_
  exact W.zret (v := 0) hx hb hr (by decide) (fun t ht hW => ⟨⟨0, (), rfl, rfl, by rw [ht]; exact hP9, hD9⟩, hS.F ht⟩) hS.2.2 dX12_add_29

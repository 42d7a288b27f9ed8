def wz_c_num4_0 : List Cond := .code yX10_number cX10_number 8 (some .long) :: ([.fieldLink RX10 13 "SignetRing$Span" "from" "I", .fieldLink RX10 17 "SignetRing$Span" "size" "I"] ++ (wsX00 ++ ([])))
set_option maxHeartbeats 4000000 in
set_option maxRecDepth 100000 in
theorem c_num4_0 (l : Launch) (D : va_G) (y : Nat → ClassId) (sz : Nat) (h0 : Nat) (w1 : Value) : Met l yX10_number wz_c_num4_0 ({ frames := 0, cells := 0, slots := 0, locals := 0 }) (va_Pc [.ref h0, .int 0, .int 4] (zB D y [(h0, .inr (4, [w1, .int 0, .int 0]))] sz [] [] [] [])) (va_Ql (fun (r : Int64) (_ : Unit) => r = 0) (fun _ t => va_P D vwCl [(h0, .inr (4, [w1, .int 0, .int 0]))] t.heap ∧ va_D (va_A [(h0, .inr (4, [w1, .int 0, .int 0]))] sz) [(h0, .inr (4, [w1, .int 0, .int 0]))]) (va_A [(h0, .inr (4, [w1, .int 0, .int 0]))] sz)) 0 0 (va_A [(h0, .inr (4, [w1, .int 0, .int 0]))] sz) := by
  refine Met.ofW (cc := cX10_number) (maxL := 8) (ret := (some .long)) (by decide) rfl ?_
  intro p e s m args below meth c s₁ B hml hv
  obtain ⟨rfl, hsz, hP, hK, hD0, hN, hE, hO, hT, hG⟩ := hv
  have hx := B.exec
  have hb := B.bytes
  have hr := B.returns
  have hts := atoms_spec (ws := wz_c_num4_0) B.pre
  have hown : s.vm.findClass RX10 = some m.cls := findClass_of_methodNamed B.named
  have hlocks := B.notSynchronized
  subst hsz
  have hD := hD0.self (sz := s.heap.size)
  generalize hAe : va_A [(h0, .inr (4, [w1, .int 0, .int 0]))] s.heap.size = A at hD hE hT hG ⊢
  have hA : ∀ q : Nat, s.heap.size ≤ q → A q := fun q h => by rw [← hAe]; exact Or.inr h
  have hS : va_S A s.heap s.heap [] := va_S.rf
  have hl := lv_entry ([.ref h0, .int 0, .int 4]) (n := 8) (Nat.le_of_ble_eq_true rfl)
  rw [lg_entry_eq]
  generalize (lg_sl ([.ref h0, .int 0, .int 4]) ++ List.replicate (8 - (lg_sl ([.ref h0, .int 0, .int 4])).length) Slot.unset).toArray = ls at hl ⊢
  have hl : lv_has ls 8 [(0, .ref h0), (1, .int 0), (2, .int 4)] := hl
  refine lv_lconst (v := 0) hx hb dX10_number_0 (by decide) ?_
  refine lv_lstore_n (lv' := [(3, .long 0), (0, .ref h0), (1, .int 0), (2, .int 4)]) hx hb dX10_number_1 rfl hl (by decide) rfl (fun ls hl => ?_)
  refine lv_iconst (v := 0) hx hb dX10_number_2 (by decide) ?_
  refine lv_istore (lv' := [(5, .int 0), (3, .long 0), (0, .ref h0), (1, .int 0), (2, .int 4)]) hx hb dX10_number_3 hl (by decide) rfl (fun ls hl => ?_)
  refine lv_iload hx hb dX10_number_5 (lv_at hl 0 rfl) ?_
  refine lv_iload_n hx hb dX10_number_7 rfl (lv_at hl 4 rfl) ?_
  refine lv_icmp_ge (tgt := 92) hx hb dX10_number_8 (by decide) (fun c9 => absurd c9 (by decide)) (fun _ => ?_)
  refine lv_aload_n hx hb dX10_number_11 rfl (lv_at hl 2 rfl) ?_
  refine va_get (D := D) (ci := 4) (v := .int 0) (C := RX0) (T := TX0) (N := 3) hx hb hts (by decide +kernel) hown hK hP 0 rfl rfl 1 (by decide) (hts (.fieldLink RX10 13 "SignetRing$Span" "from" "I") (by decide +kernel)) (fun _ h9 => h9) rfl dX10_number_12 ?_
  refine lv_iload_n hx hb dX10_number_15 rfl (lv_at hl 3 rfl) ?_
  refine lv_iadd hx hb dX10_number_16 ?_
  refine lv_topi (fun v1 ev1 => ?_)
  have ev1 : v1 = 0 := ev1.trans (by decide +kernel)
  subst ev1
  refine lv_iload hx hb dX10_number_17 (lv_at hl 0 rfl) ?_
  refine lv_iadd hx hb dX10_number_19 ?_
  refine lv_topi (fun v2 ev2 => ?_)
  have ev2 : v2 = 0 := ev2.trans (by decide +kernel)
  subst ev2
  refine lv_istore (lv' := [(6, .int 0), (5, .int 0), (3, .long 0), (0, .ref h0), (1, .int 0), (2, .int 4)]) hx hb dX10_number_20 hl (by decide) rfl (fun ls hl => ?_)
  refine lv_iload_n hx hb dX10_number_22 rfl (lv_at hl 4 rfl) ?_
  refine lv_if_lt (tgt := 56) hx hb dX10_number_23 (by decide) (fun c9 => absurd c9 (by decide)) (fun _ => ?_)
  refine lv_iload_n hx hb dX10_number_26 rfl (lv_at hl 4 rfl) ?_
  refine lv_iload hx hb dX10_number_27 (lv_at hl 1 rfl) ?_
  refine lv_iadd hx hb dX10_number_29 ?_
  refine lv_topi (fun v3 ev3 => ?_)
  have ev3 : v3 = 0 := ev3.trans (by decide +kernel)
  subst ev3
  refine lv_aload_n hx hb dX10_number_30 rfl (lv_at hl 3 rfl) ?_
  refine va_get (D := D) (ci := 4) (v := .int 0) (C := RX0) (T := TX0) (N := 3) hx hb hts (by decide +kernel) hown hK hP 0 rfl rfl 2 (by decide) (hts (.fieldLink RX10 17 "SignetRing$Span" "size" "I") (by decide +kernel)) (fun _ h9 => h9) rfl dX10_number_31 ?_
  refine lv_icmp_ge (tgt := 56) hx hb dX10_number_34 (by decide) (fun _ => ?_) (fun c9 => absurd (by decide) c9)
  refine lv_iconst (v := 0) hx hb dX10_number_56 (by decide) ?_
  refine lv_istore (lv' := [(7, .int 0), (6, .int 0), (5, .int 0), (3, .long 0), (0, .ref h0), (1, .int 0), (2, .int 4)]) hx hb dX10_number_57 hl (by decide) rfl (fun ls hl => ?_)
  refine lv_lload_n hx hb dX10_number_59 rfl (lv_at hl 3 rfl) ?_
  refine lv_bipush (v := 8) hx hb dX10_number_60 (by decide) ?_
  refine lv_lshl hx hb dX10_number_62 rfl ?_
  refine lv_topl (fun v4 ev4 => ?_)
  have ev4 : v4 = 0 := ev4.trans (by decide +kernel)
  subst ev4
  refine lv_iload hx hb dX10_number_63 (lv_at hl 0 rfl) ?_
  refine lv_if_eq (tgt := 82) hx hb dX10_number_65 (by decide) (fun _ => ?_) (fun c9 => absurd (by decide) c9)
  refine lv_iconst (v := 0) hx hb dX10_number_82 (by decide) ?_
  refine lv_i2l (v := 0) hx hb dX10_number_83 (by decide +kernel) ?_
  refine lv_lor hx hb dX10_number_84 ?_
  refine lv_topl (fun v5 ev5 => ?_)
  have ev5 : v5 = 0 := ev5.trans (by decide +kernel)
  subst ev5
  refine lv_lstore_n (lv' := [(3, .long 0), (7, .int 0), (6, .int 0), (5, .int 0), (0, .ref h0), (1, .int 0), (2, .int 4)]) hx hb dX10_number_85 rfl hl (by decide) rfl (fun ls hl => ?_)
  refine lv_iinc (v := 1) (lv' := [(5, .int 1), (3, .long 0), (7, .int 0), (6, .int 0), (0, .ref h0), (1, .int 0), (2, .int 4)]) hx hb dX10_number_86 hl (k := 3) rfl (by decide) (by decide) rfl (fun ls hl => ?_)
  refine lv_goto (tgt := 5) hx hb dX10_number_89 (by decide) ?_
  refine lv_iload hx hb dX10_number_5 (lv_at hl 0 rfl) ?_
  refine lv_iload_n hx hb dX10_number_7 rfl (lv_at hl 6 rfl) ?_
  refine lv_icmp_ge (tgt := 92) hx hb dX10_number_8 (by decide) (fun c9 => absurd c9 (by decide)) (fun _ => ?_)
  refine lv_aload_n hx hb dX10_number_11 rfl (lv_at hl 4 rfl) ?_
  refine va_get (D := D) (ci := 4) (v := .int 0) (C := RX0) (T := TX0) (N := 3) hx hb hts (by decide +kernel) hown hK hP 0 rfl rfl 1 (by decide) (hts (.fieldLink RX10 13 "SignetRing$Span" "from" "I") (by decide +kernel)) (fun _ h9 => h9) rfl dX10_number_12 ?_
  refine lv_iload_n hx hb dX10_number_15 rfl (lv_at hl 5 rfl) ?_
  refine lv_iadd hx hb dX10_number_16 ?_
  refine lv_topi (fun v6 ev6 => ?_)
  have ev6 : v6 = 0 := ev6.trans (by decide +kernel)
  subst ev6
  refine lv_iload hx hb dX10_number_17 (lv_at hl 0 rfl) ?_
  refine lv_iadd hx hb dX10_number_19 ?_
  refine lv_topi (fun v7 ev7 => ?_)
  have ev7 : v7 = 1 := ev7.trans (by decide +kernel)
  subst ev7
  refine lv_istore (lv' := [(6, .int 1), (5, .int 1), (3, .long 0), (7, .int 0), (0, .ref h0), (1, .int 0), (2, .int 4)]) hx hb dX10_number_20 hl (by decide) rfl (fun ls hl => ?_)
  refine lv_iload_n hx hb dX10_number_22 rfl (lv_at hl 5 rfl) ?_
  refine lv_if_lt (tgt := 56) hx hb dX10_number_23 (by decide) (fun c9 => absurd c9 (by decide)) (fun _ => ?_)
  refine lv_iload_n hx hb dX10_number_26 rfl (lv_at hl 5 rfl) ?_
  refine lv_iload hx hb dX10_number_27 (lv_at hl 1 rfl) ?_
  refine lv_iadd hx hb dX10_number_29 ?_
  refine lv_topi (fun v8 ev8 => ?_)
  have ev8 : v8 = 1 := ev8.trans (by decide +kernel)
  subst ev8
  refine lv_aload_n hx hb dX10_number_30 rfl (lv_at hl 4 rfl) ?_
  refine va_get (D := D) (ci := 4) (v := .int 0) (C := RX0) (T := TX0) (N := 3) hx hb hts (by decide +kernel) hown hK hP 0 rfl rfl 2 (by decide) (hts (.fieldLink RX10 17 "SignetRing$Span" "size" "I") (by decide +kernel)) (fun _ h9 => h9) rfl dX10_number_31 ?_
  refine lv_icmp_ge (tgt := 56) hx hb dX10_number_34 (by decide) (fun _ => ?_) (fun c9 => absurd (by decide) c9)
  refine lv_iconst (v := 0) hx hb dX10_number_56 (by decide) ?_
  refine lv_istore (lv' := [(7, .int 0), (6, .int 1), (5, .int 1), (3, .long 0), (0, .ref h0), (1, .int 0), (2, .int 4)]) hx hb dX10_number_57 hl (by decide) rfl (fun ls hl => ?_)
  refine lv_lload_n hx hb dX10_number_59 rfl (lv_at hl 3 rfl) ?_
  refine lv_bipush (v := 8) hx hb dX10_number_60 (by decide) ?_
  refine lv_lshl hx hb dX10_number_62 rfl ?_
  refine lv_topl (fun v9 ev9 => ?_)
  have ev9 : v9 = 0 := ev9.trans (by decide +kernel)
  subst ev9
  refine lv_iload hx hb dX10_number_63 (lv_at hl 0 rfl) ?_
  refine lv_if_eq (tgt := 82) hx hb dX10_number_65 (by decide) (fun _ => ?_) (fun c9 => absurd (by decide) c9)
  refine lv_iconst (v := 0) hx hb dX10_number_82 (by decide) ?_
  refine lv_i2l (v := 0) hx hb dX10_number_83 (by decide +kernel) ?_
  refine lv_lor hx hb dX10_number_84 ?_
  refine lv_topl (fun v10 ev10 => ?_)
  have ev10 : v10 = 0 := ev10.trans (by decide +kernel)
  subst ev10
  refine lv_lstore_n (lv' := [(3, .long 0), (7, .int 0), (6, .int 1), (5, .int 1), (0, .ref h0), (1, .int 0), (2, .int 4)]) hx hb dX10_number_85 rfl hl (by decide) rfl (fun ls hl => ?_)
  refine lv_iinc (v := 2) (lv' := [(5, .int 2), (3, .long 0), (7, .int 0), (6, .int 1), (0, .ref h0), (1, .int 0), (2, .int 4)]) hx hb dX10_number_86 hl (k := 3) rfl (by decide) (by decide) rfl (fun ls hl => ?_)
  refine lv_goto (tgt := 5) hx hb dX10_number_89 (by decide) ?_
  refine lv_iload hx hb dX10_number_5 (lv_at hl 0 rfl) ?_
  refine lv_iload_n hx hb dX10_number_7 rfl (lv_at hl 6 rfl) ?_
  refine lv_icmp_ge (tgt := 92) hx hb dX10_number_8 (by decide) (fun c9 => absurd c9 (by decide)) (fun _ => ?_)
  refine lv_aload_n hx hb dX10_number_11 rfl (lv_at hl 4 rfl) ?_
  refine va_get (D := D) (ci := 4) (v := .int 0) (C := RX0) (T := TX0) (N := 3) hx hb hts (by decide +kernel) hown hK hP 0 rfl rfl 1 (by decide) (hts (.fieldLink RX10 13 "SignetRing$Span" "from" "I") (by decide +kernel)) (fun _ h9 => h9) rfl dX10_number_12 ?_
  refine lv_iload_n hx hb dX10_number_15 rfl (lv_at hl 5 rfl) ?_
  refine lv_iadd hx hb dX10_number_16 ?_
  refine lv_topi (fun v11 ev11 => ?_)
  have ev11 : v11 = 0 := ev11.trans (by decide +kernel)
  subst ev11
  refine lv_iload hx hb dX10_number_17 (lv_at hl 0 rfl) ?_
  refine lv_iadd hx hb dX10_number_19 ?_
  refine lv_topi (fun v12 ev12 => ?_)
  have ev12 : v12 = 2 := ev12.trans (by decide +kernel)
  subst ev12
  refine lv_istore (lv' := [(6, .int 2), (5, .int 2), (3, .long 0), (7, .int 0), (0, .ref h0), (1, .int 0), (2, .int 4)]) hx hb dX10_number_20 hl (by decide) rfl (fun ls hl => ?_)
  refine lv_iload_n hx hb dX10_number_22 rfl (lv_at hl 5 rfl) ?_
  refine lv_if_lt (tgt := 56) hx hb dX10_number_23 (by decide) (fun c9 => absurd c9 (by decide)) (fun _ => ?_)
  refine lv_iload_n hx hb dX10_number_26 rfl (lv_at hl 5 rfl) ?_
  refine lv_iload hx hb dX10_number_27 (lv_at hl 1 rfl) ?_
  refine lv_iadd hx hb dX10_number_29 ?_
  refine lv_topi (fun v13 ev13 => ?_)
  have ev13 : v13 = 2 := ev13.trans (by decide +kernel)
  subst ev13
  refine lv_aload_n hx hb dX10_number_30 rfl (lv_at hl 4 rfl) ?_
  refine va_get (D := D) (ci := 4) (v := .int 0) (C := RX0) (T := TX0) (N := 3) hx hb hts (by decide +kernel) hown hK hP 0 rfl rfl 2 (by decide) (hts (.fieldLink RX10 17 "SignetRing$Span" "size" "I") (by decide +kernel)) (fun _ h9 => h9) rfl dX10_number_31 ?_
  refine lv_icmp_ge (tgt := 56) hx hb dX10_number_34 (by decide) (fun _ => ?_) (fun c9 => absurd (by decide) c9)
  refine lv_iconst (v := 0) hx hb dX10_number_56 (by decide) ?_
  refine lv_istore (lv' := [(7, .int 0), (6, .int 2), (5, .int 2), (3, .long 0), (0, .ref h0), (1, .int 0), (2, .int 4)]) hx hb dX10_number_57 hl (by decide) rfl (fun ls hl => ?_)
  refine lv_lload_n hx hb dX10_number_59 rfl (lv_at hl 3 rfl) ?_
  refine lv_bipush (v := 8) hx hb dX10_number_60 (by decide) ?_
  refine lv_lshl hx hb dX10_number_62 rfl ?_
  refine lv_topl (fun v14 ev14 => ?_)
  have ev14 : v14 = 0 := ev14.trans (by decide +kernel)
  subst ev14
  refine lv_iload hx hb dX10_number_63 (lv_at hl 0 rfl) ?_
  refine lv_if_eq (tgt := 82) hx hb dX10_number_65 (by decide) (fun _ => ?_) (fun c9 => absurd (by decide) c9)
  refine lv_iconst (v := 0) hx hb dX10_number_82 (by decide) ?_
  refine lv_i2l (v := 0) hx hb dX10_number_83 (by decide +kernel) ?_
  refine lv_lor hx hb dX10_number_84 ?_
  refine lv_topl (fun v15 ev15 => ?_)
  have ev15 : v15 = 0 := ev15.trans (by decide +kernel)
  subst ev15
  refine lv_lstore_n (lv' := [(3, .long 0), (7, .int 0), (6, .int 2), (5, .int 2), (0, .ref h0), (1, .int 0), (2, .int 4)]) hx hb dX10_number_85 rfl hl (by decide) rfl (fun ls hl => ?_)
  refine lv_iinc (v := 3) (lv' := [(5, .int 3), (3, .long 0), (7, .int 0), (6, .int 2), (0, .ref h0), (1, .int 0), (2, .int 4)]) hx hb dX10_number_86 hl (k := 3) rfl (by decide) (by decide) rfl (fun ls hl => ?_)
  refine lv_goto (tgt := 5) hx hb dX10_number_89 (by decide) ?_
  refine lv_iload hx hb dX10_number_5 (lv_at hl 0 rfl) ?_
  refine lv_iload_n hx hb dX10_number_7 rfl (lv_at hl 6 rfl) ?_
  refine lv_icmp_ge (tgt := 92) hx hb dX10_number_8 (by decide) (fun c9 => absurd c9 (by decide)) (fun _ => ?_)
  refine lv_aload_n hx hb dX10_number_11 rfl (lv_at hl 4 rfl) ?_
  refine va_get (D := D) (ci := 4) (v := .int 0) (C := RX0) (T := TX0) (N := 3) hx hb hts (by decide +kernel) hown hK hP 0 rfl rfl 1 (by decide) (hts (.fieldLink RX10 13 "SignetRing$Span" "from" "I") (by decide +kernel)) (fun _ h9 => h9) rfl dX10_number_12 ?_
  refine lv_iload_n hx hb dX10_number_15 rfl (lv_at hl 5 rfl) ?_
  refine lv_iadd hx hb dX10_number_16 ?_
  refine lv_topi (fun v16 ev16 => ?_)
  have ev16 : v16 = 0 := ev16.trans (by decide +kernel)
  subst ev16
  refine lv_iload hx hb dX10_number_17 (lv_at hl 0 rfl) ?_
  refine lv_iadd hx hb dX10_number_19 ?_
  refine lv_topi (fun v17 ev17 => ?_)
  have ev17 : v17 = 3 := ev17.trans (by decide +kernel)
  subst ev17
  refine lv_istore (lv' := [(6, .int 3), (5, .int 3), (3, .long 0), (7, .int 0), (0, .ref h0), (1, .int 0), (2, .int 4)]) hx hb dX10_number_20 hl (by decide) rfl (fun ls hl => ?_)
  refine lv_iload_n hx hb dX10_number_22 rfl (lv_at hl 5 rfl) ?_
  refine lv_if_lt (tgt := 56) hx hb dX10_number_23 (by decide) (fun c9 => absurd c9 (by decide)) (fun _ => ?_)
  refine lv_iload_n hx hb dX10_number_26 rfl (lv_at hl 5 rfl) ?_
  refine lv_iload hx hb dX10_number_27 (lv_at hl 1 rfl) ?_
  refine lv_iadd hx hb dX10_number_29 ?_
  refine lv_topi (fun v18 ev18 => ?_)
  have ev18 : v18 = 3 := ev18.trans (by decide +kernel)
  subst ev18
  refine lv_aload_n hx hb dX10_number_30 rfl (lv_at hl 4 rfl) ?_
  refine va_get (D := D) (ci := 4) (v := .int 0) (C := RX0) (T := TX0) (N := 3) hx hb hts (by decide +kernel) hown hK hP 0 rfl rfl 2 (by decide) (hts (.fieldLink RX10 17 "SignetRing$Span" "size" "I") (by decide +kernel)) (fun _ h9 => h9) rfl dX10_number_31 ?_
  refine lv_icmp_ge (tgt := 56) hx hb dX10_number_34 (by decide) (fun _ => ?_) (fun c9 => absurd (by decide) c9)
  refine lv_iconst (v := 0) hx hb dX10_number_56 (by decide) ?_
  refine lv_istore (lv' := [(7, .int 0), (6, .int 3), (5, .int 3), (3, .long 0), (0, .ref h0), (1, .int 0), (2, .int 4)]) hx hb dX10_number_57 hl (by decide) rfl (fun ls hl => ?_)
  refine lv_lload_n hx hb dX10_number_59 rfl (lv_at hl 3 rfl) ?_
  refine lv_bipush (v := 8) hx hb dX10_number_60 (by decide) ?_
  refine lv_lshl hx hb dX10_number_62 rfl ?_
  refine lv_topl (fun v19 ev19 => ?_)
  have ev19 : v19 = 0 := ev19.trans (by decide +kernel)
  subst ev19
  refine lv_iload hx hb dX10_number_63 (lv_at hl 0 rfl) ?_
  refine lv_if_eq (tgt := 82) hx hb dX10_number_65 (by decide) (fun _ => ?_) (fun c9 => absurd (by decide) c9)
  refine lv_iconst (v := 0) hx hb dX10_number_82 (by decide) ?_
  refine lv_i2l (v := 0) hx hb dX10_number_83 (by decide +kernel) ?_
  refine lv_lor hx hb dX10_number_84 ?_
  refine lv_topl (fun v20 ev20 => ?_)
  have ev20 : v20 = 0 := ev20.trans (by decide +kernel)
  subst ev20
  refine lv_lstore_n (lv' := [(3, .long 0), (7, .int 0), (6, .int 3), (5, .int 3), (0, .ref h0), (1, .int 0), (2, .int 4)]) hx hb dX10_number_85 rfl hl (by decide) rfl (fun ls hl => ?_)
  refine lv_iinc (v := 4) (lv' := [(5, .int 4), (3, .long 0), (7, .int 0), (6, .int 3), (0, .ref h0), (1, .int 0), (2, .int 4)]) hx hb dX10_number_86 hl (k := 3) rfl (by decide) (by decide) rfl (fun ls hl => ?_)
  refine lv_goto (tgt := 5) hx hb dX10_number_89 (by decide) ?_
  refine lv_iload hx hb dX10_number_5 (lv_at hl 0 rfl) ?_
  refine lv_iload_n hx hb dX10_number_7 rfl (lv_at hl 6 rfl) ?_
  refine lv_icmp_ge (tgt := 92) hx hb dX10_number_8 (by decide) (fun _ => ?_) (fun c9 => absurd (by decide) c9)
  refine lv_lload_n hx hb dX10_number_92 rfl (lv_at hl 1 rfl) ?_
  have hP9 := hP.sub (ws' := [(h0, .inr (4, [w1, .int 0, .int 0]))]) [0] rfl
  have hD9 := hD.sub (ws' := [(h0, .inr (4, [w1, .int 0, .int 0]))]) [0] (by decide) rfl
  refine W.widen (k := 0) (n := 0) (Nat.le_of_ble_eq_true rfl) (Nat.le_of_ble_eq_true rfl) ?_
  exact W.lret (v := 0) hx hb hr (fun t ht hW => ⟨⟨0, (), rfl, rfl, by rw [ht]; exact hP9, hD9⟩, hS.F ht⟩) hS.2.2 dX10_number_93
def wz_c_X1_wordOf_0 : List Cond := .code yX1_wordOf cX1_wordOf 4 (some .int) :: ([.methodLink RX1 44 ⟨"SignetRing$Span", "number", "(II)J"⟩, .sameMethod "SignetRing$Span" "SignetRing$Span" "number" "(II)J", .selects RX0 ⟨"SignetRing$Span", "number", "(II)J"⟩ yX10_number, .instanceMethod yX10_number, .initialized RX10, .fieldLink RX1 28 "SignetRing$Span" "size" "I"] ++ (wsX00 ++ (wz_c_num4_0 ++ ([]))))
set_option maxRecDepth 100000 in
theorem gz_c_X1_wordOf_0_c_num4_0 : GoodIn wz_c_X1_wordOf_0 wz_c_num4_0 := goodIn_sub (fun w h => List.mem_cons_of_mem _ (List.mem_append_right _ (List.mem_append_right _ (List.mem_append_left _ h)))) (by decide +kernel)
set_option maxRecDepth 100000 in
theorem gv_c_X1_wordOf_0_c_num4_0_44 : GoodIn wz_c_X1_wordOf_0 (va_wsU RX1 44 RX0 "SignetRing$Span" ⟨"SignetRing$Span", "number", "(II)J"⟩ yX10_number wz_c_num4_0) := goodIn_app (goodIn_of _ (by decide +kernel)) gz_c_X1_wordOf_0_c_num4_0
set_option maxHeartbeats 4000000 in
set_option maxRecDepth 100000 in
theorem c_X1_wordOf_0 (l : Launch) (D : va_G) (y : Nat → ClassId) (sz : Nat) (h0 : Nat) (w1 : Value) : Met l yX1_wordOf wz_c_X1_wordOf_0 ({ frames := 1, cells := 0, slots := 0, locals := 27 }) (va_Pc [.ref h0, .int 0] (zB D y [(h0, .inr (4, [w1, .int 0, .int 0]))] sz [] [] [] [])) (va_Qi (fun (r : Int32) (_ : Unit) => r = -2147483648) (fun _ t => va_P D vwCl [(h0, .inr (4, [w1, .int 0, .int 0]))] t.heap ∧ va_D (va_A [(h0, .inr (4, [w1, .int 0, .int 0]))] sz) [(h0, .inr (4, [w1, .int 0, .int 0]))]) (va_A [(h0, .inr (4, [w1, .int 0, .int 0]))] sz)) 0 0 (va_A [(h0, .inr (4, [w1, .int 0, .int 0]))] sz) := by
  refine Met.ofW (cc := cX1_wordOf) (maxL := 4) (ret := (some .int)) (by decide) rfl ?_
  intro p e s m args below meth c s₁ B hml hv
  obtain ⟨rfl, hsz, hP, hK, hD0, hN, hE, hO, hT, hG⟩ := hv
  have hx := B.exec
  have hb := B.bytes
  have hr := B.returns
  have hts := atoms_spec (ws := wz_c_X1_wordOf_0) B.pre
  have hown : s.vm.findClass RX1 = some m.cls := findClass_of_methodNamed B.named
  have hlocks := B.notSynchronized
  subst hsz
  have hD := hD0.self (sz := s.heap.size)
  generalize hAe : va_A [(h0, .inr (4, [w1, .int 0, .int 0]))] s.heap.size = A at hD hE hT hG ⊢
  have hA : ∀ q : Nat, s.heap.size ≤ q → A q := fun q h => by rw [← hAe]; exact Or.inr h
  have hS : va_S A s.heap s.heap [] := va_S.rf
  have hl := lv_entry ([.ref h0, .int 0]) (n := 4) (Nat.le_of_ble_eq_true rfl)
  rw [lg_entry_eq]
  generalize (lg_sl ([.ref h0, .int 0]) ++ List.replicate (4 - (lg_sl ([.ref h0, .int 0])).length) Slot.unset).toArray = ls at hl ⊢
  have hl : lv_has ls 4 [(0, .ref h0), (1, .int 0)] := hl
  refine lv_aload_n hx hb dX1_wordOf_0 rfl (lv_at hl 0 rfl) ?_
  refine lv_iload_n hx hb dX1_wordOf_1 rfl (lv_at hl 1 rfl) ?_
  refine lv_iconst (v := 4) hx hb dX1_wordOf_2 (by decide) ?_
  have hPc := hP.sub (ws' := [(h0, .inr (4, [w1, .int 0, .int 0]))]) [0] rfl
  have hDc := hD.sub (ws' := [(h0, .inr (4, [w1, .int 0, .int 0]))]) [0] (by decide) rfl
  have hFc := va_free (wc := [(h0, .inr (4, [w1, .int 0, .int 0]))]) hD hS hA [0] rfl
  refine va_calll (va_runU (As := [.int 0, .int 4]) (rest := []) ⟨hx, hb, hml, hown, hts⟩ (c_num4_0 l D y s.heap.size h0 w1) (va_cwU 2 hts gv_c_X1_wordOf_0_c_num4_0_44 rfl rfl rfl rfl (by decide +kernel) ⟨(Nat.le_of_ble_eq_true rfl), (Nat.le_of_ble_eq_true rfl)⟩) (zB.preV hPc hDc hK hN hE hO hT hG hS hFc (fun _ h => nomatch h) (fun _ h => nomatch h) (fun _ h => nomatch h) (fun _ h => nomatch h) (va_recv hK hPc (ci := 4) (q0 := 0) rfl rfl)) rfl rfl hl.1 rfl (lv_room (Nat.le_of_ble_eq_true rfl)) dX1_wordOf_3 ⟨(Nat.le_of_ble_eq_true rfl), (Nat.le_of_ble_eq_true rfl)⟩) hS (fun q _ h => hFc q h) hFc (fun r1 u t H1 locs ht hvm hw hB hz1 hk1 hS => ?_)
  obtain ⟨hP1, hD1⟩ := hB
  rw [ht] at hP1
  obtain ⟨hP, hD⟩ := va_join (wr := []) (w1 := [(h0, .inr (4, [w1, .int 0, .int 0]))]) hP hD [0] [] rfl rfl (by decide) (by decide) hk1 hFc hP1 hD1
  generalize H1 = H at hP hS ⊢
  have hP : va_P D vwCl [(h0, .inr (4, [w1, .int 0, .int 0]))] H := hP
  have hD : va_D A [(h0, .inr (4, [w1, .int 0, .int 0]))] := hD
  have hw : r1 = 0 := hw
  subst hw
  refine lv_l2i (v := 0) hx hb dX1_wordOf_6 (by decide +kernel) ?_
  refine lv_istore_n (lv' := [(2, .int 0), (0, .ref h0), (1, .int 0)]) hx hb dX1_wordOf_7 rfl hl (by decide) rfl (fun ls hl => ?_)
  refine lv_aload_n hx hb dX1_wordOf_8 rfl (lv_at hl 1 rfl) ?_
  refine va_get (D := D) (ci := 4) (v := .int 0) (C := RX0) (T := TX0) (N := 3) hx hb hts (by decide +kernel) hown hK hP 0 rfl rfl 2 (by decide) (hts (.fieldLink RX1 28 "SignetRing$Span" "size" "I") (by decide +kernel)) (fun _ h9 => h9) rfl dX1_wordOf_9 ?_
  refine lv_iload_n hx hb dX1_wordOf_12 rfl (lv_at hl 2 rfl) ?_
  refine lv_isub hx hb dX1_wordOf_13 ?_
  refine lv_topi (fun v2 ev2 => ?_)
  have ev2 : v2 = 0 := ev2.trans (by decide +kernel)
  subst ev2
  refine lv_istore_n (lv' := [(3, .int 0), (2, .int 0), (0, .ref h0), (1, .int 0)]) hx hb dX1_wordOf_14 rfl hl (by decide) rfl (fun ls hl => ?_)
  refine lv_iload_n hx hb dX1_wordOf_15 rfl (lv_at hl 0 rfl) ?_
  refine lv_if_lt (tgt := 40) hx hb dX1_wordOf_16 (by decide) (fun c9 => absurd c9 (by decide)) (fun _ => ?_)
  refine lv_iload_n hx hb dX1_wordOf_19 rfl (lv_at hl 0 rfl) ?_
  refine lv_iconst (v := 4) hx hb dX1_wordOf_20 (by decide) ?_
  refine lv_icmp_ge (tgt := 40) hx hb dX1_wordOf_21 (by decide) (fun c9 => absurd c9 (by decide)) (fun _ => ?_)
  refine lv_iload_n hx hb dX1_wordOf_24 rfl (lv_at hl 1 rfl) ?_
  refine lv_sipush (v := 128) hx hb dX1_wordOf_25 (by decide) ?_
  refine lv_bipush (v := 24) hx hb dX1_wordOf_28 (by decide) ?_
  refine lv_bipush (v := 8) hx hb dX1_wordOf_30 (by decide) ?_
  refine lv_iload_n hx hb dX1_wordOf_32 rfl (lv_at hl 0 rfl) ?_
  refine lv_imul hx hb dX1_wordOf_33 ?_
  refine lv_topi (fun v3 ev3 => ?_)
  have ev3 : v3 = 0 := ev3.trans (by decide +kernel)
  subst ev3
  refine lv_isub hx hb dX1_wordOf_34 ?_
  refine lv_topi (fun v4 ev4 => ?_)
  have ev4 : v4 = 24 := ev4.trans (by decide +kernel)
  subst ev4
  refine lv_ishl hx hb dX1_wordOf_35 ?_
  refine lv_topi (fun v5 ev5 => ?_)
  have ev5 : v5 = -2147483648 := ev5.trans (by decide +kernel)
  subst ev5
  refine lv_ior hx hb dX1_wordOf_36 ?_
  refine lv_topi (fun v6 ev6 => ?_)
  have ev6 : v6 = -2147483648 := ev6.trans (by decide +kernel)
  subst ev6
  refine lv_goto (tgt := 41) hx hb dX1_wordOf_37 (by decide) ?_
  have hP9 := hP.sub (ws' := [(h0, .inr (4, [w1, .int 0, .int 0]))]) [0] rfl
  have hD9 := hD.sub (ws' := [(h0, .inr (4, [w1, .int 0, .int 0]))]) [0] (by decide) rfl
  refine W.widen (k := 0) (n := 0) (Nat.le_of_ble_eq_true rfl) (Nat.le_of_ble_eq_true rfl) ?_
  exact W.iret (v := (-2147483648)) hx hb hr (fun t ht hW => ⟨⟨(-2147483648), (), rfl, rfl, by rw [ht]; exact hP9, hD9⟩, hS.F ht⟩) hS.2.2 dX1_wordOf_41
def wz_c_num4_4 : List Cond := .code yX10_number cX10_number 8 (some .long) :: ([.fieldLink RX10 13 "SignetRing$Span" "from" "I", .fieldLink RX10 17 "SignetRing$Span" "size" "I"] ++ (wsX00 ++ ([])))
set_option maxHeartbeats 4000000 in
set_option maxRecDepth 100000 in
theorem c_num4_4 (l : Launch) (D : va_G) (y : Nat → ClassId) (sz : Nat) (h0 : Nat) (w1 : Value) : Met l yX10_number wz_c_num4_4 ({ frames := 0, cells := 0, slots := 0, locals := 0 }) (va_Pc [.ref h0, .int 4, .int 4] (zB D y [(h0, .inr (4, [w1, .int 0, .int 0]))] sz [] [] [] [])) (va_Ql (fun (r : Int64) (_ : Unit) => r = 0) (fun _ t => va_P D vwCl [(h0, .inr (4, [w1, .int 0, .int 0]))] t.heap ∧ va_D (va_A [(h0, .inr (4, [w1, .int 0, .int 0]))] sz) [(h0, .inr (4, [w1, .int 0, .int 0]))]) (va_A [(h0, .inr (4, [w1, .int 0, .int 0]))] sz)) 0 0 (va_A [(h0, .inr (4, [w1, .int 0, .int 0]))] sz) := by
  refine Met.ofW (cc := cX10_number) (maxL := 8) (ret := (some .long)) (by decide) rfl ?_
  intro p e s m args below meth c s₁ B hml hv
  obtain ⟨rfl, hsz, hP, hK, hD0, hN, hE, hO, hT, hG⟩ := hv
  have hx := B.exec
  have hb := B.bytes
  have hr := B.returns
  have hts := atoms_spec (ws := wz_c_num4_4) B.pre
  have hown : s.vm.findClass RX10 = some m.cls := findClass_of_methodNamed B.named
  have hlocks := B.notSynchronized
  subst hsz
  have hD := hD0.self (sz := s.heap.size)
  generalize hAe : va_A [(h0, .inr (4, [w1, .int 0, .int 0]))] s.heap.size = A at hD hE hT hG ⊢
  have hA : ∀ q : Nat, s.heap.size ≤ q → A q := fun q h => by rw [← hAe]; exact Or.inr h
  have hS : va_S A s.heap s.heap [] := va_S.rf
  have hl := lv_entry ([.ref h0, .int 4, .int 4]) (n := 8) (Nat.le_of_ble_eq_true rfl)
  rw [lg_entry_eq]
  generalize (lg_sl ([.ref h0, .int 4, .int 4]) ++ List.replicate (8 - (lg_sl ([.ref h0, .int 4, .int 4])).length) Slot.unset).toArray = ls at hl ⊢
  have hl : lv_has ls 8 [(0, .ref h0), (1, .int 4), (2, .int 4)] := hl
  refine lv_lconst (v := 0) hx hb dX10_number_0 (by decide) ?_
  refine lv_lstore_n (lv' := [(3, .long 0), (0, .ref h0), (1, .int 4), (2, .int 4)]) hx hb dX10_number_1 rfl hl (by decide) rfl (fun ls hl => ?_)
  refine lv_iconst (v := 0) hx hb dX10_number_2 (by decide) ?_
  refine lv_istore (lv' := [(5, .int 0), (3, .long 0), (0, .ref h0), (1, .int 4), (2, .int 4)]) hx hb dX10_number_3 hl (by decide) rfl (fun ls hl => ?_)
  refine lv_iload hx hb dX10_number_5 (lv_at hl 0 rfl) ?_
  refine lv_iload_n hx hb dX10_number_7 rfl (lv_at hl 4 rfl) ?_
  refine lv_icmp_ge (tgt := 92) hx hb dX10_number_8 (by decide) (fun c9 => absurd c9 (by decide)) (fun _ => ?_)
  refine lv_aload_n hx hb dX10_number_11 rfl (lv_at hl 2 rfl) ?_
  refine va_get (D := D) (ci := 4) (v := .int 0) (C := RX0) (T := TX0) (N := 3) hx hb hts (by decide +kernel) hown hK hP 0 rfl rfl 1 (by decide) (hts (.fieldLink RX10 13 "SignetRing$Span" "from" "I") (by decide +kernel)) (fun _ h9 => h9) rfl dX10_number_12 ?_
  refine lv_iload_n hx hb dX10_number_15 rfl (lv_at hl 3 rfl) ?_
  refine lv_iadd hx hb dX10_number_16 ?_
  refine lv_topi (fun v1 ev1 => ?_)
  have ev1 : v1 = 4 := ev1.trans (by decide +kernel)
  subst ev1
  refine lv_iload hx hb dX10_number_17 (lv_at hl 0 rfl) ?_
  refine lv_iadd hx hb dX10_number_19 ?_
  refine lv_topi (fun v2 ev2 => ?_)
  have ev2 : v2 = 4 := ev2.trans (by decide +kernel)
  subst ev2
  refine lv_istore (lv' := [(6, .int 4), (5, .int 0), (3, .long 0), (0, .ref h0), (1, .int 4), (2, .int 4)]) hx hb dX10_number_20 hl (by decide) rfl (fun ls hl => ?_)
  refine lv_iload_n hx hb dX10_number_22 rfl (lv_at hl 4 rfl) ?_
  refine lv_if_lt (tgt := 56) hx hb dX10_number_23 (by decide) (fun c9 => absurd c9 (by decide)) (fun _ => ?_)
  refine lv_iload_n hx hb dX10_number_26 rfl (lv_at hl 4 rfl) ?_
  refine lv_iload hx hb dX10_number_27 (lv_at hl 1 rfl) ?_
  refine lv_iadd hx hb dX10_number_29 ?_
  refine lv_topi (fun v3 ev3 => ?_)
  have ev3 : v3 = 4 := ev3.trans (by decide +kernel)
  subst ev3
  refine lv_aload_n hx hb dX10_number_30 rfl (lv_at hl 3 rfl) ?_
  refine va_get (D := D) (ci := 4) (v := .int 0) (C := RX0) (T := TX0) (N := 3) hx hb hts (by decide +kernel) hown hK hP 0 rfl rfl 2 (by decide) (hts (.fieldLink RX10 17 "SignetRing$Span" "size" "I") (by decide +kernel)) (fun _ h9 => h9) rfl dX10_number_31 ?_
  refine lv_icmp_ge (tgt := 56) hx hb dX10_number_34 (by decide) (fun _ => ?_) (fun c9 => absurd (by decide) c9)
  refine lv_iconst (v := 0) hx hb dX10_number_56 (by decide) ?_
  refine lv_istore (lv' := [(7, .int 0), (6, .int 4), (5, .int 0), (3, .long 0), (0, .ref h0), (1, .int 4), (2, .int 4)]) hx hb dX10_number_57 hl (by decide) rfl (fun ls hl => ?_)
  refine lv_lload_n hx hb dX10_number_59 rfl (lv_at hl 3 rfl) ?_
  refine lv_bipush (v := 8) hx hb dX10_number_60 (by decide) ?_
  refine lv_lshl hx hb dX10_number_62 rfl ?_
  refine lv_topl (fun v4 ev4 => ?_)
  have ev4 : v4 = 0 := ev4.trans (by decide +kernel)
  subst ev4
  refine lv_iload hx hb dX10_number_63 (lv_at hl 0 rfl) ?_
  refine lv_if_eq (tgt := 82) hx hb dX10_number_65 (by decide) (fun _ => ?_) (fun c9 => absurd (by decide) c9)
  refine lv_iconst (v := 0) hx hb dX10_number_82 (by decide) ?_
  refine lv_i2l (v := 0) hx hb dX10_number_83 (by decide +kernel) ?_
  refine lv_lor hx hb dX10_number_84 ?_
  refine lv_topl (fun v5 ev5 => ?_)
  have ev5 : v5 = 0 := ev5.trans (by decide +kernel)
  subst ev5
  refine lv_lstore_n (lv' := [(3, .long 0), (7, .int 0), (6, .int 4), (5, .int 0), (0, .ref h0), (1, .int 4), (2, .int 4)]) hx hb dX10_number_85 rfl hl (by decide) rfl (fun ls hl => ?_)
  refine lv_iinc (v := 1) (lv' := [(5, .int 1), (3, .long 0), (7, .int 0), (6, .int 4), (0, .ref h0), (1, .int 4), (2, .int 4)]) hx hb dX10_number_86 hl (k := 3) rfl (by decide) (by decide) rfl (fun ls hl => ?_)
  refine lv_goto (tgt := 5) hx hb dX10_number_89 (by decide) ?_
  refine lv_iload hx hb dX10_number_5 (lv_at hl 0 rfl) ?_
  refine lv_iload_n hx hb dX10_number_7 rfl (lv_at hl 6 rfl) ?_
  refine lv_icmp_ge (tgt := 92) hx hb dX10_number_8 (by decide) (fun c9 => absurd c9 (by decide)) (fun _ => ?_)
  refine lv_aload_n hx hb dX10_number_11 rfl (lv_at hl 4 rfl) ?_
  refine va_get (D := D) (ci := 4) (v := .int 0) (C := RX0) (T := TX0) (N := 3) hx hb hts (by decide +kernel) hown hK hP 0 rfl rfl 1 (by decide) (hts (.fieldLink RX10 13 "SignetRing$Span" "from" "I") (by decide +kernel)) (fun _ h9 => h9) rfl dX10_number_12 ?_
  refine lv_iload_n hx hb dX10_number_15 rfl (lv_at hl 5 rfl) ?_
  refine lv_iadd hx hb dX10_number_16 ?_
  refine lv_topi (fun v6 ev6 => ?_)
  have ev6 : v6 = 4 := ev6.trans (by decide +kernel)
  subst ev6
  refine lv_iload hx hb dX10_number_17 (lv_at hl 0 rfl) ?_
  refine lv_iadd hx hb dX10_number_19 ?_
  refine lv_topi (fun v7 ev7 => ?_)
  have ev7 : v7 = 5 := ev7.trans (by decide +kernel)
  subst ev7
  refine lv_istore (lv' := [(6, .int 5), (5, .int 1), (3, .long 0), (7, .int 0), (0, .ref h0), (1, .int 4), (2, .int 4)]) hx hb dX10_number_20 hl (by decide) rfl (fun ls hl => ?_)
  refine lv_iload_n hx hb dX10_number_22 rfl (lv_at hl 5 rfl) ?_
  refine lv_if_lt (tgt := 56) hx hb dX10_number_23 (by decide) (fun c9 => absurd c9 (by decide)) (fun _ => ?_)
  refine lv_iload_n hx hb dX10_number_26 rfl (lv_at hl 5 rfl) ?_
  refine lv_iload hx hb dX10_number_27 (lv_at hl 1 rfl) ?_
  refine lv_iadd hx hb dX10_number_29 ?_
  refine lv_topi (fun v8 ev8 => ?_)
  have ev8 : v8 = 5 := ev8.trans (by decide +kernel)
  subst ev8
  refine lv_aload_n hx hb dX10_number_30 rfl (lv_at hl 4 rfl) ?_
  refine va_get (D := D) (ci := 4) (v := .int 0) (C := RX0) (T := TX0) (N := 3) hx hb hts (by decide +kernel) hown hK hP 0 rfl rfl 2 (by decide) (hts (.fieldLink RX10 17 "SignetRing$Span" "size" "I") (by decide +kernel)) (fun _ h9 => h9) rfl dX10_number_31 ?_
  refine lv_icmp_ge (tgt := 56) hx hb dX10_number_34 (by decide) (fun _ => ?_) (fun c9 => absurd (by decide) c9)
  refine lv_iconst (v := 0) hx hb dX10_number_56 (by decide) ?_
  refine lv_istore (lv' := [(7, .int 0), (6, .int 5), (5, .int 1), (3, .long 0), (0, .ref h0), (1, .int 4), (2, .int 4)]) hx hb dX10_number_57 hl (by decide) rfl (fun ls hl => ?_)
  refine lv_lload_n hx hb dX10_number_59 rfl (lv_at hl 3 rfl) ?_
  refine lv_bipush (v := 8) hx hb dX10_number_60 (by decide) ?_
  refine lv_lshl hx hb dX10_number_62 rfl ?_
  refine lv_topl (fun v9 ev9 => ?_)
  have ev9 : v9 = 0 := ev9.trans (by decide +kernel)
  subst ev9
  refine lv_iload hx hb dX10_number_63 (lv_at hl 0 rfl) ?_
  refine lv_if_eq (tgt := 82) hx hb dX10_number_65 (by decide) (fun _ => ?_) (fun c9 => absurd (by decide) c9)
  refine lv_iconst (v := 0) hx hb dX10_number_82 (by decide) ?_
  refine lv_i2l (v := 0) hx hb dX10_number_83 (by decide +kernel) ?_
  refine lv_lor hx hb dX10_number_84 ?_
  refine lv_topl (fun v10 ev10 => ?_)
  have ev10 : v10 = 0 := ev10.trans (by decide +kernel)
  subst ev10
  refine lv_lstore_n (lv' := [(3, .long 0), (7, .int 0), (6, .int 5), (5, .int 1), (0, .ref h0), (1, .int 4), (2, .int 4)]) hx hb dX10_number_85 rfl hl (by decide) rfl (fun ls hl => ?_)
  refine lv_iinc (v := 2) (lv' := [(5, .int 2), (3, .long 0), (7, .int 0), (6, .int 5), (0, .ref h0), (1, .int 4), (2, .int 4)]) hx hb dX10_number_86 hl (k := 3) rfl (by decide) (by decide) rfl (fun ls hl => ?_)
  refine lv_goto (tgt := 5) hx hb dX10_number_89 (by decide) ?_
  refine lv_iload hx hb dX10_number_5 (lv_at hl 0 rfl) ?_
  refine lv_iload_n hx hb dX10_number_7 rfl (lv_at hl 6 rfl) ?_
  refine lv_icmp_ge (tgt := 92) hx hb dX10_number_8 (by decide) (fun c9 => absurd c9 (by decide)) (fun _ => ?_)
  refine lv_aload_n hx hb dX10_number_11 rfl (lv_at hl 4 rfl) ?_
  refine va_get (D := D) (ci := 4) (v := .int 0) (C := RX0) (T := TX0) (N := 3) hx hb hts (by decide +kernel) hown hK hP 0 rfl rfl 1 (by decide) (hts (.fieldLink RX10 13 "SignetRing$Span" "from" "I") (by decide +kernel)) (fun _ h9 => h9) rfl dX10_number_12 ?_
  refine lv_iload_n hx hb dX10_number_15 rfl (lv_at hl 5 rfl) ?_
  refine lv_iadd hx hb dX10_number_16 ?_
  refine lv_topi (fun v11 ev11 => ?_)
  have ev11 : v11 = 4 := ev11.trans (by decide +kernel)
  subst ev11
  refine lv_iload hx hb dX10_number_17 (lv_at hl 0 rfl) ?_
  refine lv_iadd hx hb dX10_number_19 ?_
  refine lv_topi (fun v12 ev12 => ?_)
  have ev12 : v12 = 6 := ev12.trans (by decide +kernel)
  subst ev12
  refine lv_istore (lv' := [(6, .int 6), (5, .int 2), (3, .long 0), (7, .int 0), (0, .ref h0), (1, .int 4), (2, .int 4)]) hx hb dX10_number_20 hl (by decide) rfl (fun ls hl => ?_)
  refine lv_iload_n hx hb dX10_number_22 rfl (lv_at hl 5 rfl) ?_
  refine lv_if_lt (tgt := 56) hx hb dX10_number_23 (by decide) (fun c9 => absurd c9 (by decide)) (fun _ => ?_)
  refine lv_iload_n hx hb dX10_number_26 rfl (lv_at hl 5 rfl) ?_
  refine lv_iload hx hb dX10_number_27 (lv_at hl 1 rfl) ?_
  refine lv_iadd hx hb dX10_number_29 ?_
  refine lv_topi (fun v13 ev13 => ?_)
  have ev13 : v13 = 6 := ev13.trans (by decide +kernel)
  subst ev13
  refine lv_aload_n hx hb dX10_number_30 rfl (lv_at hl 4 rfl) ?_
  refine va_get (D := D) (ci := 4) (v := .int 0) (C := RX0) (T := TX0) (N := 3) hx hb hts (by decide +kernel) hown hK hP 0 rfl rfl 2 (by decide) (hts (.fieldLink RX10 17 "SignetRing$Span" "size" "I") (by decide +kernel)) (fun _ h9 => h9) rfl dX10_number_31 ?_
  refine lv_icmp_ge (tgt := 56) hx hb dX10_number_34 (by decide) (fun _ => ?_) (fun c9 => absurd (by decide) c9)
  refine lv_iconst (v := 0) hx hb dX10_number_56 (by decide) ?_
  refine lv_istore (lv' := [(7, .int 0), (6, .int 6), (5, .int 2), (3, .long 0), (0, .ref h0), (1, .int 4), (2, .int 4)]) hx hb dX10_number_57 hl (by decide) rfl (fun ls hl => ?_)
  refine lv_lload_n hx hb dX10_number_59 rfl (lv_at hl 3 rfl) ?_
  refine lv_bipush (v := 8) hx hb dX10_number_60 (by decide) ?_
  refine lv_lshl hx hb dX10_number_62 rfl ?_
  refine lv_topl (fun v14 ev14 => ?_)
  have ev14 : v14 = 0 := ev14.trans (by decide +kernel)
  subst ev14
  refine lv_iload hx hb dX10_number_63 (lv_at hl 0 rfl) ?_
  refine lv_if_eq (tgt := 82) hx hb dX10_number_65 (by decide) (fun _ => ?_) (fun c9 => absurd (by decide) c9)
  refine lv_iconst (v := 0) hx hb dX10_number_82 (by decide) ?_
  refine lv_i2l (v := 0) hx hb dX10_number_83 (by decide +kernel) ?_
  refine lv_lor hx hb dX10_number_84 ?_
  refine lv_topl (fun v15 ev15 => ?_)
  have ev15 : v15 = 0 := ev15.trans (by decide +kernel)
  subst ev15
  refine lv_lstore_n (lv' := [(3, .long 0), (7, .int 0), (6, .int 6), (5, .int 2), (0, .ref h0), (1, .int 4), (2, .int 4)]) hx hb dX10_number_85 rfl hl (by decide) rfl (fun ls hl => ?_)
  refine lv_iinc (v := 3) (lv' := [(5, .int 3), (3, .long 0), (7, .int 0), (6, .int 6), (0, .ref h0), (1, .int 4), (2, .int 4)]) hx hb dX10_number_86 hl (k := 3) rfl (by decide) (by decide) rfl (fun ls hl => ?_)
  refine lv_goto (tgt := 5) hx hb dX10_number_89 (by decide) ?_
  refine lv_iload hx hb dX10_number_5 (lv_at hl 0 rfl) ?_
  refine lv_iload_n hx hb dX10_number_7 rfl (lv_at hl 6 rfl) ?_
  refine lv_icmp_ge (tgt := 92) hx hb dX10_number_8 (by decide) (fun c9 => absurd c9 (by decide)) (fun _ => ?_)
  refine lv_aload_n hx hb dX10_number_11 rfl (lv_at hl 4 rfl) ?_
  refine va_get (D := D) (ci := 4) (v := .int 0) (C := RX0) (T := TX0) (N := 3) hx hb hts (by decide +kernel) hown hK hP 0 rfl rfl 1 (by decide) (hts (.fieldLink RX10 13 "SignetRing$Span" "from" "I") (by decide +kernel)) (fun _ h9 => h9) rfl dX10_number_12 ?_
  refine lv_iload_n hx hb dX10_number_15 rfl (lv_at hl 5 rfl) ?_
  refine lv_iadd hx hb dX10_number_16 ?_
  refine lv_topi (fun v16 ev16 => ?_)
  have ev16 : v16 = 4 := ev16.trans (by decide +kernel)
  subst ev16
  refine lv_iload hx hb dX10_number_17 (lv_at hl 0 rfl) ?_
  refine lv_iadd hx hb dX10_number_19 ?_
  refine lv_topi (fun v17 ev17 => ?_)
  have ev17 : v17 = 7 := ev17.trans (by decide +kernel)
  subst ev17
  refine lv_istore (lv' := [(6, .int 7), (5, .int 3), (3, .long 0), (7, .int 0), (0, .ref h0), (1, .int 4), (2, .int 4)]) hx hb dX10_number_20 hl (by decide) rfl (fun ls hl => ?_)
  refine lv_iload_n hx hb dX10_number_22 rfl (lv_at hl 5 rfl) ?_
  refine lv_if_lt (tgt := 56) hx hb dX10_number_23 (by decide) (fun c9 => absurd c9 (by decide)) (fun _ => ?_)
  refine lv_iload_n hx hb dX10_number_26 rfl (lv_at hl 5 rfl) ?_
  refine lv_iload hx hb dX10_number_27 (lv_at hl 1 rfl) ?_
  refine lv_iadd hx hb dX10_number_29 ?_
  refine lv_topi (fun v18 ev18 => ?_)
  have ev18 : v18 = 7 := ev18.trans (by decide +kernel)
  subst ev18
  refine lv_aload_n hx hb dX10_number_30 rfl (lv_at hl 4 rfl) ?_
  refine va_get (D := D) (ci := 4) (v := .int 0) (C := RX0) (T := TX0) (N := 3) hx hb hts (by decide +kernel) hown hK hP 0 rfl rfl 2 (by decide) (hts (.fieldLink RX10 17 "SignetRing$Span" "size" "I") (by decide +kernel)) (fun _ h9 => h9) rfl dX10_number_31 ?_
  refine lv_icmp_ge (tgt := 56) hx hb dX10_number_34 (by decide) (fun _ => ?_) (fun c9 => absurd (by decide) c9)
  refine lv_iconst (v := 0) hx hb dX10_number_56 (by decide) ?_
  refine lv_istore (lv' := [(7, .int 0), (6, .int 7), (5, .int 3), (3, .long 0), (0, .ref h0), (1, .int 4), (2, .int 4)]) hx hb dX10_number_57 hl (by decide) rfl (fun ls hl => ?_)
  refine lv_lload_n hx hb dX10_number_59 rfl (lv_at hl 3 rfl) ?_
  refine lv_bipush (v := 8) hx hb dX10_number_60 (by decide) ?_
  refine lv_lshl hx hb dX10_number_62 rfl ?_
  refine lv_topl (fun v19 ev19 => ?_)
  have ev19 : v19 = 0 := ev19.trans (by decide +kernel)
  subst ev19
  refine lv_iload hx hb dX10_number_63 (lv_at hl 0 rfl) ?_
  refine lv_if_eq (tgt := 82) hx hb dX10_number_65 (by decide) (fun _ => ?_) (fun c9 => absurd (by decide) c9)
  refine lv_iconst (v := 0) hx hb dX10_number_82 (by decide) ?_
  refine lv_i2l (v := 0) hx hb dX10_number_83 (by decide +kernel) ?_
  refine lv_lor hx hb dX10_number_84 ?_
  refine lv_topl (fun v20 ev20 => ?_)
  have ev20 : v20 = 0 := ev20.trans (by decide +kernel)
  subst ev20
  refine lv_lstore_n (lv' := [(3, .long 0), (7, .int 0), (6, .int 7), (5, .int 3), (0, .ref h0), (1, .int 4), (2, .int 4)]) hx hb dX10_number_85 rfl hl (by decide) rfl (fun ls hl => ?_)
  refine lv_iinc (v := 4) (lv' := [(5, .int 4), (3, .long 0), (7, .int 0), (6, .int 7), (0, .ref h0), (1, .int 4), (2, .int 4)]) hx hb dX10_number_86 hl (k := 3) rfl (by decide) (by decide) rfl (fun ls hl => ?_)
  refine lv_goto (tgt := 5) hx hb dX10_number_89 (by decide) ?_
  refine lv_iload hx hb dX10_number_5 (lv_at hl 0 rfl) ?_
  refine lv_iload_n hx hb dX10_number_7 rfl (lv_at hl 6 rfl) ?_
  refine lv_icmp_ge (tgt := 92) hx hb dX10_number_8 (by decide) (fun _ => ?_) (fun c9 => absurd (by decide) c9)
  refine lv_lload_n hx hb dX10_number_92 rfl (lv_at hl 1 rfl) ?_
  have hP9 := hP.sub (ws' := [(h0, .inr (4, [w1, .int 0, .int 0]))]) [0] rfl
  have hD9 := hD.sub (ws' := [(h0, .inr (4, [w1, .int 0, .int 0]))]) [0] (by decide) rfl
  refine W.widen (k := 0) (n := 0) (Nat.le_of_ble_eq_true rfl) (Nat.le_of_ble_eq_true rfl) ?_
  exact W.lret (v := 0) hx hb hr (fun t ht hW => ⟨⟨0, (), rfl, rfl, by rw [ht]; exact hP9, hD9⟩, hS.F ht⟩) hS.2.2 dX10_number_93
def wz_c_X1_wordOf_4 : List Cond := .code yX1_wordOf cX1_wordOf 4 (some .int) :: ([.methodLink RX1 44 ⟨"SignetRing$Span", "number", "(II)J"⟩, .sameMethod "SignetRing$Span" "SignetRing$Span" "number" "(II)J", .selects RX0 ⟨"SignetRing$Span", "number", "(II)J"⟩ yX10_number, .instanceMethod yX10_number, .initialized RX10, .fieldLink RX1 28 "SignetRing$Span" "size" "I"] ++ (wsX00 ++ (wz_c_num4_4 ++ ([]))))
set_option maxRecDepth 100000 in
theorem gz_c_X1_wordOf_4_c_num4_4 : GoodIn wz_c_X1_wordOf_4 wz_c_num4_4 := goodIn_sub (fun w h => List.mem_cons_of_mem _ (List.mem_append_right _ (List.mem_append_right _ (List.mem_append_left _ h)))) (by decide +kernel)
set_option maxRecDepth 100000 in
theorem gv_c_X1_wordOf_4_c_num4_4_44 : GoodIn wz_c_X1_wordOf_4 (va_wsU RX1 44 RX0 "SignetRing$Span" ⟨"SignetRing$Span", "number", "(II)J"⟩ yX10_number wz_c_num4_4) := goodIn_app (goodIn_of _ (by decide +kernel)) gz_c_X1_wordOf_4_c_num4_4
set_option maxHeartbeats 4000000 in
set_option maxRecDepth 100000 in
theorem c_X1_wordOf_4 (l : Launch) (D : va_G) (y : Nat → ClassId) (sz : Nat) (h0 : Nat) (w1 : Value) : Met l yX1_wordOf wz_c_X1_wordOf_4 ({ frames := 1, cells := 0, slots := 0, locals := 27 }) (va_Pc [.ref h0, .int 4] (zB D y [(h0, .inr (4, [w1, .int 0, .int 0]))] sz [] [] [] [])) (va_Qi (fun (r : Int32) (_ : Unit) => r = 0) (fun _ t => va_P D vwCl [(h0, .inr (4, [w1, .int 0, .int 0]))] t.heap ∧ va_D (va_A [(h0, .inr (4, [w1, .int 0, .int 0]))] sz) [(h0, .inr (4, [w1, .int 0, .int 0]))]) (va_A [(h0, .inr (4, [w1, .int 0, .int 0]))] sz)) 0 0 (va_A [(h0, .inr (4, [w1, .int 0, .int 0]))] sz) := by
  refine Met.ofW (cc := cX1_wordOf) (maxL := 4) (ret := (some .int)) (by decide) rfl ?_
  intro p e s m args below meth c s₁ B hml hv
  obtain ⟨rfl, hsz, hP, hK, hD0, hN, hE, hO, hT, hG⟩ := hv
  have hx := B.exec
  have hb := B.bytes
  have hr := B.returns
  have hts := atoms_spec (ws := wz_c_X1_wordOf_4) B.pre
  have hown : s.vm.findClass RX1 = some m.cls := findClass_of_methodNamed B.named
  have hlocks := B.notSynchronized
  subst hsz
  have hD := hD0.self (sz := s.heap.size)
  generalize hAe : va_A [(h0, .inr (4, [w1, .int 0, .int 0]))] s.heap.size = A at hD hE hT hG ⊢
  have hA : ∀ q : Nat, s.heap.size ≤ q → A q := fun q h => by rw [← hAe]; exact Or.inr h
  have hS : va_S A s.heap s.heap [] := va_S.rf
  have hl := lv_entry ([.ref h0, .int 4]) (n := 4) (Nat.le_of_ble_eq_true rfl)
  rw [lg_entry_eq]
  generalize (lg_sl ([.ref h0, .int 4]) ++ List.replicate (4 - (lg_sl ([.ref h0, .int 4])).length) Slot.unset).toArray = ls at hl ⊢
  have hl : lv_has ls 4 [(0, .ref h0), (1, .int 4)] := hl
  refine lv_aload_n hx hb dX1_wordOf_0 rfl (lv_at hl 0 rfl) ?_
  refine lv_iload_n hx hb dX1_wordOf_1 rfl (lv_at hl 1 rfl) ?_
  refine lv_iconst (v := 4) hx hb dX1_wordOf_2 (by decide) ?_
  have hPc := hP.sub (ws' := [(h0, .inr (4, [w1, .int 0, .int 0]))]) [0] rfl
  have hDc := hD.sub (ws' := [(h0, .inr (4, [w1, .int 0, .int 0]))]) [0] (by decide) rfl
  have hFc := va_free (wc := [(h0, .inr (4, [w1, .int 0, .int 0]))]) hD hS hA [0] rfl
  refine va_calll (va_runU (As := [.int 4, .int 4]) (rest := []) ⟨hx, hb, hml, hown, hts⟩ (c_num4_4 l D y s.heap.size h0 w1) (va_cwU 2 hts gv_c_X1_wordOf_4_c_num4_4_44 rfl rfl rfl rfl (by decide +kernel) ⟨(Nat.le_of_ble_eq_true rfl), (Nat.le_of_ble_eq_true rfl)⟩) (zB.preV hPc hDc hK hN hE hO hT hG hS hFc (fun _ h => nomatch h) (fun _ h => nomatch h) (fun _ h => nomatch h) (fun _ h => nomatch h) (va_recv hK hPc (ci := 4) (q0 := 0) rfl rfl)) rfl rfl hl.1 rfl (lv_room (Nat.le_of_ble_eq_true rfl)) dX1_wordOf_3 ⟨(Nat.le_of_ble_eq_true rfl), (Nat.le_of_ble_eq_true rfl)⟩) hS (fun q _ h => hFc q h) hFc (fun r1 u t H1 locs ht hvm hw hB hz1 hk1 hS => ?_)
  obtain ⟨hP1, hD1⟩ := hB
  rw [ht] at hP1
  obtain ⟨hP, hD⟩ := va_join (wr := []) (w1 := [(h0, .inr (4, [w1, .int 0, .int 0]))]) hP hD [0] [] rfl rfl (by decide) (by decide) hk1 hFc hP1 hD1
  generalize H1 = H at hP hS ⊢
  have hP : va_P D vwCl [(h0, .inr (4, [w1, .int 0, .int 0]))] H := hP
  have hD : va_D A [(h0, .inr (4, [w1, .int 0, .int 0]))] := hD
  have hw : r1 = 0 := hw
  subst hw
  refine lv_l2i (v := 0) hx hb dX1_wordOf_6 (by decide +kernel) ?_
  refine lv_istore_n (lv' := [(2, .int 0), (0, .ref h0), (1, .int 4)]) hx hb dX1_wordOf_7 rfl hl (by decide) rfl (fun ls hl => ?_)
  refine lv_aload_n hx hb dX1_wordOf_8 rfl (lv_at hl 1 rfl) ?_
  refine va_get (D := D) (ci := 4) (v := .int 0) (C := RX0) (T := TX0) (N := 3) hx hb hts (by decide +kernel) hown hK hP 0 rfl rfl 2 (by decide) (hts (.fieldLink RX1 28 "SignetRing$Span" "size" "I") (by decide +kernel)) (fun _ h9 => h9) rfl dX1_wordOf_9 ?_
  refine lv_iload_n hx hb dX1_wordOf_12 rfl (lv_at hl 2 rfl) ?_
  refine lv_isub hx hb dX1_wordOf_13 ?_
  refine lv_topi (fun v2 ev2 => ?_)
  have ev2 : v2 = -4 := ev2.trans (by decide +kernel)
  subst ev2
  refine lv_istore_n (lv' := [(3, .int (-4)), (2, .int 0), (0, .ref h0), (1, .int 4)]) hx hb dX1_wordOf_14 rfl hl (by decide) rfl (fun ls hl => ?_)
  refine lv_iload_n hx hb dX1_wordOf_15 rfl (lv_at hl 0 rfl) ?_
  refine lv_if_lt (tgt := 40) hx hb dX1_wordOf_16 (by decide) (fun _ => ?_) (fun c9 => absurd (by decide) c9)
  refine lv_iload_n hx hb dX1_wordOf_40 rfl (lv_at hl 1 rfl) ?_
  have hP9 := hP.sub (ws' := [(h0, .inr (4, [w1, .int 0, .int 0]))]) [0] rfl
  have hD9 := hD.sub (ws' := [(h0, .inr (4, [w1, .int 0, .int 0]))]) [0] (by decide) rfl
  refine W.widen (k := 0) (n := 0) (Nat.le_of_ble_eq_true rfl) (Nat.le_of_ble_eq_true rfl) ?_
  exact W.iret (v := 0) hx hb hr (fun t ht hW => ⟨⟨0, (), rfl, rfl, by rw [ht]; exact hP9, hD9⟩, hS.F ht⟩) hS.2.2 dX1_wordOf_41
def wz_c_num4_8 : List Cond := .code yX10_number cX10_number 8 (some .long) :: ([.fieldLink RX10 13 "SignetRing$Span" "from" "I", .fieldLink RX10 17 "SignetRing$Span" "size" "I"] ++ (wsX00 ++ ([])))
set_option maxHeartbeats 4000000 in
set_option maxRecDepth 100000 in
theorem c_num4_8 (l : Launch) (D : va_G) (y : Nat → ClassId) (sz : Nat) (h0 : Nat) (w1 : Value) : Met l yX10_number wz_c_num4_8 ({ frames := 0, cells := 0, slots := 0, locals := 0 }) (va_Pc [.ref h0, .int 8, .int 4] (zB D y [(h0, .inr (4, [w1, .int 0, .int 0]))] sz [] [] [] [])) (va_Ql (fun (r : Int64) (_ : Unit) => r = 0) (fun _ t => va_P D vwCl [(h0, .inr (4, [w1, .int 0, .int 0]))] t.heap ∧ va_D (va_A [(h0, .inr (4, [w1, .int 0, .int 0]))] sz) [(h0, .inr (4, [w1, .int 0, .int 0]))]) (va_A [(h0, .inr (4, [w1, .int 0, .int 0]))] sz)) 0 0 (va_A [(h0, .inr (4, [w1, .int 0, .int 0]))] sz) := by
  refine Met.ofW (cc := cX10_number) (maxL := 8) (ret := (some .long)) (by decide) rfl ?_
  intro p e s m args below meth c s₁ B hml hv
  obtain ⟨rfl, hsz, hP, hK, hD0, hN, hE, hO, hT, hG⟩ := hv
  have hx := B.exec
  have hb := B.bytes
  have hr := B.returns
  have hts := atoms_spec (ws := wz_c_num4_8) B.pre
  have hown : s.vm.findClass RX10 = some m.cls := findClass_of_methodNamed B.named
  have hlocks := B.notSynchronized
  subst hsz
  have hD := hD0.self (sz := s.heap.size)
  generalize hAe : va_A [(h0, .inr (4, [w1, .int 0, .int 0]))] s.heap.size = A at hD hE hT hG ⊢
  have hA : ∀ q : Nat, s.heap.size ≤ q → A q := fun q h => by rw [← hAe]; exact Or.inr h
  have hS : va_S A s.heap s.heap [] := va_S.rf
  have hl := lv_entry ([.ref h0, .int 8, .int 4]) (n := 8) (Nat.le_of_ble_eq_true rfl)
  rw [lg_entry_eq]
  generalize (lg_sl ([.ref h0, .int 8, .int 4]) ++ List.replicate (8 - (lg_sl ([.ref h0, .int 8, .int 4])).length) Slot.unset).toArray = ls at hl ⊢
  have hl : lv_has ls 8 [(0, .ref h0), (1, .int 8), (2, .int 4)] := hl
  refine lv_lconst (v := 0) hx hb dX10_number_0 (by decide) ?_
  refine lv_lstore_n (lv' := [(3, .long 0), (0, .ref h0), (1, .int 8), (2, .int 4)]) hx hb dX10_number_1 rfl hl (by decide) rfl (fun ls hl => ?_)
  refine lv_iconst (v := 0) hx hb dX10_number_2 (by decide) ?_
  refine lv_istore (lv' := [(5, .int 0), (3, .long 0), (0, .ref h0), (1, .int 8), (2, .int 4)]) hx hb dX10_number_3 hl (by decide) rfl (fun ls hl => ?_)
  refine lv_iload hx hb dX10_number_5 (lv_at hl 0 rfl) ?_
  refine lv_iload_n hx hb dX10_number_7 rfl (lv_at hl 4 rfl) ?_
  refine lv_icmp_ge (tgt := 92) hx hb dX10_number_8 (by decide) (fun c9 => absurd c9 (by decide)) (fun _ => ?_)
  refine lv_aload_n hx hb dX10_number_11 rfl (lv_at hl 2 rfl) ?_
  refine va_get (D := D) (ci := 4) (v := .int 0) (C := RX0) (T := TX0) (N := 3) hx hb hts (by decide +kernel) hown hK hP 0 rfl rfl 1 (by decide) (hts (.fieldLink RX10 13 "SignetRing$Span" "from" "I") (by decide +kernel)) (fun _ h9 => h9) rfl dX10_number_12 ?_
  refine lv_iload_n hx hb dX10_number_15 rfl (lv_at hl 3 rfl) ?_
  refine lv_iadd hx hb dX10_number_16 ?_
  refine lv_topi (fun v1 ev1 => ?_)
  have ev1 : v1 = 8 := ev1.trans (by decide +kernel)
  subst ev1
  refine lv_iload hx hb dX10_number_17 (lv_at hl 0 rfl) ?_
  refine lv_iadd hx hb dX10_number_19 ?_
  refine lv_topi (fun v2 ev2 => ?_)
  have ev2 : v2 = 8 := ev2.trans (by decide +kernel)
  subst ev2
  refine lv_istore (lv' := [(6, .int 8), (5, .int 0), (3, .long 0), (0, .ref h0), (1, .int 8), (2, .int 4)]) hx hb dX10_number_20 hl (by decide) rfl (fun ls hl => ?_)
  refine lv_iload_n hx hb dX10_number_22 rfl (lv_at hl 4 rfl) ?_
  refine lv_if_lt (tgt := 56) hx hb dX10_number_23 (by decide) (fun c9 => absurd c9 (by decide)) (fun _ => ?_)
  refine lv_iload_n hx hb dX10_number_26 rfl (lv_at hl 4 rfl) ?_
  refine lv_iload hx hb dX10_number_27 (lv_at hl 1 rfl) ?_
  refine lv_iadd hx hb dX10_number_29 ?_
  refine lv_topi (fun v3 ev3 => ?_)
  have ev3 : v3 = 8 := ev3.trans (by decide +kernel)
  subst ev3
  refine lv_aload_n hx hb dX10_number_30 rfl (lv_at hl 3 rfl) ?_
  refine va_get (D := D) (ci := 4) (v := .int 0) (C := RX0) (T := TX0) (N := 3) hx hb hts (by decide +kernel) hown hK hP 0 rfl rfl 2 (by decide) (hts (.fieldLink RX10 17 "SignetRing$Span" "size" "I") (by decide +kernel)) (fun _ h9 => h9) rfl dX10_number_31 ?_
  refine lv_icmp_ge (tgt := 56) hx hb dX10_number_34 (by decide) (fun _ => ?_) (fun c9 => absurd (by decide) c9)
  refine lv_iconst (v := 0) hx hb dX10_number_56 (by decide) ?_
  refine lv_istore (lv' := [(7, .int 0), (6, .int 8), (5, .int 0), (3, .long 0), (0, .ref h0), (1, .int 8), (2, .int 4)]) hx hb dX10_number_57 hl (by decide) rfl (fun ls hl => ?_)
  refine lv_lload_n hx hb dX10_number_59 rfl (lv_at hl 3 rfl) ?_
  refine lv_bipush (v := 8) hx hb dX10_number_60 (by decide) ?_
  refine lv_lshl hx hb dX10_number_62 rfl ?_
  refine lv_topl (fun v4 ev4 => ?_)
  have ev4 : v4 = 0 := ev4.trans (by decide +kernel)
  subst ev4
  refine lv_iload hx hb dX10_number_63 (lv_at hl 0 rfl) ?_
  refine lv_if_eq (tgt := 82) hx hb dX10_number_65 (by decide) (fun _ => ?_) (fun c9 => absurd (by decide) c9)
  refine lv_iconst (v := 0) hx hb dX10_number_82 (by decide) ?_
  refine lv_i2l (v := 0) hx hb dX10_number_83 (by decide +kernel) ?_
  refine lv_lor hx hb dX10_number_84 ?_
  refine lv_topl (fun v5 ev5 => ?_)
  have ev5 : v5 = 0 := ev5.trans (by decide +kernel)
  subst ev5
  refine lv_lstore_n (lv' := [(3, .long 0), (7, .int 0), (6, .int 8), (5, .int 0), (0, .ref h0), (1, .int 8), (2, .int 4)]) hx hb dX10_number_85 rfl hl (by decide) rfl (fun ls hl => ?_)
  refine lv_iinc (v := 1) (lv' := [(5, .int 1), (3, .long 0), (7, .int 0), (6, .int 8), (0, .ref h0), (1, .int 8), (2, .int 4)]) hx hb dX10_number_86 hl (k := 3) rfl (by decide) (by decide) rfl (fun ls hl => ?_)
  refine lv_goto (tgt := 5) hx hb dX10_number_89 (by decide) ?_
  refine lv_iload hx hb dX10_number_5 (lv_at hl 0 rfl) ?_
  refine lv_iload_n hx hb dX10_number_7 rfl (lv_at hl 6 rfl) ?_
  refine lv_icmp_ge (tgt := 92) hx hb dX10_number_8 (by decide) (fun c9 => absurd c9 (by decide)) (fun _ => ?_)
  refine lv_aload_n hx hb dX10_number_11 rfl (lv_at hl 4 rfl) ?_
  refine va_get (D := D) (ci := 4) (v := .int 0) (C := RX0) (T := TX0) (N := 3) hx hb hts (by decide +kernel) hown hK hP 0 rfl rfl 1 (by decide) (hts (.fieldLink RX10 13 "SignetRing$Span" "from" "I") (by decide +kernel)) (fun _ h9 => h9) rfl dX10_number_12 ?_
  refine lv_iload_n hx hb dX10_number_15 rfl (lv_at hl 5 rfl) ?_
  refine lv_iadd hx hb dX10_number_16 ?_
  refine lv_topi (fun v6 ev6 => ?_)
  have ev6 : v6 = 8 := ev6.trans (by decide +kernel)
  subst ev6
  refine lv_iload hx hb dX10_number_17 (lv_at hl 0 rfl) ?_
  refine lv_iadd hx hb dX10_number_19 ?_
  refine lv_topi (fun v7 ev7 => ?_)
  have ev7 : v7 = 9 := ev7.trans (by decide +kernel)
  subst ev7
  refine lv_istore (lv' := [(6, .int 9), (5, .int 1), (3, .long 0), (7, .int 0), (0, .ref h0), (1, .int 8), (2, .int 4)]) hx hb dX10_number_20 hl (by decide) rfl (fun ls hl => ?_)
  refine lv_iload_n hx hb dX10_number_22 rfl (lv_at hl 5 rfl) ?_
  refine lv_if_lt (tgt := 56) hx hb dX10_number_23 (by decide) (fun c9 => absurd c9 (by decide)) (fun _ => ?_)
  refine lv_iload_n hx hb dX10_number_26 rfl (lv_at hl 5 rfl) ?_
  refine lv_iload hx hb dX10_number_27 (lv_at hl 1 rfl) ?_
  refine lv_iadd hx hb dX10_number_29 ?_
  refine lv_topi (fun v8 ev8 => ?_)
  have ev8 : v8 = 9 := ev8.trans (by decide +kernel)
  subst ev8
  refine lv_aload_n hx hb dX10_number_30 rfl (lv_at hl 4 rfl) ?_
  refine va_get (D := D) (ci := 4) (v := .int 0) (C := RX0) (T := TX0) (N := 3) hx hb hts (by decide +kernel) hown hK hP 0 rfl rfl 2 (by decide) (hts (.fieldLink RX10 17 "SignetRing$Span" "size" "I") (by decide +kernel)) (fun _ h9 => h9) rfl dX10_number_31 ?_
  refine lv_icmp_ge (tgt := 56) hx hb dX10_number_34 (by decide) (fun _ => ?_) (fun c9 => absurd (by decide) c9)
  refine lv_iconst (v := 0) hx hb dX10_number_56 (by decide) ?_
  refine lv_istore (lv' := [(7, .int 0), (6, .int 9), (5, .int 1), (3, .long 0), (0, .ref h0), (1, .int 8), (2, .int 4)]) hx hb dX10_number_57 hl (by decide) rfl (fun ls hl => ?_)
  refine lv_lload_n hx hb dX10_number_59 rfl (lv_at hl 3 rfl) ?_
  refine lv_bipush (v := 8) hx hb dX10_number_60 (by decide) ?_
  refine lv_lshl hx hb dX10_number_62 rfl ?_
  refine lv_topl (fun v9 ev9 => ?_)
  have ev9 : v9 = 0 := ev9.trans (by decide +kernel)
  subst ev9
  refine lv_iload hx hb dX10_number_63 (lv_at hl 0 rfl) ?_
  refine lv_if_eq (tgt := 82) hx hb dX10_number_65 (by decide) (fun _ => ?_) (fun c9 => absurd (by decide) c9)
  refine lv_iconst (v := 0) hx hb dX10_number_82 (by decide) ?_
  refine lv_i2l (v := 0) hx hb dX10_number_83 (by decide +kernel) ?_
  refine lv_lor hx hb dX10_number_84 ?_
  refine lv_topl (fun v10 ev10 => ?_)
  have ev10 : v10 = 0 := ev10.trans (by decide +kernel)
  subst ev10
  refine lv_lstore_n (lv' := [(3, .long 0), (7, .int 0), (6, .int 9), (5, .int 1), (0, .ref h0), (1, .int 8), (2, .int 4)]) hx hb dX10_number_85 rfl hl (by decide) rfl (fun ls hl => ?_)
  refine lv_iinc (v := 2) (lv' := [(5, .int 2), (3, .long 0), (7, .int 0), (6, .int 9), (0, .ref h0), (1, .int 8), (2, .int 4)]) hx hb dX10_number_86 hl (k := 3) rfl (by decide) (by decide) rfl (fun ls hl => ?_)
  refine lv_goto (tgt := 5) hx hb dX10_number_89 (by decide) ?_
  refine lv_iload hx hb dX10_number_5 (lv_at hl 0 rfl) ?_
  refine lv_iload_n hx hb dX10_number_7 rfl (lv_at hl 6 rfl) ?_
  refine lv_icmp_ge (tgt := 92) hx hb dX10_number_8 (by decide) (fun c9 => absurd c9 (by decide)) (fun _ => ?_)
  refine lv_aload_n hx hb dX10_number_11 rfl (lv_at hl 4 rfl) ?_
  refine va_get (D := D) (ci := 4) (v := .int 0) (C := RX0) (T := TX0) (N := 3) hx hb hts (by decide +kernel) hown hK hP 0 rfl rfl 1 (by decide) (hts (.fieldLink RX10 13 "SignetRing$Span" "from" "I") (by decide +kernel)) (fun _ h9 => h9) rfl dX10_number_12 ?_
  refine lv_iload_n hx hb dX10_number_15 rfl (lv_at hl 5 rfl) ?_
  refine lv_iadd hx hb dX10_number_16 ?_
  refine lv_topi (fun v11 ev11 => ?_)
  have ev11 : v11 = 8 := ev11.trans (by decide +kernel)
  subst ev11
  refine lv_iload hx hb dX10_number_17 (lv_at hl 0 rfl) ?_
  refine lv_iadd hx hb dX10_number_19 ?_
  refine lv_topi (fun v12 ev12 => ?_)
  have ev12 : v12 = 10 := ev12.trans (by decide +kernel)
  subst ev12
  refine lv_istore (lv' := [(6, .int 10), (5, .int 2), (3, .long 0), (7, .int 0), (0, .ref h0), (1, .int 8), (2, .int 4)]) hx hb dX10_number_20 hl (by decide) rfl (fun ls hl => ?_)
  refine lv_iload_n hx hb dX10_number_22 rfl (lv_at hl 5 rfl) ?_
  refine lv_if_lt (tgt := 56) hx hb dX10_number_23 (by decide) (fun c9 => absurd c9 (by decide)) (fun _ => ?_)
  refine lv_iload_n hx hb dX10_number_26 rfl (lv_at hl 5 rfl) ?_
  refine lv_iload hx hb dX10_number_27 (lv_at hl 1 rfl) ?_
  refine lv_iadd hx hb dX10_number_29 ?_
  refine lv_topi (fun v13 ev13 => ?_)
  have ev13 : v13 = 10 := ev13.trans (by decide +kernel)
  subst ev13
  refine lv_aload_n hx hb dX10_number_30 rfl (lv_at hl 4 rfl) ?_
  refine va_get (D := D) (ci := 4) (v := .int 0) (C := RX0) (T := TX0) (N := 3) hx hb hts (by decide +kernel) hown hK hP 0 rfl rfl 2 (by decide) (hts (.fieldLink RX10 17 "SignetRing$Span" "size" "I") (by decide +kernel)) (fun _ h9 => h9) rfl dX10_number_31 ?_
  refine lv_icmp_ge (tgt := 56) hx hb dX10_number_34 (by decide) (fun _ => ?_) (fun c9 => absurd (by decide) c9)
  refine lv_iconst (v := 0) hx hb dX10_number_56 (by decide) ?_
  refine lv_istore (lv' := [(7, .int 0), (6, .int 10), (5, .int 2), (3, .long 0), (0, .ref h0), (1, .int 8), (2, .int 4)]) hx hb dX10_number_57 hl (by decide) rfl (fun ls hl => ?_)
  refine lv_lload_n hx hb dX10_number_59 rfl (lv_at hl 3 rfl) ?_
  refine lv_bipush (v := 8) hx hb dX10_number_60 (by decide) ?_
  refine lv_lshl hx hb dX10_number_62 rfl ?_
  refine lv_topl (fun v14 ev14 => ?_)
  have ev14 : v14 = 0 := ev14.trans (by decide +kernel)
  subst ev14
  refine lv_iload hx hb dX10_number_63 (lv_at hl 0 rfl) ?_
  refine lv_if_eq (tgt := 82) hx hb dX10_number_65 (by decide) (fun _ => ?_) (fun c9 => absurd (by decide) c9)
  refine lv_iconst (v := 0) hx hb dX10_number_82 (by decide) ?_
  refine lv_i2l (v := 0) hx hb dX10_number_83 (by decide +kernel) ?_
  refine lv_lor hx hb dX10_number_84 ?_
  refine lv_topl (fun v15 ev15 => ?_)
  have ev15 : v15 = 0 := ev15.trans (by decide +kernel)
  subst ev15
  refine lv_lstore_n (lv' := [(3, .long 0), (7, .int 0), (6, .int 10), (5, .int 2), (0, .ref h0), (1, .int 8), (2, .int 4)]) hx hb dX10_number_85 rfl hl (by decide) rfl (fun ls hl => ?_)
  refine lv_iinc (v := 3) (lv' := [(5, .int 3), (3, .long 0), (7, .int 0), (6, .int 10), (0, .ref h0), (1, .int 8), (2, .int 4)]) hx hb dX10_number_86 hl (k := 3) rfl (by decide) (by decide) rfl (fun ls hl => ?_)
  refine lv_goto (tgt := 5) hx hb dX10_number_89 (by decide) ?_
  refine lv_iload hx hb dX10_number_5 (lv_at hl 0 rfl) ?_
  refine lv_iload_n hx hb dX10_number_7 rfl (lv_at hl 6 rfl) ?_
  refine lv_icmp_ge (tgt := 92) hx hb dX10_number_8 (by decide) (fun c9 => absurd c9 (by decide)) (fun _ => ?_)
  refine lv_aload_n hx hb dX10_number_11 rfl (lv_at hl 4 rfl) ?_
  refine va_get (D := D) (ci := 4) (v := .int 0) (C := RX0) (T := TX0) (N := 3) hx hb hts (by decide +kernel) hown hK hP 0 rfl rfl 1 (by decide) (hts (.fieldLink RX10 13 "SignetRing$Span" "from" "I") (by decide +kernel)) (fun _ h9 => h9) rfl dX10_number_12 ?_
  refine lv_iload_n hx hb dX10_number_15 rfl (lv_at hl 5 rfl) ?_
  refine lv_iadd hx hb dX10_number_16 ?_
  refine lv_topi (fun v16 ev16 => ?_)
  have ev16 : v16 = 8 := ev16.trans (by decide +kernel)
  subst ev16
  refine lv_iload hx hb dX10_number_17 (lv_at hl 0 rfl) ?_
  refine lv_iadd hx hb dX10_number_19 ?_
  refine lv_topi (fun v17 ev17 => ?_)
  have ev17 : v17 = 11 := ev17.trans (by decide +kernel)
  subst ev17
  refine lv_istore (lv' := [(6, .int 11), (5, .int 3), (3, .long 0), (7, .int 0), (0, .ref h0), (1, .int 8), (2, .int 4)]) hx hb dX10_number_20 hl (by decide) rfl (fun ls hl => ?_)
  refine lv_iload_n hx hb dX10_number_22 rfl (lv_at hl 5 rfl) ?_
  refine lv_if_lt (tgt := 56) hx hb dX10_number_23 (by decide) (fun c9 => absurd c9 (by decide)) (fun _ => ?_)
  refine lv_iload_n hx hb dX10_number_26 rfl (lv_at hl 5 rfl) ?_
  refine lv_iload hx hb dX10_number_27 (lv_at hl 1 rfl) ?_
  refine lv_iadd hx hb dX10_number_29 ?_
  refine lv_topi (fun v18 ev18 => ?_)
  have ev18 : v18 = 11 := ev18.trans (by decide +kernel)
  subst ev18
  refine lv_aload_n hx hb dX10_number_30 rfl (lv_at hl 4 rfl) ?_
  refine va_get (D := D) (ci := 4) (v := .int 0) (C := RX0) (T := TX0) (N := 3) hx hb hts (by decide +kernel) hown hK hP 0 rfl rfl 2 (by decide) (hts (.fieldLink RX10 17 "SignetRing$Span" "size" "I") (by decide +kernel)) (fun _ h9 => h9) rfl dX10_number_31 ?_
  refine lv_icmp_ge (tgt := 56) hx hb dX10_number_34 (by decide) (fun _ => ?_) (fun c9 => absurd (by decide) c9)
  refine lv_iconst (v := 0) hx hb dX10_number_56 (by decide) ?_
  refine lv_istore (lv' := [(7, .int 0), (6, .int 11), (5, .int 3), (3, .long 0), (0, .ref h0), (1, .int 8), (2, .int 4)]) hx hb dX10_number_57 hl (by decide) rfl (fun ls hl => ?_)
  refine lv_lload_n hx hb dX10_number_59 rfl (lv_at hl 3 rfl) ?_
  refine lv_bipush (v := 8) hx hb dX10_number_60 (by decide) ?_
  refine lv_lshl hx hb dX10_number_62 rfl ?_
  refine lv_topl (fun v19 ev19 => ?_)
  have ev19 : v19 = 0 := ev19.trans (by decide +kernel)
  subst ev19
  refine lv_iload hx hb dX10_number_63 (lv_at hl 0 rfl) ?_
  refine lv_if_eq (tgt := 82) hx hb dX10_number_65 (by decide) (fun _ => ?_) (fun c9 => absurd (by decide) c9)
  refine lv_iconst (v := 0) hx hb dX10_number_82 (by decide) ?_
  refine lv_i2l (v := 0) hx hb dX10_number_83 (by decide +kernel) ?_
  refine lv_lor hx hb dX10_number_84 ?_
  refine lv_topl (fun v20 ev20 => ?_)
  have ev20 : v20 = 0 := ev20.trans (by decide +kernel)
  subst ev20
  refine lv_lstore_n (lv' := [(3, .long 0), (7, .int 0), (6, .int 11), (5, .int 3), (0, .ref h0), (1, .int 8), (2, .int 4)]) hx hb dX10_number_85 rfl hl (by decide) rfl (fun ls hl => ?_)
  refine lv_iinc (v := 4) (lv' := [(5, .int 4), (3, .long 0), (7, .int 0), (6, .int 11), (0, .ref h0), (1, .int 8), (2, .int 4)]) hx hb dX10_number_86 hl (k := 3) rfl (by decide) (by decide) rfl (fun ls hl => ?_)
  refine lv_goto (tgt := 5) hx hb dX10_number_89 (by decide) ?_
  refine lv_iload hx hb dX10_number_5 (lv_at hl 0 rfl) ?_
  refine lv_iload_n hx hb dX10_number_7 rfl (lv_at hl 6 rfl) ?_
  refine lv_icmp_ge (tgt := 92) hx hb dX10_number_8 (by decide) (fun _ => ?_) (fun c9 => absurd (by decide) c9)
  refine lv_lload_n hx hb dX10_number_92 rfl (lv_at hl 1 rfl) ?_
  have hP9 := hP.sub (ws' := [(h0, .inr (4, [w1, .int 0, .int 0]))]) [0] rfl
  have hD9 := hD.sub (ws' := [(h0, .inr (4, [w1, .int 0, .int 0]))]) [0] (by decide) rfl
  refine W.widen (k := 0) (n := 0) (Nat.le_of_ble_eq_true rfl) (Nat.le_of_ble_eq_true rfl) ?_
  exact W.lret (v := 0) hx hb hr (fun t ht hW => ⟨⟨0, (), rfl, rfl, by rw [ht]; exact hP9, hD9⟩, hS.F ht⟩) hS.2.2 dX10_number_93
def wz_c_X1_wordOf_8 : List Cond := .code yX1_wordOf cX1_wordOf 4 (some .int) :: ([.methodLink RX1 44 ⟨"SignetRing$Span", "number", "(II)J"⟩, .sameMethod "SignetRing$Span" "SignetRing$Span" "number" "(II)J", .selects RX0 ⟨"SignetRing$Span", "number", "(II)J"⟩ yX10_number, .instanceMethod yX10_number, .initialized RX10, .fieldLink RX1 28 "SignetRing$Span" "size" "I"] ++ (wsX00 ++ (wz_c_num4_8 ++ ([]))))
set_option maxRecDepth 100000 in
theorem gz_c_X1_wordOf_8_c_num4_8 : GoodIn wz_c_X1_wordOf_8 wz_c_num4_8 := goodIn_sub (fun w h => List.mem_cons_of_mem _ (List.mem_append_right _ (List.mem_append_right _ (List.mem_append_left _ h)))) (by decide +kernel)
set_option maxRecDepth 100000 in
theorem gv_c_X1_wordOf_8_c_num4_8_44 : GoodIn wz_c_X1_wordOf_8 (va_wsU RX1 44 RX0 "SignetRing$Span" ⟨"SignetRing$Span", "number", "(II)J"⟩ yX10_number wz_c_num4_8) := goodIn_app (goodIn_of _ (by decide +kernel)) gz_c_X1_wordOf_8_c_num4_8
set_option maxHeartbeats 4000000 in
set_option maxRecDepth 100000 in
theorem c_X1_wordOf_8 (l : Launch) (D : va_G) (y : Nat → ClassId) (sz : Nat) (h0 : Nat) (w1 : Value) : Met l yX1_wordOf wz_c_X1_wordOf_8 ({ frames := 1, cells := 0, slots := 0, locals := 27 }) (va_Pc [.ref h0, .int 8] (zB D y [(h0, .inr (4, [w1, .int 0, .int 0]))] sz [] [] [] [])) (va_Qi (fun (r : Int32) (_ : Unit) => r = 0) (fun _ t => va_P D vwCl [(h0, .inr (4, [w1, .int 0, .int 0]))] t.heap ∧ va_D (va_A [(h0, .inr (4, [w1, .int 0, .int 0]))] sz) [(h0, .inr (4, [w1, .int 0, .int 0]))]) (va_A [(h0, .inr (4, [w1, .int 0, .int 0]))] sz)) 0 0 (va_A [(h0, .inr (4, [w1, .int 0, .int 0]))] sz) := by
  refine Met.ofW (cc := cX1_wordOf) (maxL := 4) (ret := (some .int)) (by decide) rfl ?_
  intro p e s m args below meth c s₁ B hml hv
  obtain ⟨rfl, hsz, hP, hK, hD0, hN, hE, hO, hT, hG⟩ := hv
  have hx := B.exec
  have hb := B.bytes
  have hr := B.returns
  have hts := atoms_spec (ws := wz_c_X1_wordOf_8) B.pre
  have hown : s.vm.findClass RX1 = some m.cls := findClass_of_methodNamed B.named
  have hlocks := B.notSynchronized
  subst hsz
  have hD := hD0.self (sz := s.heap.size)
  generalize hAe : va_A [(h0, .inr (4, [w1, .int 0, .int 0]))] s.heap.size = A at hD hE hT hG ⊢
  have hA : ∀ q : Nat, s.heap.size ≤ q → A q := fun q h => by rw [← hAe]; exact Or.inr h
  have hS : va_S A s.heap s.heap [] := va_S.rf
  have hl := lv_entry ([.ref h0, .int 8]) (n := 4) (Nat.le_of_ble_eq_true rfl)
  rw [lg_entry_eq]
  generalize (lg_sl ([.ref h0, .int 8]) ++ List.replicate (4 - (lg_sl ([.ref h0, .int 8])).length) Slot.unset).toArray = ls at hl ⊢
  have hl : lv_has ls 4 [(0, .ref h0), (1, .int 8)] := hl
  refine lv_aload_n hx hb dX1_wordOf_0 rfl (lv_at hl 0 rfl) ?_
  refine lv_iload_n hx hb dX1_wordOf_1 rfl (lv_at hl 1 rfl) ?_
  refine lv_iconst (v := 4) hx hb dX1_wordOf_2 (by decide) ?_
  have hPc := hP.sub (ws' := [(h0, .inr (4, [w1, .int 0, .int 0]))]) [0] rfl
  have hDc := hD.sub (ws' := [(h0, .inr (4, [w1, .int 0, .int 0]))]) [0] (by decide) rfl
  have hFc := va_free (wc := [(h0, .inr (4, [w1, .int 0, .int 0]))]) hD hS hA [0] rfl
  refine va_calll (va_runU (As := [.int 8, .int 4]) (rest := []) ⟨hx, hb, hml, hown, hts⟩ (c_num4_8 l D y s.heap.size h0 w1) (va_cwU 2 hts gv_c_X1_wordOf_8_c_num4_8_44 rfl rfl rfl rfl (by decide +kernel) ⟨(Nat.le_of_ble_eq_true rfl), (Nat.le_of_ble_eq_true rfl)⟩) (zB.preV hPc hDc hK hN hE hO hT hG hS hFc (fun _ h => nomatch h) (fun _ h => nomatch h) (fun _ h => nomatch h) (fun _ h => nomatch h) (va_recv hK hPc (ci := 4) (q0 := 0) rfl rfl)) rfl rfl hl.1 rfl (lv_room (Nat.le_of_ble_eq_true rfl)) dX1_wordOf_3 ⟨(Nat.le_of_ble_eq_true rfl), (Nat.le_of_ble_eq_true rfl)⟩) hS (fun q _ h => hFc q h) hFc (fun r1 u t H1 locs ht hvm hw hB hz1 hk1 hS => ?_)
  obtain ⟨hP1, hD1⟩ := hB
  rw [ht] at hP1
  obtain ⟨hP, hD⟩ := va_join (wr := []) (w1 := [(h0, .inr (4, [w1, .int 0, .int 0]))]) hP hD [0] [] rfl rfl (by decide) (by decide) hk1 hFc hP1 hD1
  generalize H1 = H at hP hS ⊢
  have hP : va_P D vwCl [(h0, .inr (4, [w1, .int 0, .int 0]))] H := hP
  have hD : va_D A [(h0, .inr (4, [w1, .int 0, .int 0]))] := hD
  have hw : r1 = 0 := hw
  subst hw
  refine lv_l2i (v := 0) hx hb dX1_wordOf_6 (by decide +kernel) ?_
  refine lv_istore_n (lv' := [(2, .int 0), (0, .ref h0), (1, .int 8)]) hx hb dX1_wordOf_7 rfl hl (by decide) rfl (fun ls hl => ?_)
  refine lv_aload_n hx hb dX1_wordOf_8 rfl (lv_at hl 1 rfl) ?_
  refine va_get (D := D) (ci := 4) (v := .int 0) (C := RX0) (T := TX0) (N := 3) hx hb hts (by decide +kernel) hown hK hP 0 rfl rfl 2 (by decide) (hts (.fieldLink RX1 28 "SignetRing$Span" "size" "I") (by decide +kernel)) (fun _ h9 => h9) rfl dX1_wordOf_9 ?_
  refine lv_iload_n hx hb dX1_wordOf_12 rfl (lv_at hl 2 rfl) ?_
  refine lv_isub hx hb dX1_wordOf_13 ?_
  refine lv_topi (fun v2 ev2 => ?_)
  have ev2 : v2 = -8 := ev2.trans (by decide +kernel)
  subst ev2
  refine lv_istore_n (lv' := [(3, .int (-8)), (2, .int 0), (0, .ref h0), (1, .int 8)]) hx hb dX1_wordOf_14 rfl hl (by decide) rfl (fun ls hl => ?_)
  refine lv_iload_n hx hb dX1_wordOf_15 rfl (lv_at hl 0 rfl) ?_
  refine lv_if_lt (tgt := 40) hx hb dX1_wordOf_16 (by decide) (fun _ => ?_) (fun c9 => absurd (by decide) c9)
  refine lv_iload_n hx hb dX1_wordOf_40 rfl (lv_at hl 1 rfl) ?_
  have hP9 := hP.sub (ws' := [(h0, .inr (4, [w1, .int 0, .int 0]))]) [0] rfl
  have hD9 := hD.sub (ws' := [(h0, .inr (4, [w1, .int 0, .int 0]))]) [0] (by decide) rfl
  refine W.widen (k := 0) (n := 0) (Nat.le_of_ble_eq_true rfl) (Nat.le_of_ble_eq_true rfl) ?_
  exact W.iret (v := 0) hx hb hr (fun t ht hW => ⟨⟨0, (), rfl, rfl, by rw [ht]; exact hP9, hD9⟩, hS.F ht⟩) hS.2.2 dX1_wordOf_41
def wz_c_num4_12 : List Cond := .code yX10_number cX10_number 8 (some .long) :: ([.fieldLink RX10 13 "SignetRing$Span" "from" "I", .fieldLink RX10 17 "SignetRing$Span" "size" "I"] ++ (wsX00 ++ ([])))
set_option maxHeartbeats 4000000 in
set_option maxRecDepth 100000 in
theorem c_num4_12 (l : Launch) (D : va_G) (y : Nat → ClassId) (sz : Nat) (h0 : Nat) (w1 : Value) : Met l yX10_number wz_c_num4_12 ({ frames := 0, cells := 0, slots := 0, locals := 0 }) (va_Pc [.ref h0, .int 12, .int 4] (zB D y [(h0, .inr (4, [w1, .int 0, .int 0]))] sz [] [] [] [])) (va_Ql (fun (r : Int64) (_ : Unit) => r = 0) (fun _ t => va_P D vwCl [(h0, .inr (4, [w1, .int 0, .int 0]))] t.heap ∧ va_D (va_A [(h0, .inr (4, [w1, .int 0, .int 0]))] sz) [(h0, .inr (4, [w1, .int 0, .int 0]))]) (va_A [(h0, .inr (4, [w1, .int 0, .int 0]))] sz)) 0 0 (va_A [(h0, .inr (4, [w1, .int 0, .int 0]))] sz) := by
  refine Met.ofW (cc := cX10_number) (maxL := 8) (ret := (some .long)) (by decide) rfl ?_
  intro p e s m args below meth c s₁ B hml hv
  obtain ⟨rfl, hsz, hP, hK, hD0, hN, hE, hO, hT, hG⟩ := hv
  have hx := B.exec
  have hb := B.bytes
  have hr := B.returns
  have hts := atoms_spec (ws := wz_c_num4_12) B.pre
  have hown : s.vm.findClass RX10 = some m.cls := findClass_of_methodNamed B.named
  have hlocks := B.notSynchronized
  subst hsz
  have hD := hD0.self (sz := s.heap.size)
  generalize hAe : va_A [(h0, .inr (4, [w1, .int 0, .int 0]))] s.heap.size = A at hD hE hT hG ⊢
  have hA : ∀ q : Nat, s.heap.size ≤ q → A q := fun q h => by rw [← hAe]; exact Or.inr h
  have hS : va_S A s.heap s.heap [] := va_S.rf
  have hl := lv_entry ([.ref h0, .int 12, .int 4]) (n := 8) (Nat.le_of_ble_eq_true rfl)
  rw [lg_entry_eq]
  generalize (lg_sl ([.ref h0, .int 12, .int 4]) ++ List.replicate (8 - (lg_sl ([.ref h0, .int 12, .int 4])).length) Slot.unset).toArray = ls at hl ⊢
  have hl : lv_has ls 8 [(0, .ref h0), (1, .int 12), (2, .int 4)] := hl
  refine lv_lconst (v := 0) hx hb dX10_number_0 (by decide) ?_
  refine lv_lstore_n (lv' := [(3, .long 0), (0, .ref h0), (1, .int 12), (2, .int 4)]) hx hb dX10_number_1 rfl hl (by decide) rfl (fun ls hl => ?_)
  refine lv_iconst (v := 0) hx hb dX10_number_2 (by decide) ?_
  refine lv_istore (lv' := [(5, .int 0), (3, .long 0), (0, .ref h0), (1, .int 12), (2, .int 4)]) hx hb dX10_number_3 hl (by decide) rfl (fun ls hl => ?_)
  refine lv_iload hx hb dX10_number_5 (lv_at hl 0 rfl) ?_
  refine lv_iload_n hx hb dX10_number_7 rfl (lv_at hl 4 rfl) ?_
  refine lv_icmp_ge (tgt := 92) hx hb dX10_number_8 (by decide) (fun c9 => absurd c9 (by decide)) (fun _ => ?_)
  refine lv_aload_n hx hb dX10_number_11 rfl (lv_at hl 2 rfl) ?_
  refine va_get (D := D) (ci := 4) (v := .int 0) (C := RX0) (T := TX0) (N := 3) hx hb hts (by decide +kernel) hown hK hP 0 rfl rfl 1 (by decide) (hts (.fieldLink RX10 13 "SignetRing$Span" "from" "I") (by decide +kernel)) (fun _ h9 => h9) rfl dX10_number_12 ?_
  refine lv_iload_n hx hb dX10_number_15 rfl (lv_at hl 3 rfl) ?_
  refine lv_iadd hx hb dX10_number_16 ?_
  refine lv_topi (fun v1 ev1 => ?_)
  have ev1 : v1 = 12 := ev1.trans (by decide +kernel)
  subst ev1
  refine lv_iload hx hb dX10_number_17 (lv_at hl 0 rfl) ?_
  refine lv_iadd hx hb dX10_number_19 ?_
  refine lv_topi (fun v2 ev2 => ?_)
  have ev2 : v2 = 12 := ev2.trans (by decide +kernel)
  subst ev2
  refine lv_istore (lv' := [(6, .int 12), (5, .int 0), (3, .long 0), (0, .ref h0), (1, .int 12), (2, .int 4)]) hx hb dX10_number_20 hl (by decide) rfl (fun ls hl => ?_)
  refine lv_iload_n hx hb dX10_number_22 rfl (lv_at hl 4 rfl) ?_
  refine lv_if_lt (tgt := 56) hx hb dX10_number_23 (by decide) (fun c9 => absurd c9 (by decide)) (fun _ => ?_)
  refine lv_iload_n hx hb dX10_number_26 rfl (lv_at hl 4 rfl) ?_
  refine lv_iload hx hb dX10_number_27 (lv_at hl 1 rfl) ?_
  refine lv_iadd hx hb dX10_number_29 ?_
  refine lv_topi (fun v3 ev3 => ?_)
  have ev3 : v3 = 12 := ev3.trans (by decide +kernel)
  subst ev3
  refine lv_aload_n hx hb dX10_number_30 rfl (lv_at hl 3 rfl) ?_
  refine va_get (D := D) (ci := 4) (v := .int 0) (C := RX0) (T := TX0) (N := 3) hx hb hts (by decide +kernel) hown hK hP 0 rfl rfl 2 (by decide) (hts (.fieldLink RX10 17 "SignetRing$Span" "size" "I") (by decide +kernel)) (fun _ h9 => h9) rfl dX10_number_31 ?_
  refine lv_icmp_ge (tgt := 56) hx hb dX10_number_34 (by decide) (fun _ => ?_) (fun c9 => absurd (by decide) c9)
  refine lv_iconst (v := 0) hx hb dX10_number_56 (by decide) ?_
  refine lv_istore (lv' := [(7, .int 0), (6, .int 12), (5, .int 0), (3, .long 0), (0, .ref h0), (1, .int 12), (2, .int 4)]) hx hb dX10_number_57 hl (by decide) rfl (fun ls hl => ?_)
  refine lv_lload_n hx hb dX10_number_59 rfl (lv_at hl 3 rfl) ?_
  refine lv_bipush (v := 8) hx hb dX10_number_60 (by decide) ?_
  refine lv_lshl hx hb dX10_number_62 rfl ?_
  refine lv_topl (fun v4 ev4 => ?_)
  have ev4 : v4 = 0 := ev4.trans (by decide +kernel)
  subst ev4
  refine lv_iload hx hb dX10_number_63 (lv_at hl 0 rfl) ?_
  refine lv_if_eq (tgt := 82) hx hb dX10_number_65 (by decide) (fun _ => ?_) (fun c9 => absurd (by decide) c9)
  refine lv_iconst (v := 0) hx hb dX10_number_82 (by decide) ?_
  refine lv_i2l (v := 0) hx hb dX10_number_83 (by decide +kernel) ?_
  refine lv_lor hx hb dX10_number_84 ?_
  refine lv_topl (fun v5 ev5 => ?_)
  have ev5 : v5 = 0 := ev5.trans (by decide +kernel)
  subst ev5
  refine lv_lstore_n (lv' := [(3, .long 0), (7, .int 0), (6, .int 12), (5, .int 0), (0, .ref h0), (1, .int 12), (2, .int 4)]) hx hb dX10_number_85 rfl hl (by decide) rfl (fun ls hl => ?_)
  refine lv_iinc (v := 1) (lv' := [(5, .int 1), (3, .long 0), (7, .int 0), (6, .int 12), (0, .ref h0), (1, .int 12), (2, .int 4)]) hx hb dX10_number_86 hl (k := 3) rfl (by decide) (by decide) rfl (fun ls hl => ?_)
  refine lv_goto (tgt := 5) hx hb dX10_number_89 (by decide) ?_
  refine lv_iload hx hb dX10_number_5 (lv_at hl 0 rfl) ?_
  refine lv_iload_n hx hb dX10_number_7 rfl (lv_at hl 6 rfl) ?_
  refine lv_icmp_ge (tgt := 92) hx hb dX10_number_8 (by decide) (fun c9 => absurd c9 (by decide)) (fun _ => ?_)
  refine lv_aload_n hx hb dX10_number_11 rfl (lv_at hl 4 rfl) ?_
  refine va_get (D := D) (ci := 4) (v := .int 0) (C := RX0) (T := TX0) (N := 3) hx hb hts (by decide +kernel) hown hK hP 0 rfl rfl 1 (by decide) (hts (.fieldLink RX10 13 "SignetRing$Span" "from" "I") (by decide +kernel)) (fun _ h9 => h9) rfl dX10_number_12 ?_
  refine lv_iload_n hx hb dX10_number_15 rfl (lv_at hl 5 rfl) ?_
  refine lv_iadd hx hb dX10_number_16 ?_
  refine lv_topi (fun v6 ev6 => ?_)
  have ev6 : v6 = 12 := ev6.trans (by decide +kernel)
  subst ev6
  refine lv_iload hx hb dX10_number_17 (lv_at hl 0 rfl) ?_
  refine lv_iadd hx hb dX10_number_19 ?_
  refine lv_topi (fun v7 ev7 => ?_)
  have ev7 : v7 = 13 := ev7.trans (by decide +kernel)
  subst ev7
  refine lv_istore (lv' := [(6, .int 13), (5, .int 1), (3, .long 0), (7, .int 0), (0, .ref h0), (1, .int 12), (2, .int 4)]) hx hb dX10_number_20 hl (by decide) rfl (fun ls hl => ?_)
  refine lv_iload_n hx hb dX10_number_22 rfl (lv_at hl 5 rfl) ?_
  refine lv_if_lt (tgt := 56) hx hb dX10_number_23 (by decide) (fun c9 => absurd c9 (by decide)) (fun _ => ?_)
  refine lv_iload_n hx hb dX10_number_26 rfl (lv_at hl 5 rfl) ?_
  refine lv_iload hx hb dX10_number_27 (lv_at hl 1 rfl) ?_
  refine lv_iadd hx hb dX10_number_29 ?_
  refine lv_topi (fun v8 ev8 => ?_)
  have ev8 : v8 = 13 := ev8.trans (by decide +kernel)
  subst ev8
  refine lv_aload_n hx hb dX10_number_30 rfl (lv_at hl 4 rfl) ?_
  refine va_get (D := D) (ci := 4) (v := .int 0) (C := RX0) (T := TX0) (N := 3) hx hb hts (by decide +kernel) hown hK hP 0 rfl rfl 2 (by decide) (hts (.fieldLink RX10 17 "SignetRing$Span" "size" "I") (by decide +kernel)) (fun _ h9 => h9) rfl dX10_number_31 ?_
  refine lv_icmp_ge (tgt := 56) hx hb dX10_number_34 (by decide) (fun _ => ?_) (fun c9 => absurd (by decide) c9)
  refine lv_iconst (v := 0) hx hb dX10_number_56 (by decide) ?_
  refine lv_istore (lv' := [(7, .int 0), (6, .int 13), (5, .int 1), (3, .long 0), (0, .ref h0), (1, .int 12), (2, .int 4)]) hx hb dX10_number_57 hl (by decide) rfl (fun ls hl => ?_)
  refine lv_lload_n hx hb dX10_number_59 rfl (lv_at hl 3 rfl) ?_
  refine lv_bipush (v := 8) hx hb dX10_number_60 (by decide) ?_
  refine lv_lshl hx hb dX10_number_62 rfl ?_
  refine lv_topl (fun v9 ev9 => ?_)
  have ev9 : v9 = 0 := ev9.trans (by decide +kernel)
  subst ev9
  refine lv_iload hx hb dX10_number_63 (lv_at hl 0 rfl) ?_
  refine lv_if_eq (tgt := 82) hx hb dX10_number_65 (by decide) (fun _ => ?_) (fun c9 => absurd (by decide) c9)
  refine lv_iconst (v := 0) hx hb dX10_number_82 (by decide) ?_
  refine lv_i2l (v := 0) hx hb dX10_number_83 (by decide +kernel) ?_
  refine lv_lor hx hb dX10_number_84 ?_
  refine lv_topl (fun v10 ev10 => ?_)
  have ev10 : v10 = 0 := ev10.trans (by decide +kernel)
  subst ev10
  refine lv_lstore_n (lv' := [(3, .long 0), (7, .int 0), (6, .int 13), (5, .int 1), (0, .ref h0), (1, .int 12), (2, .int 4)]) hx hb dX10_number_85 rfl hl (by decide) rfl (fun ls hl => ?_)
  refine lv_iinc (v := 2) (lv' := [(5, .int 2), (3, .long 0), (7, .int 0), (6, .int 13), (0, .ref h0), (1, .int 12), (2, .int 4)]) hx hb dX10_number_86 hl (k := 3) rfl (by decide) (by decide) rfl (fun ls hl => ?_)
  refine lv_goto (tgt := 5) hx hb dX10_number_89 (by decide) ?_
  refine lv_iload hx hb dX10_number_5 (lv_at hl 0 rfl) ?_
  refine lv_iload_n hx hb dX10_number_7 rfl (lv_at hl 6 rfl) ?_
  refine lv_icmp_ge (tgt := 92) hx hb dX10_number_8 (by decide) (fun c9 => absurd c9 (by decide)) (fun _ => ?_)
  refine lv_aload_n hx hb dX10_number_11 rfl (lv_at hl 4 rfl) ?_
  refine va_get (D := D) (ci := 4) (v := .int 0) (C := RX0) (T := TX0) (N := 3) hx hb hts (by decide +kernel) hown hK hP 0 rfl rfl 1 (by decide) (hts (.fieldLink RX10 13 "SignetRing$Span" "from" "I") (by decide +kernel)) (fun _ h9 => h9) rfl dX10_number_12 ?_
  refine lv_iload_n hx hb dX10_number_15 rfl (lv_at hl 5 rfl) ?_
  refine lv_iadd hx hb dX10_number_16 ?_
  refine lv_topi (fun v11 ev11 => ?_)
  have ev11 : v11 = 12 := ev11.trans (by decide +kernel)
  subst ev11
  refine lv_iload hx hb dX10_number_17 (lv_at hl 0 rfl) ?_
  refine lv_iadd hx hb dX10_number_19 ?_
  refine lv_topi (fun v12 ev12 => ?_)
  have ev12 : v12 = 14 := ev12.trans (by decide +kernel)
  subst ev12
  refine lv_istore (lv' := [(6, .int 14), (5, .int 2), (3, .long 0), (7, .int 0), (0, .ref h0), (1, .int 12), (2, .int 4)]) hx hb dX10_number_20 hl (by decide) rfl (fun ls hl => ?_)
  refine lv_iload_n hx hb dX10_number_22 rfl (lv_at hl 5 rfl) ?_
  refine lv_if_lt (tgt := 56) hx hb dX10_number_23 (by decide) (fun c9 => absurd c9 (by decide)) (fun _ => ?_)
  refine lv_iload_n hx hb dX10_number_26 rfl (lv_at hl 5 rfl) ?_
  refine lv_iload hx hb dX10_number_27 (lv_at hl 1 rfl) ?_
  refine lv_iadd hx hb dX10_number_29 ?_
  refine lv_topi (fun v13 ev13 => ?_)
  have ev13 : v13 = 14 := ev13.trans (by decide +kernel)
  subst ev13
  refine lv_aload_n hx hb dX10_number_30 rfl (lv_at hl 4 rfl) ?_
  refine va_get (D := D) (ci := 4) (v := .int 0) (C := RX0) (T := TX0) (N := 3) hx hb hts (by decide +kernel) hown hK hP 0 rfl rfl 2 (by decide) (hts (.fieldLink RX10 17 "SignetRing$Span" "size" "I") (by decide +kernel)) (fun _ h9 => h9) rfl dX10_number_31 ?_
  refine lv_icmp_ge (tgt := 56) hx hb dX10_number_34 (by decide) (fun _ => ?_) (fun c9 => absurd (by decide) c9)
  refine lv_iconst (v := 0) hx hb dX10_number_56 (by decide) ?_
  refine lv_istore (lv' := [(7, .int 0), (6, .int 14), (5, .int 2), (3, .long 0), (0, .ref h0), (1, .int 12), (2, .int 4)]) hx hb dX10_number_57 hl (by decide) rfl (fun ls hl => ?_)
  refine lv_lload_n hx hb dX10_number_59 rfl (lv_at hl 3 rfl) ?_
  refine lv_bipush (v := 8) hx hb dX10_number_60 (by decide) ?_
  refine lv_lshl hx hb dX10_number_62 rfl ?_
  refine lv_topl (fun v14 ev14 => ?_)
  have ev14 : v14 = 0 := ev14.trans (by decide +kernel)
  subst ev14
  refine lv_iload hx hb dX10_number_63 (lv_at hl 0 rfl) ?_
  refine lv_if_eq (tgt := 82) hx hb dX10_number_65 (by decide) (fun _ => ?_) (fun c9 => absurd (by decide) c9)
  refine lv_iconst (v := 0) hx hb dX10_number_82 (by decide) ?_
  refine lv_i2l (v := 0) hx hb dX10_number_83 (by decide +kernel) ?_
  refine lv_lor hx hb dX10_number_84 ?_
  refine lv_topl (fun v15 ev15 => ?_)
  have ev15 : v15 = 0 := ev15.trans (by decide +kernel)
  subst ev15
  refine lv_lstore_n (lv' := [(3, .long 0), (7, .int 0), (6, .int 14), (5, .int 2), (0, .ref h0), (1, .int 12), (2, .int 4)]) hx hb dX10_number_85 rfl hl (by decide) rfl (fun ls hl => ?_)
  refine lv_iinc (v := 3) (lv' := [(5, .int 3), (3, .long 0), (7, .int 0), (6, .int 14), (0, .ref h0), (1, .int 12), (2, .int 4)]) hx hb dX10_number_86 hl (k := 3) rfl (by decide) (by decide) rfl (fun ls hl => ?_)
  refine lv_goto (tgt := 5) hx hb dX10_number_89 (by decide) ?_
  refine lv_iload hx hb dX10_number_5 (lv_at hl 0 rfl) ?_
  refine lv_iload_n hx hb dX10_number_7 rfl (lv_at hl 6 rfl) ?_
  refine lv_icmp_ge (tgt := 92) hx hb dX10_number_8 (by decide) (fun c9 => absurd c9 (by decide)) (fun _ => ?_)
  refine lv_aload_n hx hb dX10_number_11 rfl (lv_at hl 4 rfl) ?_
  refine va_get (D := D) (ci := 4) (v := .int 0) (C := RX0) (T := TX0) (N := 3) hx hb hts (by decide +kernel) hown hK hP 0 rfl rfl 1 (by decide) (hts (.fieldLink RX10 13 "SignetRing$Span" "from" "I") (by decide +kernel)) (fun _ h9 => h9) rfl dX10_number_12 ?_
  refine lv_iload_n hx hb dX10_number_15 rfl (lv_at hl 5 rfl) ?_
  refine lv_iadd hx hb dX10_number_16 ?_
  refine lv_topi (fun v16 ev16 => ?_)
  have ev16 : v16 = 12 := ev16.trans (by decide +kernel)
  subst ev16
  refine lv_iload hx hb dX10_number_17 (lv_at hl 0 rfl) ?_
  refine lv_iadd hx hb dX10_number_19 ?_
  refine lv_topi (fun v17 ev17 => ?_)
  have ev17 : v17 = 15 := ev17.trans (by decide +kernel)
  subst ev17
  refine lv_istore (lv' := [(6, .int 15), (5, .int 3), (3, .long 0), (7, .int 0), (0, .ref h0), (1, .int 12), (2, .int 4)]) hx hb dX10_number_20 hl (by decide) rfl (fun ls hl => ?_)
  refine lv_iload_n hx hb dX10_number_22 rfl (lv_at hl 5 rfl) ?_
  refine lv_if_lt (tgt := 56) hx hb dX10_number_23 (by decide) (fun c9 => absurd c9 (by decide)) (fun _ => ?_)
  refine lv_iload_n hx hb dX10_number_26 rfl (lv_at hl 5 rfl) ?_
  refine lv_iload hx hb dX10_number_27 (lv_at hl 1 rfl) ?_
  refine lv_iadd hx hb dX10_number_29 ?_
  refine lv_topi (fun v18 ev18 => ?_)
  have ev18 : v18 = 15 := ev18.trans (by decide +kernel)
  subst ev18
  refine lv_aload_n hx hb dX10_number_30 rfl (lv_at hl 4 rfl) ?_
  refine va_get (D := D) (ci := 4) (v := .int 0) (C := RX0) (T := TX0) (N := 3) hx hb hts (by decide +kernel) hown hK hP 0 rfl rfl 2 (by decide) (hts (.fieldLink RX10 17 "SignetRing$Span" "size" "I") (by decide +kernel)) (fun _ h9 => h9) rfl dX10_number_31 ?_
  refine lv_icmp_ge (tgt := 56) hx hb dX10_number_34 (by decide) (fun _ => ?_) (fun c9 => absurd (by decide) c9)
  refine lv_iconst (v := 0) hx hb dX10_number_56 (by decide) ?_
  refine lv_istore (lv' := [(7, .int 0), (6, .int 15), (5, .int 3), (3, .long 0), (0, .ref h0), (1, .int 12), (2, .int 4)]) hx hb dX10_number_57 hl (by decide) rfl (fun ls hl => ?_)
  refine lv_lload_n hx hb dX10_number_59 rfl (lv_at hl 3 rfl) ?_
  refine lv_bipush (v := 8) hx hb dX10_number_60 (by decide) ?_
  refine lv_lshl hx hb dX10_number_62 rfl ?_
  refine lv_topl (fun v19 ev19 => ?_)
  have ev19 : v19 = 0 := ev19.trans (by decide +kernel)
  subst ev19
  refine lv_iload hx hb dX10_number_63 (lv_at hl 0 rfl) ?_
  refine lv_if_eq (tgt := 82) hx hb dX10_number_65 (by decide) (fun _ => ?_) (fun c9 => absurd (by decide) c9)
  refine lv_iconst (v := 0) hx hb dX10_number_82 (by decide) ?_
  refine lv_i2l (v := 0) hx hb dX10_number_83 (by decide +kernel) ?_
  refine lv_lor hx hb dX10_number_84 ?_
  refine lv_topl (fun v20 ev20 => ?_)
  have ev20 : v20 = 0 := ev20.trans (by decide +kernel)
  subst ev20
  refine lv_lstore_n (lv' := [(3, .long 0), (7, .int 0), (6, .int 15), (5, .int 3), (0, .ref h0), (1, .int 12), (2, .int 4)]) hx hb dX10_number_85 rfl hl (by decide) rfl (fun ls hl => ?_)
  refine lv_iinc (v := 4) (lv' := [(5, .int 4), (3, .long 0), (7, .int 0), (6, .int 15), (0, .ref h0), (1, .int 12), (2, .int 4)]) hx hb dX10_number_86 hl (k := 3) rfl (by decide) (by decide) rfl (fun ls hl => ?_)
  refine lv_goto (tgt := 5) hx hb dX10_number_89 (by decide) ?_
  refine lv_iload hx hb dX10_number_5 (lv_at hl 0 rfl) ?_
  refine lv_iload_n hx hb dX10_number_7 rfl (lv_at hl 6 rfl) ?_
  refine lv_icmp_ge (tgt := 92) hx hb dX10_number_8 (by decide) (fun _ => ?_) (fun c9 => absurd (by decide) c9)
  refine lv_lload_n hx hb dX10_number_92 rfl (lv_at hl 1 rfl) ?_
  have hP9 := hP.sub (ws' := [(h0, .inr (4, [w1, .int 0, .int 0]))]) [0] rfl
  have hD9 := hD.sub (ws' := [(h0, .inr (4, [w1, .int 0, .int 0]))]) [0] (by decide) rfl
  refine W.widen (k := 0) (n := 0) (Nat.le_of_ble_eq_true rfl) (Nat.le_of_ble_eq_true rfl) ?_
  exact W.lret (v := 0) hx hb hr (fun t ht hW => ⟨⟨0, (), rfl, rfl, by rw [ht]; exact hP9, hD9⟩, hS.F ht⟩) hS.2.2 dX10_number_93
def wz_c_X1_wordOf_12 : List Cond := .code yX1_wordOf cX1_wordOf 4 (some .int) :: ([.methodLink RX1 44 ⟨"SignetRing$Span", "number", "(II)J"⟩, .sameMethod "SignetRing$Span" "SignetRing$Span" "number" "(II)J", .selects RX0 ⟨"SignetRing$Span", "number", "(II)J"⟩ yX10_number, .instanceMethod yX10_number, .initialized RX10, .fieldLink RX1 28 "SignetRing$Span" "size" "I"] ++ (wsX00 ++ (wz_c_num4_12 ++ ([]))))
set_option maxRecDepth 100000 in
theorem gz_c_X1_wordOf_12_c_num4_12 : GoodIn wz_c_X1_wordOf_12 wz_c_num4_12 := goodIn_sub (fun w h => List.mem_cons_of_mem _ (List.mem_append_right _ (List.mem_append_right _ (List.mem_append_left _ h)))) (by decide +kernel)
set_option maxRecDepth 100000 in
theorem gv_c_X1_wordOf_12_c_num4_12_44 : GoodIn wz_c_X1_wordOf_12 (va_wsU RX1 44 RX0 "SignetRing$Span" ⟨"SignetRing$Span", "number", "(II)J"⟩ yX10_number wz_c_num4_12) := goodIn_app (goodIn_of _ (by decide +kernel)) gz_c_X1_wordOf_12_c_num4_12
set_option maxHeartbeats 4000000 in
set_option maxRecDepth 100000 in
theorem c_X1_wordOf_12 (l : Launch) (D : va_G) (y : Nat → ClassId) (sz : Nat) (h0 : Nat) (w1 : Value) : Met l yX1_wordOf wz_c_X1_wordOf_12 ({ frames := 1, cells := 0, slots := 0, locals := 27 }) (va_Pc [.ref h0, .int 12] (zB D y [(h0, .inr (4, [w1, .int 0, .int 0]))] sz [] [] [] [])) (va_Qi (fun (r : Int32) (_ : Unit) => r = 0) (fun _ t => va_P D vwCl [(h0, .inr (4, [w1, .int 0, .int 0]))] t.heap ∧ va_D (va_A [(h0, .inr (4, [w1, .int 0, .int 0]))] sz) [(h0, .inr (4, [w1, .int 0, .int 0]))]) (va_A [(h0, .inr (4, [w1, .int 0, .int 0]))] sz)) 0 0 (va_A [(h0, .inr (4, [w1, .int 0, .int 0]))] sz) := by
  refine Met.ofW (cc := cX1_wordOf) (maxL := 4) (ret := (some .int)) (by decide) rfl ?_
  intro p e s m args below meth c s₁ B hml hv
  obtain ⟨rfl, hsz, hP, hK, hD0, hN, hE, hO, hT, hG⟩ := hv
  have hx := B.exec
  have hb := B.bytes
  have hr := B.returns
  have hts := atoms_spec (ws := wz_c_X1_wordOf_12) B.pre
  have hown : s.vm.findClass RX1 = some m.cls := findClass_of_methodNamed B.named
  have hlocks := B.notSynchronized
  subst hsz
  have hD := hD0.self (sz := s.heap.size)
  generalize hAe : va_A [(h0, .inr (4, [w1, .int 0, .int 0]))] s.heap.size = A at hD hE hT hG ⊢
  have hA : ∀ q : Nat, s.heap.size ≤ q → A q := fun q h => by rw [← hAe]; exact Or.inr h
  have hS : va_S A s.heap s.heap [] := va_S.rf
  have hl := lv_entry ([.ref h0, .int 12]) (n := 4) (Nat.le_of_ble_eq_true rfl)
  rw [lg_entry_eq]
  generalize (lg_sl ([.ref h0, .int 12]) ++ List.replicate (4 - (lg_sl ([.ref h0, .int 12])).length) Slot.unset).toArray = ls at hl ⊢
  have hl : lv_has ls 4 [(0, .ref h0), (1, .int 12)] := hl
  refine lv_aload_n hx hb dX1_wordOf_0 rfl (lv_at hl 0 rfl) ?_
  refine lv_iload_n hx hb dX1_wordOf_1 rfl (lv_at hl 1 rfl) ?_
  refine lv_iconst (v := 4) hx hb dX1_wordOf_2 (by decide) ?_
  have hPc := hP.sub (ws' := [(h0, .inr (4, [w1, .int 0, .int 0]))]) [0] rfl
  have hDc := hD.sub (ws' := [(h0, .inr (4, [w1, .int 0, .int 0]))]) [0] (by decide) rfl
  have hFc := va_free (wc := [(h0, .inr (4, [w1, .int 0, .int 0]))]) hD hS hA [0] rfl
  refine va_calll (va_runU (As := [.int 12, .int 4]) (rest := []) ⟨hx, hb, hml, hown, hts⟩ (c_num4_12 l D y s.heap.size h0 w1) (va_cwU 2 hts gv_c_X1_wordOf_12_c_num4_12_44 rfl rfl rfl rfl (by decide +kernel) ⟨(Nat.le_of_ble_eq_true rfl), (Nat.le_of_ble_eq_true rfl)⟩) (zB.preV hPc hDc hK hN hE hO hT hG hS hFc (fun _ h => nomatch h) (fun _ h => nomatch h) (fun _ h => nomatch h) (fun _ h => nomatch h) (va_recv hK hPc (ci := 4) (q0 := 0) rfl rfl)) rfl rfl hl.1 rfl (lv_room (Nat.le_of_ble_eq_true rfl)) dX1_wordOf_3 ⟨(Nat.le_of_ble_eq_true rfl), (Nat.le_of_ble_eq_true rfl)⟩) hS (fun q _ h => hFc q h) hFc (fun r1 u t H1 locs ht hvm hw hB hz1 hk1 hS => ?_)
  obtain ⟨hP1, hD1⟩ := hB
  rw [ht] at hP1
  obtain ⟨hP, hD⟩ := va_join (wr := []) (w1 := [(h0, .inr (4, [w1, .int 0, .int 0]))]) hP hD [0] [] rfl rfl (by decide) (by decide) hk1 hFc hP1 hD1
  generalize H1 = H at hP hS ⊢
  have hP : va_P D vwCl [(h0, .inr (4, [w1, .int 0, .int 0]))] H := hP
  have hD : va_D A [(h0, .inr (4, [w1, .int 0, .int 0]))] := hD
  have hw : r1 = 0 := hw
  subst hw
  refine lv_l2i (v := 0) hx hb dX1_wordOf_6 (by decide +kernel) ?_
  refine lv_istore_n (lv' := [(2, .int 0), (0, .ref h0), (1, .int 12)]) hx hb dX1_wordOf_7 rfl hl (by decide) rfl (fun ls hl => ?_)
  refine lv_aload_n hx hb dX1_wordOf_8 rfl (lv_at hl 1 rfl) ?_
  refine va_get (D := D) (ci := 4) (v := .int 0) (C := RX0) (T := TX0) (N := 3) hx hb hts (by decide +kernel) hown hK hP 0 rfl rfl 2 (by decide) (hts (.fieldLink RX1 28 "SignetRing$Span" "size" "I") (by decide +kernel)) (fun _ h9 => h9) rfl dX1_wordOf_9 ?_
  refine lv_iload_n hx hb dX1_wordOf_12 rfl (lv_at hl 2 rfl) ?_
  refine lv_isub hx hb dX1_wordOf_13 ?_
  refine lv_topi (fun v2 ev2 => ?_)
  have ev2 : v2 = -12 := ev2.trans (by decide +kernel)
  subst ev2
  refine lv_istore_n (lv' := [(3, .int (-12)), (2, .int 0), (0, .ref h0), (1, .int 12)]) hx hb dX1_wordOf_14 rfl hl (by decide) rfl (fun ls hl => ?_)
  refine lv_iload_n hx hb dX1_wordOf_15 rfl (lv_at hl 0 rfl) ?_
  refine lv_if_lt (tgt := 40) hx hb dX1_wordOf_16 (by decide) (fun _ => ?_) (fun c9 => absurd (by decide) c9)
  refine lv_iload_n hx hb dX1_wordOf_40 rfl (lv_at hl 1 rfl) ?_
  have hP9 := hP.sub (ws' := [(h0, .inr (4, [w1, .int 0, .int 0]))]) [0] rfl
  have hD9 := hD.sub (ws' := [(h0, .inr (4, [w1, .int 0, .int 0]))]) [0] (by decide) rfl
  refine W.widen (k := 0) (n := 0) (Nat.le_of_ble_eq_true rfl) (Nat.le_of_ble_eq_true rfl) ?_
  exact W.iret (v := 0) hx hb hr (fun t ht hW => ⟨⟨0, (), rfl, rfl, by rw [ht]; exact hP9, hD9⟩, hS.F ht⟩) hS.2.2 dX1_wordOf_41
def wz_c_num4_16 : List Cond := .code yX10_number cX10_number 8 (some .long) :: ([.fieldLink RX10 13 "SignetRing$Span" "from" "I", .fieldLink RX10 17 "SignetRing$Span" "size" "I"] ++ (wsX00 ++ ([])))
set_option maxHeartbeats 4000000 in
set_option maxRecDepth 100000 in
theorem c_num4_16 (l : Launch) (D : va_G) (y : Nat → ClassId) (sz : Nat) (h0 : Nat) (w1 : Value) : Met l yX10_number wz_c_num4_16 ({ frames := 0, cells := 0, slots := 0, locals := 0 }) (va_Pc [.ref h0, .int 16, .int 4] (zB D y [(h0, .inr (4, [w1, .int 0, .int 0]))] sz [] [] [] [])) (va_Ql (fun (r : Int64) (_ : Unit) => r = 0) (fun _ t => va_P D vwCl [(h0, .inr (4, [w1, .int 0, .int 0]))] t.heap ∧ va_D (va_A [(h0, .inr (4, [w1, .int 0, .int 0]))] sz) [(h0, .inr (4, [w1, .int 0, .int 0]))]) (va_A [(h0, .inr (4, [w1, .int 0, .int 0]))] sz)) 0 0 (va_A [(h0, .inr (4, [w1, .int 0, .int 0]))] sz) := by
  refine Met.ofW (cc := cX10_number) (maxL := 8) (ret := (some .long)) (by decide) rfl ?_
  intro p e s m args below meth c s₁ B hml hv
  obtain ⟨rfl, hsz, hP, hK, hD0, hN, hE, hO, hT, hG⟩ := hv
  have hx := B.exec
  have hb := B.bytes
  have hr := B.returns
  have hts := atoms_spec (ws := wz_c_num4_16) B.pre
  have hown : s.vm.findClass RX10 = some m.cls := findClass_of_methodNamed B.named
  have hlocks := B.notSynchronized
  subst hsz
  have hD := hD0.self (sz := s.heap.size)
  generalize hAe : va_A [(h0, .inr (4, [w1, .int 0, .int 0]))] s.heap.size = A at hD hE hT hG ⊢
  have hA : ∀ q : Nat, s.heap.size ≤ q → A q := fun q h => by rw [← hAe]; exact Or.inr h
  have hS : va_S A s.heap s.heap [] := va_S.rf
  have hl := lv_entry ([.ref h0, .int 16, .int 4]) (n := 8) (Nat.le_of_ble_eq_true rfl)
  rw [lg_entry_eq]
  generalize (lg_sl ([.ref h0, .int 16, .int 4]) ++ List.replicate (8 - (lg_sl ([.ref h0, .int 16, .int 4])).length) Slot.unset).toArray = ls at hl ⊢
  have hl : lv_has ls 8 [(0, .ref h0), (1, .int 16), (2, .int 4)] := hl
  refine lv_lconst (v := 0) hx hb dX10_number_0 (by decide) ?_
  refine lv_lstore_n (lv' := [(3, .long 0), (0, .ref h0), (1, .int 16), (2, .int 4)]) hx hb dX10_number_1 rfl hl (by decide) rfl (fun ls hl => ?_)
  refine lv_iconst (v := 0) hx hb dX10_number_2 (by decide) ?_
  refine lv_istore (lv' := [(5, .int 0), (3, .long 0), (0, .ref h0), (1, .int 16), (2, .int 4)]) hx hb dX10_number_3 hl (by decide) rfl (fun ls hl => ?_)
  refine lv_iload hx hb dX10_number_5 (lv_at hl 0 rfl) ?_
  refine lv_iload_n hx hb dX10_number_7 rfl (lv_at hl 4 rfl) ?_
  refine lv_icmp_ge (tgt := 92) hx hb dX10_number_8 (by decide) (fun c9 => absurd c9 (by decide)) (fun _ => ?_)
  refine lv_aload_n hx hb dX10_number_11 rfl (lv_at hl 2 rfl) ?_
  refine va_get (D := D) (ci := 4) (v := .int 0) (C := RX0) (T := TX0) (N := 3) hx hb hts (by decide +kernel) hown hK hP 0 rfl rfl 1 (by decide) (hts (.fieldLink RX10 13 "SignetRing$Span" "from" "I") (by decide +kernel)) (fun _ h9 => h9) rfl dX10_number_12 ?_
  refine lv_iload_n hx hb dX10_number_15 rfl (lv_at hl 3 rfl) ?_
  refine lv_iadd hx hb dX10_number_16 ?_
  refine lv_topi (fun v1 ev1 => ?_)
  have ev1 : v1 = 16 := ev1.trans (by decide +kernel)
  subst ev1
  refine lv_iload hx hb dX10_number_17 (lv_at hl 0 rfl) ?_
  refine lv_iadd hx hb dX10_number_19 ?_
  refine lv_topi (fun v2 ev2 => ?_)
  have ev2 : v2 = 16 := ev2.trans (by decide +kernel)
  subst ev2
  refine lv_istore (lv' := [(6, .int 16), (5, .int 0), (3, .long 0), (0, .ref h0), (1, .int 16), (2, .int 4)]) hx hb dX10_number_20 hl (by decide) rfl (fun ls hl => ?_)
  refine lv_iload_n hx hb dX10_number_22 rfl (lv_at hl 4 rfl) ?_
  refine lv_if_lt (tgt := 56) hx hb dX10_number_23 (by decide) (fun c9 => absurd c9 (by decide)) (fun _ => ?_)
  refine lv_iload_n hx hb dX10_number_26 rfl (lv_at hl 4 rfl) ?_
  refine lv_iload hx hb dX10_number_27 (lv_at hl 1 rfl) ?_
  refine lv_iadd hx hb dX10_number_29 ?_
  refine lv_topi (fun v3 ev3 => ?_)
  have ev3 : v3 = 16 := ev3.trans (by decide +kernel)
  subst ev3
  refine lv_aload_n hx hb dX10_number_30 rfl (lv_at hl 3 rfl) ?_
  refine va_get (D := D) (ci := 4) (v := .int 0) (C := RX0) (T := TX0) (N := 3) hx hb hts (by decide +kernel) hown hK hP 0 rfl rfl 2 (by decide) (hts (.fieldLink RX10 17 "SignetRing$Span" "size" "I") (by decide +kernel)) (fun _ h9 => h9) rfl dX10_number_31 ?_
  refine lv_icmp_ge (tgt := 56) hx hb dX10_number_34 (by decide) (fun _ => ?_) (fun c9 => absurd (by decide) c9)
  refine lv_iconst (v := 0) hx hb dX10_number_56 (by decide) ?_
  refine lv_istore (lv' := [(7, .int 0), (6, .int 16), (5, .int 0), (3, .long 0), (0, .ref h0), (1, .int 16), (2, .int 4)]) hx hb dX10_number_57 hl (by decide) rfl (fun ls hl => ?_)
  refine lv_lload_n hx hb dX10_number_59 rfl (lv_at hl 3 rfl) ?_
  refine lv_bipush (v := 8) hx hb dX10_number_60 (by decide) ?_
  refine lv_lshl hx hb dX10_number_62 rfl ?_
  refine lv_topl (fun v4 ev4 => ?_)
  have ev4 : v4 = 0 := ev4.trans (by decide +kernel)
  subst ev4
  refine lv_iload hx hb dX10_number_63 (lv_at hl 0 rfl) ?_
  refine lv_if_eq (tgt := 82) hx hb dX10_number_65 (by decide) (fun _ => ?_) (fun c9 => absurd (by decide) c9)
  refine lv_iconst (v := 0) hx hb dX10_number_82 (by decide) ?_
  refine lv_i2l (v := 0) hx hb dX10_number_83 (by decide +kernel) ?_
  refine lv_lor hx hb dX10_number_84 ?_
  refine lv_topl (fun v5 ev5 => ?_)
  have ev5 : v5 = 0 := ev5.trans (by decide +kernel)
  subst ev5
  refine lv_lstore_n (lv' := [(3, .long 0), (7, .int 0), (6, .int 16), (5, .int 0), (0, .ref h0), (1, .int 16), (2, .int 4)]) hx hb dX10_number_85 rfl hl (by decide) rfl (fun ls hl => ?_)
  refine lv_iinc (v := 1) (lv' := [(5, .int 1), (3, .long 0), (7, .int 0), (6, .int 16), (0, .ref h0), (1, .int 16), (2, .int 4)]) hx hb dX10_number_86 hl (k := 3) rfl (by decide) (by decide) rfl (fun ls hl => ?_)
  refine lv_goto (tgt := 5) hx hb dX10_number_89 (by decide) ?_
  refine lv_iload hx hb dX10_number_5 (lv_at hl 0 rfl) ?_
  refine lv_iload_n hx hb dX10_number_7 rfl (lv_at hl 6 rfl) ?_
  refine lv_icmp_ge (tgt := 92) hx hb dX10_number_8 (by decide) (fun c9 => absurd c9 (by decide)) (fun _ => ?_)
  refine lv_aload_n hx hb dX10_number_11 rfl (lv_at hl 4 rfl) ?_
  refine va_get (D := D) (ci := 4) (v := .int 0) (C := RX0) (T := TX0) (N := 3) hx hb hts (by decide +kernel) hown hK hP 0 rfl rfl 1 (by decide) (hts (.fieldLink RX10 13 "SignetRing$Span" "from" "I") (by decide +kernel)) (fun _ h9 => h9) rfl dX10_number_12 ?_
  refine lv_iload_n hx hb dX10_number_15 rfl (lv_at hl 5 rfl) ?_
  refine lv_iadd hx hb dX10_number_16 ?_
  refine lv_topi (fun v6 ev6 => ?_)
  have ev6 : v6 = 16 := ev6.trans (by decide +kernel)
  subst ev6
  refine lv_iload hx hb dX10_number_17 (lv_at hl 0 rfl) ?_
  refine lv_iadd hx hb dX10_number_19 ?_
  refine lv_topi (fun v7 ev7 => ?_)
  have ev7 : v7 = 17 := ev7.trans (by decide +kernel)
  subst ev7
  refine lv_istore (lv' := [(6, .int 17), (5, .int 1), (3, .long 0), (7, .int 0), (0, .ref h0), (1, .int 16), (2, .int 4)]) hx hb dX10_number_20 hl (by decide) rfl (fun ls hl => ?_)
  refine lv_iload_n hx hb dX10_number_22 rfl (lv_at hl 5 rfl) ?_
  refine lv_if_lt (tgt := 56) hx hb dX10_number_23 (by decide) (fun c9 => absurd c9 (by decide)) (fun _ => ?_)
  refine lv_iload_n hx hb dX10_number_26 rfl (lv_at hl 5 rfl) ?_
  refine lv_iload hx hb dX10_number_27 (lv_at hl 1 rfl) ?_
  refine lv_iadd hx hb dX10_number_29 ?_
  refine lv_topi (fun v8 ev8 => ?_)
  have ev8 : v8 = 17 := ev8.trans (by decide +kernel)
  subst ev8
  refine lv_aload_n hx hb dX10_number_30 rfl (lv_at hl 4 rfl) ?_
  refine va_get (D := D) (ci := 4) (v := .int 0) (C := RX0) (T := TX0) (N := 3) hx hb hts (by decide +kernel) hown hK hP 0 rfl rfl 2 (by decide) (hts (.fieldLink RX10 17 "SignetRing$Span" "size" "I") (by decide +kernel)) (fun _ h9 => h9) rfl dX10_number_31 ?_
  refine lv_icmp_ge (tgt := 56) hx hb dX10_number_34 (by decide) (fun _ => ?_) (fun c9 => absurd (by decide) c9)
  refine lv_iconst (v := 0) hx hb dX10_number_56 (by decide) ?_
  refine lv_istore (lv' := [(7, .int 0), (6, .int 17), (5, .int 1), (3, .long 0), (0, .ref h0), (1, .int 16), (2, .int 4)]) hx hb dX10_number_57 hl (by decide) rfl (fun ls hl => ?_)
  refine lv_lload_n hx hb dX10_number_59 rfl (lv_at hl 3 rfl) ?_
  refine lv_bipush (v := 8) hx hb dX10_number_60 (by decide) ?_
  refine lv_lshl hx hb dX10_number_62 rfl ?_
  refine lv_topl (fun v9 ev9 => ?_)
  have ev9 : v9 = 0 := ev9.trans (by decide +kernel)
  subst ev9
  refine lv_iload hx hb dX10_number_63 (lv_at hl 0 rfl) ?_
  refine lv_if_eq (tgt := 82) hx hb dX10_number_65 (by decide) (fun _ => ?_) (fun c9 => absurd (by decide) c9)
  refine lv_iconst (v := 0) hx hb dX10_number_82 (by decide) ?_
  refine lv_i2l (v := 0) hx hb dX10_number_83 (by decide +kernel) ?_
  refine lv_lor hx hb dX10_number_84 ?_
  refine lv_topl (fun v10 ev10 => ?_)
  have ev10 : v10 = 0 := ev10.trans (by decide +kernel)
  subst ev10
  refine lv_lstore_n (lv' := [(3, .long 0), (7, .int 0), (6, .int 17), (5, .int 1), (0, .ref h0), (1, .int 16), (2, .int 4)]) hx hb dX10_number_85 rfl hl (by decide) rfl (fun ls hl => ?_)
  refine lv_iinc (v := 2) (lv' := [(5, .int 2), (3, .long 0), (7, .int 0), (6, .int 17), (0, .ref h0), (1, .int 16), (2, .int 4)]) hx hb dX10_number_86 hl (k := 3) rfl (by decide) (by decide) rfl (fun ls hl => ?_)
  refine lv_goto (tgt := 5) hx hb dX10_number_89 (by decide) ?_
  refine lv_iload hx hb dX10_number_5 (lv_at hl 0 rfl) ?_
  refine lv_iload_n hx hb dX10_number_7 rfl (lv_at hl 6 rfl) ?_
  refine lv_icmp_ge (tgt := 92) hx hb dX10_number_8 (by decide) (fun c9 => absurd c9 (by decide)) (fun _ => ?_)
  refine lv_aload_n hx hb dX10_number_11 rfl (lv_at hl 4 rfl) ?_
  refine va_get (D := D) (ci := 4) (v := .int 0) (C := RX0) (T := TX0) (N := 3) hx hb hts (by decide +kernel) hown hK hP 0 rfl rfl 1 (by decide) (hts (.fieldLink RX10 13 "SignetRing$Span" "from" "I") (by decide +kernel)) (fun _ h9 => h9) rfl dX10_number_12 ?_
  refine lv_iload_n hx hb dX10_number_15 rfl (lv_at hl 5 rfl) ?_
  refine lv_iadd hx hb dX10_number_16 ?_
  refine lv_topi (fun v11 ev11 => ?_)
  have ev11 : v11 = 16 := ev11.trans (by decide +kernel)
  subst ev11
  refine lv_iload hx hb dX10_number_17 (lv_at hl 0 rfl) ?_
  refine lv_iadd hx hb dX10_number_19 ?_
  refine lv_topi (fun v12 ev12 => ?_)
  have ev12 : v12 = 18 := ev12.trans (by decide +kernel)
  subst ev12
  refine lv_istore (lv' := [(6, .int 18), (5, .int 2), (3, .long 0), (7, .int 0), (0, .ref h0), (1, .int 16), (2, .int 4)]) hx hb dX10_number_20 hl (by decide) rfl (fun ls hl => ?_)
  refine lv_iload_n hx hb dX10_number_22 rfl (lv_at hl 5 rfl) ?_
  refine lv_if_lt (tgt := 56) hx hb dX10_number_23 (by decide) (fun c9 => absurd c9 (by decide)) (fun _ => ?_)
  refine lv_iload_n hx hb dX10_number_26 rfl (lv_at hl 5 rfl) ?_
  refine lv_iload hx hb dX10_number_27 (lv_at hl 1 rfl) ?_
  refine lv_iadd hx hb dX10_number_29 ?_
  refine lv_topi (fun v13 ev13 => ?_)
  have ev13 : v13 = 18 := ev13.trans (by decide +kernel)
  subst ev13
  refine lv_aload_n hx hb dX10_number_30 rfl (lv_at hl 4 rfl) ?_
  refine va_get (D := D) (ci := 4) (v := .int 0) (C := RX0) (T := TX0) (N := 3) hx hb hts (by decide +kernel) hown hK hP 0 rfl rfl 2 (by decide) (hts (.fieldLink RX10 17 "SignetRing$Span" "size" "I") (by decide +kernel)) (fun _ h9 => h9) rfl dX10_number_31 ?_
  refine lv_icmp_ge (tgt := 56) hx hb dX10_number_34 (by decide) (fun _ => ?_) (fun c9 => absurd (by decide) c9)
  refine lv_iconst (v := 0) hx hb dX10_number_56 (by decide) ?_
  refine lv_istore (lv' := [(7, .int 0), (6, .int 18), (5, .int 2), (3, .long 0), (0, .ref h0), (1, .int 16), (2, .int 4)]) hx hb dX10_number_57 hl (by decide) rfl (fun ls hl => ?_)
  refine lv_lload_n hx hb dX10_number_59 rfl (lv_at hl 3 rfl) ?_
  refine lv_bipush (v := 8) hx hb dX10_number_60 (by decide) ?_
  refine lv_lshl hx hb dX10_number_62 rfl ?_
  refine lv_topl (fun v14 ev14 => ?_)
  have ev14 : v14 = 0 := ev14.trans (by decide +kernel)
  subst ev14
  refine lv_iload hx hb dX10_number_63 (lv_at hl 0 rfl) ?_
  refine lv_if_eq (tgt := 82) hx hb dX10_number_65 (by decide) (fun _ => ?_) (fun c9 => absurd (by decide) c9)
  refine lv_iconst (v := 0) hx hb dX10_number_82 (by decide) ?_
  refine lv_i2l (v := 0) hx hb dX10_number_83 (by decide +kernel) ?_
  refine lv_lor hx hb dX10_number_84 ?_
  refine lv_topl (fun v15 ev15 => ?_)
  have ev15 : v15 = 0 := ev15.trans (by decide +kernel)
  subst ev15
  refine lv_lstore_n (lv' := [(3, .long 0), (7, .int 0), (6, .int 18), (5, .int 2), (0, .ref h0), (1, .int 16), (2, .int 4)]) hx hb dX10_number_85 rfl hl (by decide) rfl (fun ls hl => ?_)
  refine lv_iinc (v := 3) (lv' := [(5, .int 3), (3, .long 0), (7, .int 0), (6, .int 18), (0, .ref h0), (1, .int 16), (2, .int 4)]) hx hb dX10_number_86 hl (k := 3) rfl (by decide) (by decide) rfl (fun ls hl => ?_)
  refine lv_goto (tgt := 5) hx hb dX10_number_89 (by decide) ?_
  refine lv_iload hx hb dX10_number_5 (lv_at hl 0 rfl) ?_
  refine lv_iload_n hx hb dX10_number_7 rfl (lv_at hl 6 rfl) ?_
  refine lv_icmp_ge (tgt := 92) hx hb dX10_number_8 (by decide) (fun c9 => absurd c9 (by decide)) (fun _ => ?_)
  refine lv_aload_n hx hb dX10_number_11 rfl (lv_at hl 4 rfl) ?_
  refine va_get (D := D) (ci := 4) (v := .int 0) (C := RX0) (T := TX0) (N := 3) hx hb hts (by decide +kernel) hown hK hP 0 rfl rfl 1 (by decide) (hts (.fieldLink RX10 13 "SignetRing$Span" "from" "I") (by decide +kernel)) (fun _ h9 => h9) rfl dX10_number_12 ?_
  refine lv_iload_n hx hb dX10_number_15 rfl (lv_at hl 5 rfl) ?_
  refine lv_iadd hx hb dX10_number_16 ?_
  refine lv_topi (fun v16 ev16 => ?_)
  have ev16 : v16 = 16 := ev16.trans (by decide +kernel)
  subst ev16
  refine lv_iload hx hb dX10_number_17 (lv_at hl 0 rfl) ?_
  refine lv_iadd hx hb dX10_number_19 ?_
  refine lv_topi (fun v17 ev17 => ?_)
  have ev17 : v17 = 19 := ev17.trans (by decide +kernel)
  subst ev17
  refine lv_istore (lv' := [(6, .int 19), (5, .int 3), (3, .long 0), (7, .int 0), (0, .ref h0), (1, .int 16), (2, .int 4)]) hx hb dX10_number_20 hl (by decide) rfl (fun ls hl => ?_)
  refine lv_iload_n hx hb dX10_number_22 rfl (lv_at hl 5 rfl) ?_
  refine lv_if_lt (tgt := 56) hx hb dX10_number_23 (by decide) (fun c9 => absurd c9 (by decide)) (fun _ => ?_)
  refine lv_iload_n hx hb dX10_number_26 rfl (lv_at hl 5 rfl) ?_
  refine lv_iload hx hb dX10_number_27 (lv_at hl 1 rfl) ?_
  refine lv_iadd hx hb dX10_number_29 ?_
  refine lv_topi (fun v18 ev18 => ?_)
  have ev18 : v18 = 19 := ev18.trans (by decide +kernel)
  subst ev18
  refine lv_aload_n hx hb dX10_number_30 rfl (lv_at hl 4 rfl) ?_
  refine va_get (D := D) (ci := 4) (v := .int 0) (C := RX0) (T := TX0) (N := 3) hx hb hts (by decide +kernel) hown hK hP 0 rfl rfl 2 (by decide) (hts (.fieldLink RX10 17 "SignetRing$Span" "size" "I") (by decide +kernel)) (fun _ h9 => h9) rfl dX10_number_31 ?_
  refine lv_icmp_ge (tgt := 56) hx hb dX10_number_34 (by decide) (fun _ => ?_) (fun c9 => absurd (by decide) c9)
  refine lv_iconst (v := 0) hx hb dX10_number_56 (by decide) ?_
  refine lv_istore (lv' := [(7, .int 0), (6, .int 19), (5, .int 3), (3, .long 0), (0, .ref h0), (1, .int 16), (2, .int 4)]) hx hb dX10_number_57 hl (by decide) rfl (fun ls hl => ?_)
  refine lv_lload_n hx hb dX10_number_59 rfl (lv_at hl 3 rfl) ?_
  refine lv_bipush (v := 8) hx hb dX10_number_60 (by decide) ?_
  refine lv_lshl hx hb dX10_number_62 rfl ?_
  refine lv_topl (fun v19 ev19 => ?_)
  have ev19 : v19 = 0 := ev19.trans (by decide +kernel)
  subst ev19
  refine lv_iload hx hb dX10_number_63 (lv_at hl 0 rfl) ?_
  refine lv_if_eq (tgt := 82) hx hb dX10_number_65 (by decide) (fun _ => ?_) (fun c9 => absurd (by decide) c9)
  refine lv_iconst (v := 0) hx hb dX10_number_82 (by decide) ?_
  refine lv_i2l (v := 0) hx hb dX10_number_83 (by decide +kernel) ?_
  refine lv_lor hx hb dX10_number_84 ?_
  refine lv_topl (fun v20 ev20 => ?_)
  have ev20 : v20 = 0 := ev20.trans (by decide +kernel)
  subst ev20
  refine lv_lstore_n (lv' := [(3, .long 0), (7, .int 0), (6, .int 19), (5, .int 3), (0, .ref h0), (1, .int 16), (2, .int 4)]) hx hb dX10_number_85 rfl hl (by decide) rfl (fun ls hl => ?_)
  refine lv_iinc (v := 4) (lv' := [(5, .int 4), (3, .long 0), (7, .int 0), (6, .int 19), (0, .ref h0), (1, .int 16), (2, .int 4)]) hx hb dX10_number_86 hl (k := 3) rfl (by decide) (by decide) rfl (fun ls hl => ?_)
  refine lv_goto (tgt := 5) hx hb dX10_number_89 (by decide) ?_
  refine lv_iload hx hb dX10_number_5 (lv_at hl 0 rfl) ?_
  refine lv_iload_n hx hb dX10_number_7 rfl (lv_at hl 6 rfl) ?_
  refine lv_icmp_ge (tgt := 92) hx hb dX10_number_8 (by decide) (fun _ => ?_) (fun c9 => absurd (by decide) c9)
  refine lv_lload_n hx hb dX10_number_92 rfl (lv_at hl 1 rfl) ?_
  have hP9 := hP.sub (ws' := [(h0, .inr (4, [w1, .int 0, .int 0]))]) [0] rfl
  have hD9 := hD.sub (ws' := [(h0, .inr (4, [w1, .int 0, .int 0]))]) [0] (by decide) rfl
  refine W.widen (k := 0) (n := 0) (Nat.le_of_ble_eq_true rfl) (Nat.le_of_ble_eq_true rfl) ?_
  exact W.lret (v := 0) hx hb hr (fun t ht hW => ⟨⟨0, (), rfl, rfl, by rw [ht]; exact hP9, hD9⟩, hS.F ht⟩) hS.2.2 dX10_number_93
def wz_c_X1_wordOf_16 : List Cond := .code yX1_wordOf cX1_wordOf 4 (some .int) :: ([.methodLink RX1 44 ⟨"SignetRing$Span", "number", "(II)J"⟩, .sameMethod "SignetRing$Span" "SignetRing$Span" "number" "(II)J", .selects RX0 ⟨"SignetRing$Span", "number", "(II)J"⟩ yX10_number, .instanceMethod yX10_number, .initialized RX10, .fieldLink RX1 28 "SignetRing$Span" "size" "I"] ++ (wsX00 ++ (wz_c_num4_16 ++ ([]))))
set_option maxRecDepth 100000 in
theorem gz_c_X1_wordOf_16_c_num4_16 : GoodIn wz_c_X1_wordOf_16 wz_c_num4_16 := goodIn_sub (fun w h => List.mem_cons_of_mem _ (List.mem_append_right _ (List.mem_append_right _ (List.mem_append_left _ h)))) (by decide +kernel)
set_option maxRecDepth 100000 in
theorem gv_c_X1_wordOf_16_c_num4_16_44 : GoodIn wz_c_X1_wordOf_16 (va_wsU RX1 44 RX0 "SignetRing$Span" ⟨"SignetRing$Span", "number", "(II)J"⟩ yX10_number wz_c_num4_16) := goodIn_app (goodIn_of _ (by decide +kernel)) gz_c_X1_wordOf_16_c_num4_16
set_option maxHeartbeats 4000000 in
set_option maxRecDepth 100000 in
theorem c_X1_wordOf_16 (l : Launch) (D : va_G) (y : Nat → ClassId) (sz : Nat) (h0 : Nat) (w1 : Value) : Met l yX1_wordOf wz_c_X1_wordOf_16 ({ frames := 1, cells := 0, slots := 0, locals := 27 }) (va_Pc [.ref h0, .int 16] (zB D y [(h0, .inr (4, [w1, .int 0, .int 0]))] sz [] [] [] [])) (va_Qi (fun (r : Int32) (_ : Unit) => r = 0) (fun _ t => va_P D vwCl [(h0, .inr (4, [w1, .int 0, .int 0]))] t.heap ∧ va_D (va_A [(h0, .inr (4, [w1, .int 0, .int 0]))] sz) [(h0, .inr (4, [w1, .int 0, .int 0]))]) (va_A [(h0, .inr (4, [w1, .int 0, .int 0]))] sz)) 0 0 (va_A [(h0, .inr (4, [w1, .int 0, .int 0]))] sz) := by
  refine Met.ofW (cc := cX1_wordOf) (maxL := 4) (ret := (some .int)) (by decide) rfl ?_
  intro p e s m args below meth c s₁ B hml hv
  obtain ⟨rfl, hsz, hP, hK, hD0, hN, hE, hO, hT, hG⟩ := hv
  have hx := B.exec
  have hb := B.bytes
  have hr := B.returns
  have hts := atoms_spec (ws := wz_c_X1_wordOf_16) B.pre
  have hown : s.vm.findClass RX1 = some m.cls := findClass_of_methodNamed B.named
  have hlocks := B.notSynchronized
  subst hsz
  have hD := hD0.self (sz := s.heap.size)
  generalize hAe : va_A [(h0, .inr (4, [w1, .int 0, .int 0]))] s.heap.size = A at hD hE hT hG ⊢
  have hA : ∀ q : Nat, s.heap.size ≤ q → A q := fun q h => by rw [← hAe]; exact Or.inr h
  have hS : va_S A s.heap s.heap [] := va_S.rf
  have hl := lv_entry ([.ref h0, .int 16]) (n := 4) (Nat.le_of_ble_eq_true rfl)
  rw [lg_entry_eq]
  generalize (lg_sl ([.ref h0, .int 16]) ++ List.replicate (4 - (lg_sl ([.ref h0, .int 16])).length) Slot.unset).toArray = ls at hl ⊢
  have hl : lv_has ls 4 [(0, .ref h0), (1, .int 16)] := hl
  refine lv_aload_n hx hb dX1_wordOf_0 rfl (lv_at hl 0 rfl) ?_
  refine lv_iload_n hx hb dX1_wordOf_1 rfl (lv_at hl 1 rfl) ?_
  refine lv_iconst (v := 4) hx hb dX1_wordOf_2 (by decide) ?_
  have hPc := hP.sub (ws' := [(h0, .inr (4, [w1, .int 0, .int 0]))]) [0] rfl
  have hDc := hD.sub (ws' := [(h0, .inr (4, [w1, .int 0, .int 0]))]) [0] (by decide) rfl
  have hFc := va_free (wc := [(h0, .inr (4, [w1, .int 0, .int 0]))]) hD hS hA [0] rfl
  refine va_calll (va_runU (As := [.int 16, .int 4]) (rest := []) ⟨hx, hb, hml, hown, hts⟩ (c_num4_16 l D y s.heap.size h0 w1) (va_cwU 2 hts gv_c_X1_wordOf_16_c_num4_16_44 rfl rfl rfl rfl (by decide +kernel) ⟨(Nat.le_of_ble_eq_true rfl), (Nat.le_of_ble_eq_true rfl)⟩) (zB.preV hPc hDc hK hN hE hO hT hG hS hFc (fun _ h => nomatch h) (fun _ h => nomatch h) (fun _ h => nomatch h) (fun _ h => nomatch h) (va_recv hK hPc (ci := 4) (q0 := 0) rfl rfl)) rfl rfl hl.1 rfl (lv_room (Nat.le_of_ble_eq_true rfl)) dX1_wordOf_3 ⟨(Nat.le_of_ble_eq_true rfl), (Nat.le_of_ble_eq_true rfl)⟩) hS (fun q _ h => hFc q h) hFc (fun r1 u t H1 locs ht hvm hw hB hz1 hk1 hS => ?_)
  obtain ⟨hP1, hD1⟩ := hB
  rw [ht] at hP1
  obtain ⟨hP, hD⟩ := va_join (wr := []) (w1 := [(h0, .inr (4, [w1, .int 0, .int 0]))]) hP hD [0] [] rfl rfl (by decide) (by decide) hk1 hFc hP1 hD1
  generalize H1 = H at hP hS ⊢
  have hP : va_P D vwCl [(h0, .inr (4, [w1, .int 0, .int 0]))] H := hP
  have hD : va_D A [(h0, .inr (4, [w1, .int 0, .int 0]))] := hD
  have hw : r1 = 0 := hw
  subst hw
  refine lv_l2i (v := 0) hx hb dX1_wordOf_6 (by decide +kernel) ?_
  refine lv_istore_n (lv' := [(2, .int 0), (0, .ref h0), (1, .int 16)]) hx hb dX1_wordOf_7 rfl hl (by decide) rfl (fun ls hl => ?_)
  refine lv_aload_n hx hb dX1_wordOf_8 rfl (lv_at hl 1 rfl) ?_
  refine va_get (D := D) (ci := 4) (v := .int 0) (C := RX0) (T := TX0) (N := 3) hx hb hts (by decide +kernel) hown hK hP 0 rfl rfl 2 (by decide) (hts (.fieldLink RX1 28 "SignetRing$Span" "size" "I") (by decide +kernel)) (fun _ h9 => h9) rfl dX1_wordOf_9 ?_
  refine lv_iload_n hx hb dX1_wordOf_12 rfl (lv_at hl 2 rfl) ?_
  refine lv_isub hx hb dX1_wordOf_13 ?_
  refine lv_topi (fun v2 ev2 => ?_)
  have ev2 : v2 = -16 := ev2.trans (by decide +kernel)
  subst ev2
  refine lv_istore_n (lv' := [(3, .int (-16)), (2, .int 0), (0, .ref h0), (1, .int 16)]) hx hb dX1_wordOf_14 rfl hl (by decide) rfl (fun ls hl => ?_)
  refine lv_iload_n hx hb dX1_wordOf_15 rfl (lv_at hl 0 rfl) ?_
  refine lv_if_lt (tgt := 40) hx hb dX1_wordOf_16 (by decide) (fun _ => ?_) (fun c9 => absurd (by decide) c9)
  refine lv_iload_n hx hb dX1_wordOf_40 rfl (lv_at hl 1 rfl) ?_
  have hP9 := hP.sub (ws' := [(h0, .inr (4, [w1, .int 0, .int 0]))]) [0] rfl
  have hD9 := hD.sub (ws' := [(h0, .inr (4, [w1, .int 0, .int 0]))]) [0] (by decide) rfl
  refine W.widen (k := 0) (n := 0) (Nat.le_of_ble_eq_true rfl) (Nat.le_of_ble_eq_true rfl) ?_
  exact W.iret (v := 0) hx hb hr (fun t ht hW => ⟨⟨0, (), rfl, rfl, by rw [ht]; exact hP9, hD9⟩, hS.F ht⟩) hS.2.2 dX1_wordOf_41
def wz_c_num4_20 : List Cond := .code yX10_number cX10_number 8 (some .long) :: ([.fieldLink RX10 13 "SignetRing$Span" "from" "I", .fieldLink RX10 17 "SignetRing$Span" "size" "I"] ++ (wsX00 ++ ([])))
set_option maxHeartbeats 4000000 in
set_option maxRecDepth 100000 in
theorem c_num4_20 (l : Launch) (D : va_G) (y : Nat → ClassId) (sz : Nat) (h0 : Nat) (w1 : Value) : Met l yX10_number wz_c_num4_20 ({ frames := 0, cells := 0, slots := 0, locals := 0 }) (va_Pc [.ref h0, .int 20, .int 4] (zB D y [(h0, .inr (4, [w1, .int 0, .int 0]))] sz [] [] [] [])) (va_Ql (fun (r : Int64) (_ : Unit) => r = 0) (fun _ t => va_P D vwCl [(h0, .inr (4, [w1, .int 0, .int 0]))] t.heap ∧ va_D (va_A [(h0, .inr (4, [w1, .int 0, .int 0]))] sz) [(h0, .inr (4, [w1, .int 0, .int 0]))]) (va_A [(h0, .inr (4, [w1, .int 0, .int 0]))] sz)) 0 0 (va_A [(h0, .inr (4, [w1, .int 0, .int 0]))] sz) := by
  refine Met.ofW (cc := cX10_number) (maxL := 8) (ret := (some .long)) (by decide) rfl ?_
  intro p e s m args below meth c s₁ B hml hv
  obtain ⟨rfl, hsz, hP, hK, hD0, hN, hE, hO, hT, hG⟩ := hv
  have hx := B.exec
  have hb := B.bytes
  have hr := B.returns
  have hts := atoms_spec (ws := wz_c_num4_20) B.pre
  have hown : s.vm.findClass RX10 = some m.cls := findClass_of_methodNamed B.named
  have hlocks := B.notSynchronized
  subst hsz
  have hD := hD0.self (sz := s.heap.size)
  generalize hAe : va_A [(h0, .inr (4, [w1, .int 0, .int 0]))] s.heap.size = A at hD hE hT hG ⊢
  have hA : ∀ q : Nat, s.heap.size ≤ q → A q := fun q h => by rw [← hAe]; exact Or.inr h
  have hS : va_S A s.heap s.heap [] := va_S.rf
  have hl := lv_entry ([.ref h0, .int 20, .int 4]) (n := 8) (Nat.le_of_ble_eq_true rfl)
  rw [lg_entry_eq]
  generalize (lg_sl ([.ref h0, .int 20, .int 4]) ++ List.replicate (8 - (lg_sl ([.ref h0, .int 20, .int 4])).length) Slot.unset).toArray = ls at hl ⊢
  have hl : lv_has ls 8 [(0, .ref h0), (1, .int 20), (2, .int 4)] := hl
  refine lv_lconst (v := 0) hx hb dX10_number_0 (by decide) ?_
  refine lv_lstore_n (lv' := [(3, .long 0), (0, .ref h0), (1, .int 20), (2, .int 4)]) hx hb dX10_number_1 rfl hl (by decide) rfl (fun ls hl => ?_)
  refine lv_iconst (v := 0) hx hb dX10_number_2 (by decide) ?_
  refine lv_istore (lv' := [(5, .int 0), (3, .long 0), (0, .ref h0), (1, .int 20), (2, .int 4)]) hx hb dX10_number_3 hl (by decide) rfl (fun ls hl => ?_)
  refine lv_iload hx hb dX10_number_5 (lv_at hl 0 rfl) ?_
  refine lv_iload_n hx hb dX10_number_7 rfl (lv_at hl 4 rfl) ?_
  refine lv_icmp_ge (tgt := 92) hx hb dX10_number_8 (by decide) (fun c9 => absurd c9 (by decide)) (fun _ => ?_)
  refine lv_aload_n hx hb dX10_number_11 rfl (lv_at hl 2 rfl) ?_
  refine va_get (D := D) (ci := 4) (v := .int 0) (C := RX0) (T := TX0) (N := 3) hx hb hts (by decide +kernel) hown hK hP 0 rfl rfl 1 (by decide) (hts (.fieldLink RX10 13 "SignetRing$Span" "from" "I") (by decide +kernel)) (fun _ h9 => h9) rfl dX10_number_12 ?_
  refine lv_iload_n hx hb dX10_number_15 rfl (lv_at hl 3 rfl) ?_
  refine lv_iadd hx hb dX10_number_16 ?_
  refine lv_topi (fun v1 ev1 => ?_)
  have ev1 : v1 = 20 := ev1.trans (by decide +kernel)
  subst ev1
  refine lv_iload hx hb dX10_number_17 (lv_at hl 0 rfl) ?_
  refine lv_iadd hx hb dX10_number_19 ?_
  refine lv_topi (fun v2 ev2 => ?_)
  have ev2 : v2 = 20 := ev2.trans (by decide +kernel)
  subst ev2
  refine lv_istore (lv' := [(6, .int 20), (5, .int 0), (3, .long 0), (0, .ref h0), (1, .int 20), (2, .int 4)]) hx hb dX10_number_20 hl (by decide) rfl (fun ls hl => ?_)
  refine lv_iload_n hx hb dX10_number_22 rfl (lv_at hl 4 rfl) ?_
  refine lv_if_lt (tgt := 56) hx hb dX10_number_23 (by decide) (fun c9 => absurd c9 (by decide)) (fun _ => ?_)
  refine lv_iload_n hx hb dX10_number_26 rfl (lv_at hl 4 rfl) ?_
  refine lv_iload hx hb dX10_number_27 (lv_at hl 1 rfl) ?_
  refine lv_iadd hx hb dX10_number_29 ?_
  refine lv_topi (fun v3 ev3 => ?_)
  have ev3 : v3 = 20 := ev3.trans (by decide +kernel)
  subst ev3
  refine lv_aload_n hx hb dX10_number_30 rfl (lv_at hl 3 rfl) ?_
  refine va_get (D := D) (ci := 4) (v := .int 0) (C := RX0) (T := TX0) (N := 3) hx hb hts (by decide +kernel) hown hK hP 0 rfl rfl 2 (by decide) (hts (.fieldLink RX10 17 "SignetRing$Span" "size" "I") (by decide +kernel)) (fun _ h9 => h9) rfl dX10_number_31 ?_
  refine lv_icmp_ge (tgt := 56) hx hb dX10_number_34 (by decide) (fun _ => ?_) (fun c9 => absurd (by decide) c9)
  refine lv_iconst (v := 0) hx hb dX10_number_56 (by decide) ?_
  refine lv_istore (lv' := [(7, .int 0), (6, .int 20), (5, .int 0), (3, .long 0), (0, .ref h0), (1, .int 20), (2, .int 4)]) hx hb dX10_number_57 hl (by decide) rfl (fun ls hl => ?_)
  refine lv_lload_n hx hb dX10_number_59 rfl (lv_at hl 3 rfl) ?_
  refine lv_bipush (v := 8) hx hb dX10_number_60 (by decide) ?_
  refine lv_lshl hx hb dX10_number_62 rfl ?_
  refine lv_topl (fun v4 ev4 => ?_)
  have ev4 : v4 = 0 := ev4.trans (by decide +kernel)
  subst ev4
  refine lv_iload hx hb dX10_number_63 (lv_at hl 0 rfl) ?_
  refine lv_if_eq (tgt := 82) hx hb dX10_number_65 (by decide) (fun _ => ?_) (fun c9 => absurd (by decide) c9)
  refine lv_iconst (v := 0) hx hb dX10_number_82 (by decide) ?_
  refine lv_i2l (v := 0) hx hb dX10_number_83 (by decide +kernel) ?_
  refine lv_lor hx hb dX10_number_84 ?_
  refine lv_topl (fun v5 ev5 => ?_)
  have ev5 : v5 = 0 := ev5.trans (by decide +kernel)
  subst ev5
  refine lv_lstore_n (lv' := [(3, .long 0), (7, .int 0), (6, .int 20), (5, .int 0), (0, .ref h0), (1, .int 20), (2, .int 4)]) hx hb dX10_number_85 rfl hl (by decide) rfl (fun ls hl => ?_)
  refine lv_iinc (v := 1) (lv' := [(5, .int 1), (3, .long 0), (7, .int 0), (6, .int 20), (0, .ref h0), (1, .int 20), (2, .int 4)]) hx hb dX10_number_86 hl (k := 3) rfl (by decide) (by decide) rfl (fun ls hl => ?_)
  refine lv_goto (tgt := 5) hx hb dX10_number_89 (by decide) ?_
  refine lv_iload hx hb dX10_number_5 (lv_at hl 0 rfl) ?_
  refine lv_iload_n hx hb dX10_number_7 rfl (lv_at hl 6 rfl) ?_
  refine lv_icmp_ge (tgt := 92) hx hb dX10_number_8 (by decide) (fun c9 => absurd c9 (by decide)) (fun _ => ?_)
  refine lv_aload_n hx hb dX10_number_11 rfl (lv_at hl 4 rfl) ?_
  refine va_get (D := D) (ci := 4) (v := .int 0) (C := RX0) (T := TX0) (N := 3) hx hb hts (by decide +kernel) hown hK hP 0 rfl rfl 1 (by decide) (hts (.fieldLink RX10 13 "SignetRing$Span" "from" "I") (by decide +kernel)) (fun _ h9 => h9) rfl dX10_number_12 ?_
  refine lv_iload_n hx hb dX10_number_15 rfl (lv_at hl 5 rfl) ?_
  refine lv_iadd hx hb dX10_number_16 ?_
  refine lv_topi (fun v6 ev6 => ?_)
  have ev6 : v6 = 20 := ev6.trans (by decide +kernel)
  subst ev6
  refine lv_iload hx hb dX10_number_17 (lv_at hl 0 rfl) ?_
  refine lv_iadd hx hb dX10_number_19 ?_
  refine lv_topi (fun v7 ev7 => ?_)
  have ev7 : v7 = 21 := ev7.trans (by decide +kernel)
  subst ev7
  refine lv_istore (lv' := [(6, .int 21), (5, .int 1), (3, .long 0), (7, .int 0), (0, .ref h0), (1, .int 20), (2, .int 4)]) hx hb dX10_number_20 hl (by decide) rfl (fun ls hl => ?_)
  refine lv_iload_n hx hb dX10_number_22 rfl (lv_at hl 5 rfl) ?_
  refine lv_if_lt (tgt := 56) hx hb dX10_number_23 (by decide) (fun c9 => absurd c9 (by decide)) (fun _ => ?_)
  refine lv_iload_n hx hb dX10_number_26 rfl (lv_at hl 5 rfl) ?_
  refine lv_iload hx hb dX10_number_27 (lv_at hl 1 rfl) ?_
  refine lv_iadd hx hb dX10_number_29 ?_
  refine lv_topi (fun v8 ev8 => ?_)
  have ev8 : v8 = 21 := ev8.trans (by decide +kernel)
  subst ev8
  refine lv_aload_n hx hb dX10_number_30 rfl (lv_at hl 4 rfl) ?_
  refine va_get (D := D) (ci := 4) (v := .int 0) (C := RX0) (T := TX0) (N := 3) hx hb hts (by decide +kernel) hown hK hP 0 rfl rfl 2 (by decide) (hts (.fieldLink RX10 17 "SignetRing$Span" "size" "I") (by decide +kernel)) (fun _ h9 => h9) rfl dX10_number_31 ?_
  refine lv_icmp_ge (tgt := 56) hx hb dX10_number_34 (by decide) (fun _ => ?_) (fun c9 => absurd (by decide) c9)
  refine lv_iconst (v := 0) hx hb dX10_number_56 (by decide) ?_
  refine lv_istore (lv' := [(7, .int 0), (6, .int 21), (5, .int 1), (3, .long 0), (0, .ref h0), (1, .int 20), (2, .int 4)]) hx hb dX10_number_57 hl (by decide) rfl (fun ls hl => ?_)
  refine lv_lload_n hx hb dX10_number_59 rfl (lv_at hl 3 rfl) ?_
  refine lv_bipush (v := 8) hx hb dX10_number_60 (by decide) ?_
  refine lv_lshl hx hb dX10_number_62 rfl ?_
  refine lv_topl (fun v9 ev9 => ?_)
  have ev9 : v9 = 0 := ev9.trans (by decide +kernel)
  subst ev9
  refine lv_iload hx hb dX10_number_63 (lv_at hl 0 rfl) ?_
  refine lv_if_eq (tgt := 82) hx hb dX10_number_65 (by decide) (fun _ => ?_) (fun c9 => absurd (by decide) c9)
  refine lv_iconst (v := 0) hx hb dX10_number_82 (by decide) ?_
  refine lv_i2l (v := 0) hx hb dX10_number_83 (by decide +kernel) ?_
  refine lv_lor hx hb dX10_number_84 ?_
  refine lv_topl (fun v10 ev10 => ?_)
  have ev10 : v10 = 0 := ev10.trans (by decide +kernel)
  subst ev10
  refine lv_lstore_n (lv' := [(3, .long 0), (7, .int 0), (6, .int 21), (5, .int 1), (0, .ref h0), (1, .int 20), (2, .int 4)]) hx hb dX10_number_85 rfl hl (by decide) rfl (fun ls hl => ?_)
  refine lv_iinc (v := 2) (lv' := [(5, .int 2), (3, .long 0), (7, .int 0), (6, .int 21), (0, .ref h0), (1, .int 20), (2, .int 4)]) hx hb dX10_number_86 hl (k := 3) rfl (by decide) (by decide) rfl (fun ls hl => ?_)
  refine lv_goto (tgt := 5) hx hb dX10_number_89 (by decide) ?_
  refine lv_iload hx hb dX10_number_5 (lv_at hl 0 rfl) ?_
  refine lv_iload_n hx hb dX10_number_7 rfl (lv_at hl 6 rfl) ?_
  refine lv_icmp_ge (tgt := 92) hx hb dX10_number_8 (by decide) (fun c9 => absurd c9 (by decide)) (fun _ => ?_)
  refine lv_aload_n hx hb dX10_number_11 rfl (lv_at hl 4 rfl) ?_
  refine va_get (D := D) (ci := 4) (v := .int 0) (C := RX0) (T := TX0) (N := 3) hx hb hts (by decide +kernel) hown hK hP 0 rfl rfl 1 (by decide) (hts (.fieldLink RX10 13 "SignetRing$Span" "from" "I") (by decide +kernel)) (fun _ h9 => h9) rfl dX10_number_12 ?_
  refine lv_iload_n hx hb dX10_number_15 rfl (lv_at hl 5 rfl) ?_
  refine lv_iadd hx hb dX10_number_16 ?_
  refine lv_topi (fun v11 ev11 => ?_)
  have ev11 : v11 = 20 := ev11.trans (by decide +kernel)
  subst ev11
  refine lv_iload hx hb dX10_number_17 (lv_at hl 0 rfl) ?_
  refine lv_iadd hx hb dX10_number_19 ?_
  refine lv_topi (fun v12 ev12 => ?_)
  have ev12 : v12 = 22 := ev12.trans (by decide +kernel)
  subst ev12
  refine lv_istore (lv' := [(6, .int 22), (5, .int 2), (3, .long 0), (7, .int 0), (0, .ref h0), (1, .int 20), (2, .int 4)]) hx hb dX10_number_20 hl (by decide) rfl (fun ls hl => ?_)
  refine lv_iload_n hx hb dX10_number_22 rfl (lv_at hl 5 rfl) ?_
  refine lv_if_lt (tgt := 56) hx hb dX10_number_23 (by decide) (fun c9 => absurd c9 (by decide)) (fun _ => ?_)
  refine lv_iload_n hx hb dX10_number_26 rfl (lv_at hl 5 rfl) ?_
  refine lv_iload hx hb dX10_number_27 (lv_at hl 1 rfl) ?_
  refine lv_iadd hx hb dX10_number_29 ?_
  refine lv_topi (fun v13 ev13 => ?_)
  have ev13 : v13 = 22 := ev13.trans (by decide +kernel)
  subst ev13
  refine lv_aload_n hx hb dX10_number_30 rfl (lv_at hl 4 rfl) ?_
  refine va_get (D := D) (ci := 4) (v := .int 0) (C := RX0) (T := TX0) (N := 3) hx hb hts (by decide +kernel) hown hK hP 0 rfl rfl 2 (by decide) (hts (.fieldLink RX10 17 "SignetRing$Span" "size" "I") (by decide +kernel)) (fun _ h9 => h9) rfl dX10_number_31 ?_
  refine lv_icmp_ge (tgt := 56) hx hb dX10_number_34 (by decide) (fun _ => ?_) (fun c9 => absurd (by decide) c9)
  refine lv_iconst (v := 0) hx hb dX10_number_56 (by decide) ?_
  refine lv_istore (lv' := [(7, .int 0), (6, .int 22), (5, .int 2), (3, .long 0), (0, .ref h0), (1, .int 20), (2, .int 4)]) hx hb dX10_number_57 hl (by decide) rfl (fun ls hl => ?_)
  refine lv_lload_n hx hb dX10_number_59 rfl (lv_at hl 3 rfl) ?_
  refine lv_bipush (v := 8) hx hb dX10_number_60 (by decide) ?_
  refine lv_lshl hx hb dX10_number_62 rfl ?_
  refine lv_topl (fun v14 ev14 => ?_)
  have ev14 : v14 = 0 := ev14.trans (by decide +kernel)
  subst ev14
  refine lv_iload hx hb dX10_number_63 (lv_at hl 0 rfl) ?_
  refine lv_if_eq (tgt := 82) hx hb dX10_number_65 (by decide) (fun _ => ?_) (fun c9 => absurd (by decide) c9)
  refine lv_iconst (v := 0) hx hb dX10_number_82 (by decide) ?_
  refine lv_i2l (v := 0) hx hb dX10_number_83 (by decide +kernel) ?_
  refine lv_lor hx hb dX10_number_84 ?_
  refine lv_topl (fun v15 ev15 => ?_)
  have ev15 : v15 = 0 := ev15.trans (by decide +kernel)
  subst ev15
  refine lv_lstore_n (lv' := [(3, .long 0), (7, .int 0), (6, .int 22), (5, .int 2), (0, .ref h0), (1, .int 20), (2, .int 4)]) hx hb dX10_number_85 rfl hl (by decide) rfl (fun ls hl => ?_)
  refine lv_iinc (v := 3) (lv' := [(5, .int 3), (3, .long 0), (7, .int 0), (6, .int 22), (0, .ref h0), (1, .int 20), (2, .int 4)]) hx hb dX10_number_86 hl (k := 3) rfl (by decide) (by decide) rfl (fun ls hl => ?_)
  refine lv_goto (tgt := 5) hx hb dX10_number_89 (by decide) ?_
  refine lv_iload hx hb dX10_number_5 (lv_at hl 0 rfl) ?_
  refine lv_iload_n hx hb dX10_number_7 rfl (lv_at hl 6 rfl) ?_
  refine lv_icmp_ge (tgt := 92) hx hb dX10_number_8 (by decide) (fun c9 => absurd c9 (by decide)) (fun _ => ?_)
  refine lv_aload_n hx hb dX10_number_11 rfl (lv_at hl 4 rfl) ?_
  refine va_get (D := D) (ci := 4) (v := .int 0) (C := RX0) (T := TX0) (N := 3) hx hb hts (by decide +kernel) hown hK hP 0 rfl rfl 1 (by decide) (hts (.fieldLink RX10 13 "SignetRing$Span" "from" "I") (by decide +kernel)) (fun _ h9 => h9) rfl dX10_number_12 ?_
  refine lv_iload_n hx hb dX10_number_15 rfl (lv_at hl 5 rfl) ?_
  refine lv_iadd hx hb dX10_number_16 ?_
  refine lv_topi (fun v16 ev16 => ?_)
  have ev16 : v16 = 20 := ev16.trans (by decide +kernel)
  subst ev16
  refine lv_iload hx hb dX10_number_17 (lv_at hl 0 rfl) ?_
  refine lv_iadd hx hb dX10_number_19 ?_
  refine lv_topi (fun v17 ev17 => ?_)
  have ev17 : v17 = 23 := ev17.trans (by decide +kernel)
  subst ev17
  refine lv_istore (lv' := [(6, .int 23), (5, .int 3), (3, .long 0), (7, .int 0), (0, .ref h0), (1, .int 20), (2, .int 4)]) hx hb dX10_number_20 hl (by decide) rfl (fun ls hl => ?_)
  refine lv_iload_n hx hb dX10_number_22 rfl (lv_at hl 5 rfl) ?_
  refine lv_if_lt (tgt := 56) hx hb dX10_number_23 (by decide) (fun c9 => absurd c9 (by decide)) (fun _ => ?_)
  refine lv_iload_n hx hb dX10_number_26 rfl (lv_at hl 5 rfl) ?_
  refine lv_iload hx hb dX10_number_27 (lv_at hl 1 rfl) ?_
  refine lv_iadd hx hb dX10_number_29 ?_
  refine lv_topi (fun v18 ev18 => ?_)
  have ev18 : v18 = 23 := ev18.trans (by decide +kernel)
  subst ev18
  refine lv_aload_n hx hb dX10_number_30 rfl (lv_at hl 4 rfl) ?_
  refine va_get (D := D) (ci := 4) (v := .int 0) (C := RX0) (T := TX0) (N := 3) hx hb hts (by decide +kernel) hown hK hP 0 rfl rfl 2 (by decide) (hts (.fieldLink RX10 17 "SignetRing$Span" "size" "I") (by decide +kernel)) (fun _ h9 => h9) rfl dX10_number_31 ?_
  refine lv_icmp_ge (tgt := 56) hx hb dX10_number_34 (by decide) (fun _ => ?_) (fun c9 => absurd (by decide) c9)
  refine lv_iconst (v := 0) hx hb dX10_number_56 (by decide) ?_
  refine lv_istore (lv' := [(7, .int 0), (6, .int 23), (5, .int 3), (3, .long 0), (0, .ref h0), (1, .int 20), (2, .int 4)]) hx hb dX10_number_57 hl (by decide) rfl (fun ls hl => ?_)
  refine lv_lload_n hx hb dX10_number_59 rfl (lv_at hl 3 rfl) ?_
  refine lv_bipush (v := 8) hx hb dX10_number_60 (by decide) ?_
  refine lv_lshl hx hb dX10_number_62 rfl ?_
  refine lv_topl (fun v19 ev19 => ?_)
  have ev19 : v19 = 0 := ev19.trans (by decide +kernel)
  subst ev19
  refine lv_iload hx hb dX10_number_63 (lv_at hl 0 rfl) ?_
  refine lv_if_eq (tgt := 82) hx hb dX10_number_65 (by decide) (fun _ => ?_) (fun c9 => absurd (by decide) c9)
  refine lv_iconst (v := 0) hx hb dX10_number_82 (by decide) ?_
  refine lv_i2l (v := 0) hx hb dX10_number_83 (by decide +kernel) ?_
  refine lv_lor hx hb dX10_number_84 ?_
  refine lv_topl (fun v20 ev20 => ?_)
  have ev20 : v20 = 0 := ev20.trans (by decide +kernel)
  subst ev20
  refine lv_lstore_n (lv' := [(3, .long 0), (7, .int 0), (6, .int 23), (5, .int 3), (0, .ref h0), (1, .int 20), (2, .int 4)]) hx hb dX10_number_85 rfl hl (by decide) rfl (fun ls hl => ?_)
  refine lv_iinc (v := 4) (lv' := [(5, .int 4), (3, .long 0), (7, .int 0), (6, .int 23), (0, .ref h0), (1, .int 20), (2, .int 4)]) hx hb dX10_number_86 hl (k := 3) rfl (by decide) (by decide) rfl (fun ls hl => ?_)
  refine lv_goto (tgt := 5) hx hb dX10_number_89 (by decide) ?_
  refine lv_iload hx hb dX10_number_5 (lv_at hl 0 rfl) ?_
  refine lv_iload_n hx hb dX10_number_7 rfl (lv_at hl 6 rfl) ?_
  refine lv_icmp_ge (tgt := 92) hx hb dX10_number_8 (by decide) (fun _ => ?_) (fun c9 => absurd (by decide) c9)
  refine lv_lload_n hx hb dX10_number_92 rfl (lv_at hl 1 rfl) ?_
  have hP9 := hP.sub (ws' := [(h0, .inr (4, [w1, .int 0, .int 0]))]) [0] rfl
  have hD9 := hD.sub (ws' := [(h0, .inr (4, [w1, .int 0, .int 0]))]) [0] (by decide) rfl
  refine W.widen (k := 0) (n := 0) (Nat.le_of_ble_eq_true rfl) (Nat.le_of_ble_eq_true rfl) ?_
  exact W.lret (v := 0) hx hb hr (fun t ht hW => ⟨⟨0, (), rfl, rfl, by rw [ht]; exact hP9, hD9⟩, hS.F ht⟩) hS.2.2 dX10_number_93
def wz_c_X1_wordOf_20 : List Cond := .code yX1_wordOf cX1_wordOf 4 (some .int) :: ([.methodLink RX1 44 ⟨"SignetRing$Span", "number", "(II)J"⟩, .sameMethod "SignetRing$Span" "SignetRing$Span" "number" "(II)J", .selects RX0 ⟨"SignetRing$Span", "number", "(II)J"⟩ yX10_number, .instanceMethod yX10_number, .initialized RX10, .fieldLink RX1 28 "SignetRing$Span" "size" "I"] ++ (wsX00 ++ (wz_c_num4_20 ++ ([]))))
set_option maxRecDepth 100000 in
theorem gz_c_X1_wordOf_20_c_num4_20 : GoodIn wz_c_X1_wordOf_20 wz_c_num4_20 := goodIn_sub (fun w h => List.mem_cons_of_mem _ (List.mem_append_right _ (List.mem_append_right _ (List.mem_append_left _ h)))) (by decide +kernel)
set_option maxRecDepth 100000 in
theorem gv_c_X1_wordOf_20_c_num4_20_44 : GoodIn wz_c_X1_wordOf_20 (va_wsU RX1 44 RX0 "SignetRing$Span" ⟨"SignetRing$Span", "number", "(II)J"⟩ yX10_number wz_c_num4_20) := goodIn_app (goodIn_of _ (by decide +kernel)) gz_c_X1_wordOf_20_c_num4_20
set_option maxHeartbeats 4000000 in
set_option maxRecDepth 100000 in
theorem c_X1_wordOf_20 (l : Launch) (D : va_G) (y : Nat → ClassId) (sz : Nat) (h0 : Nat) (w1 : Value) : Met l yX1_wordOf wz_c_X1_wordOf_20 ({ frames := 1, cells := 0, slots := 0, locals := 27 }) (va_Pc [.ref h0, .int 20] (zB D y [(h0, .inr (4, [w1, .int 0, .int 0]))] sz [] [] [] [])) (va_Qi (fun (r : Int32) (_ : Unit) => r = 0) (fun _ t => va_P D vwCl [(h0, .inr (4, [w1, .int 0, .int 0]))] t.heap ∧ va_D (va_A [(h0, .inr (4, [w1, .int 0, .int 0]))] sz) [(h0, .inr (4, [w1, .int 0, .int 0]))]) (va_A [(h0, .inr (4, [w1, .int 0, .int 0]))] sz)) 0 0 (va_A [(h0, .inr (4, [w1, .int 0, .int 0]))] sz) := by
  refine Met.ofW (cc := cX1_wordOf) (maxL := 4) (ret := (some .int)) (by decide) rfl ?_
  intro p e s m args below meth c s₁ B hml hv
  obtain ⟨rfl, hsz, hP, hK, hD0, hN, hE, hO, hT, hG⟩ := hv
  have hx := B.exec
  have hb := B.bytes
  have hr := B.returns
  have hts := atoms_spec (ws := wz_c_X1_wordOf_20) B.pre
  have hown : s.vm.findClass RX1 = some m.cls := findClass_of_methodNamed B.named
  have hlocks := B.notSynchronized
  subst hsz
  have hD := hD0.self (sz := s.heap.size)
  generalize hAe : va_A [(h0, .inr (4, [w1, .int 0, .int 0]))] s.heap.size = A at hD hE hT hG ⊢
  have hA : ∀ q : Nat, s.heap.size ≤ q → A q := fun q h => by rw [← hAe]; exact Or.inr h
  have hS : va_S A s.heap s.heap [] := va_S.rf
  have hl := lv_entry ([.ref h0, .int 20]) (n := 4) (Nat.le_of_ble_eq_true rfl)
  rw [lg_entry_eq]
  generalize (lg_sl ([.ref h0, .int 20]) ++ List.replicate (4 - (lg_sl ([.ref h0, .int 20])).length) Slot.unset).toArray = ls at hl ⊢
  have hl : lv_has ls 4 [(0, .ref h0), (1, .int 20)] := hl
  refine lv_aload_n hx hb dX1_wordOf_0 rfl (lv_at hl 0 rfl) ?_
  refine lv_iload_n hx hb dX1_wordOf_1 rfl (lv_at hl 1 rfl) ?_
  refine lv_iconst (v := 4) hx hb dX1_wordOf_2 (by decide) ?_
  have hPc := hP.sub (ws' := [(h0, .inr (4, [w1, .int 0, .int 0]))]) [0] rfl
  have hDc := hD.sub (ws' := [(h0, .inr (4, [w1, .int 0, .int 0]))]) [0] (by decide) rfl
  have hFc := va_free (wc := [(h0, .inr (4, [w1, .int 0, .int 0]))]) hD hS hA [0] rfl
  refine va_calll (va_runU (As := [.int 20, .int 4]) (rest := []) ⟨hx, hb, hml, hown, hts⟩ (c_num4_20 l D y s.heap.size h0 w1) (va_cwU 2 hts gv_c_X1_wordOf_20_c_num4_20_44 rfl rfl rfl rfl (by decide +kernel) ⟨(Nat.le_of_ble_eq_true rfl), (Nat.le_of_ble_eq_true rfl)⟩) (zB.preV hPc hDc hK hN hE hO hT hG hS hFc (fun _ h => nomatch h) (fun _ h => nomatch h) (fun _ h => nomatch h) (fun _ h => nomatch h) (va_recv hK hPc (ci := 4) (q0 := 0) rfl rfl)) rfl rfl hl.1 rfl (lv_room (Nat.le_of_ble_eq_true rfl)) dX1_wordOf_3 ⟨(Nat.le_of_ble_eq_true rfl), (Nat.le_of_ble_eq_true rfl)⟩) hS (fun q _ h => hFc q h) hFc (fun r1 u t H1 locs ht hvm hw hB hz1 hk1 hS => ?_)
  obtain ⟨hP1, hD1⟩ := hB
  rw [ht] at hP1
  obtain ⟨hP, hD⟩ := va_join (wr := []) (w1 := [(h0, .inr (4, [w1, .int 0, .int 0]))]) hP hD [0] [] rfl rfl (by decide) (by decide) hk1 hFc hP1 hD1
  generalize H1 = H at hP hS ⊢
  have hP : va_P D vwCl [(h0, .inr (4, [w1, .int 0, .int 0]))] H := hP
  have hD : va_D A [(h0, .inr (4, [w1, .int 0, .int 0]))] := hD
  have hw : r1 = 0 := hw
  subst hw
  refine lv_l2i (v := 0) hx hb dX1_wordOf_6 (by decide +kernel) ?_
  refine lv_istore_n (lv' := [(2, .int 0), (0, .ref h0), (1, .int 20)]) hx hb dX1_wordOf_7 rfl hl (by decide) rfl (fun ls hl => ?_)
  refine lv_aload_n hx hb dX1_wordOf_8 rfl (lv_at hl 1 rfl) ?_
  refine va_get (D := D) (ci := 4) (v := .int 0) (C := RX0) (T := TX0) (N := 3) hx hb hts (by decide +kernel) hown hK hP 0 rfl rfl 2 (by decide) (hts (.fieldLink RX1 28 "SignetRing$Span" "size" "I") (by decide +kernel)) (fun _ h9 => h9) rfl dX1_wordOf_9 ?_
  refine lv_iload_n hx hb dX1_wordOf_12 rfl (lv_at hl 2 rfl) ?_
  refine lv_isub hx hb dX1_wordOf_13 ?_
  refine lv_topi (fun v2 ev2 => ?_)
  have ev2 : v2 = -20 := ev2.trans (by decide +kernel)
  subst ev2
  refine lv_istore_n (lv' := [(3, .int (-20)), (2, .int 0), (0, .ref h0), (1, .int 20)]) hx hb dX1_wordOf_14 rfl hl (by decide) rfl (fun ls hl => ?_)
  refine lv_iload_n hx hb dX1_wordOf_15 rfl (lv_at hl 0 rfl) ?_
  refine lv_if_lt (tgt := 40) hx hb dX1_wordOf_16 (by decide) (fun _ => ?_) (fun c9 => absurd (by decide) c9)
  refine lv_iload_n hx hb dX1_wordOf_40 rfl (lv_at hl 1 rfl) ?_
  have hP9 := hP.sub (ws' := [(h0, .inr (4, [w1, .int 0, .int 0]))]) [0] rfl
  have hD9 := hD.sub (ws' := [(h0, .inr (4, [w1, .int 0, .int 0]))]) [0] (by decide) rfl
  refine W.widen (k := 0) (n := 0) (Nat.le_of_ble_eq_true rfl) (Nat.le_of_ble_eq_true rfl) ?_
  exact W.iret (v := 0) hx hb hr (fun t ht hW => ⟨⟨0, (), rfl, rfl, by rw [ht]; exact hP9, hD9⟩, hS.F ht⟩) hS.2.2 dX1_wordOf_41
def wz_c_num4_24 : List Cond := .code yX10_number cX10_number 8 (some .long) :: ([.fieldLink RX10 13 "SignetRing$Span" "from" "I", .fieldLink RX10 17 "SignetRing$Span" "size" "I"] ++ (wsX00 ++ ([])))
set_option maxHeartbeats 4000000 in
set_option maxRecDepth 100000 in
theorem c_num4_24 (l : Launch) (D : va_G) (y : Nat → ClassId) (sz : Nat) (h0 : Nat) (w1 : Value) : Met l yX10_number wz_c_num4_24 ({ frames := 0, cells := 0, slots := 0, locals := 0 }) (va_Pc [.ref h0, .int 24, .int 4] (zB D y [(h0, .inr (4, [w1, .int 0, .int 0]))] sz [] [] [] [])) (va_Ql (fun (r : Int64) (_ : Unit) => r = 0) (fun _ t => va_P D vwCl [(h0, .inr (4, [w1, .int 0, .int 0]))] t.heap ∧ va_D (va_A [(h0, .inr (4, [w1, .int 0, .int 0]))] sz) [(h0, .inr (4, [w1, .int 0, .int 0]))]) (va_A [(h0, .inr (4, [w1, .int 0, .int 0]))] sz)) 0 0 (va_A [(h0, .inr (4, [w1, .int 0, .int 0]))] sz) := by
  refine Met.ofW (cc := cX10_number) (maxL := 8) (ret := (some .long)) (by decide) rfl ?_
  intro p e s m args below meth c s₁ B hml hv
  obtain ⟨rfl, hsz, hP, hK, hD0, hN, hE, hO, hT, hG⟩ := hv
  have hx := B.exec
  have hb := B.bytes
  have hr := B.returns
  have hts := atoms_spec (ws := wz_c_num4_24) B.pre
  have hown : s.vm.findClass RX10 = some m.cls := findClass_of_methodNamed B.named
  have hlocks := B.notSynchronized
  subst hsz
  have hD := hD0.self (sz := s.heap.size)
  generalize hAe : va_A [(h0, .inr (4, [w1, .int 0, .int 0]))] s.heap.size = A at hD hE hT hG ⊢
  have hA : ∀ q : Nat, s.heap.size ≤ q → A q := fun q h => by rw [← hAe]; exact Or.inr h
  have hS : va_S A s.heap s.heap [] := va_S.rf
  have hl := lv_entry ([.ref h0, .int 24, .int 4]) (n := 8) (Nat.le_of_ble_eq_true rfl)
  rw [lg_entry_eq]
  generalize (lg_sl ([.ref h0, .int 24, .int 4]) ++ List.replicate (8 - (lg_sl ([.ref h0, .int 24, .int 4])).length) Slot.unset).toArray = ls at hl ⊢
  have hl : lv_has ls 8 [(0, .ref h0), (1, .int 24), (2, .int 4)] := hl
  refine lv_lconst (v := 0) hx hb dX10_number_0 (by decide) ?_
  refine lv_lstore_n (lv' := [(3, .long 0), (0, .ref h0), (1, .int 24), (2, .int 4)]) hx hb dX10_number_1 rfl hl (by decide) rfl (fun ls hl => ?_)
  refine lv_iconst (v := 0) hx hb dX10_number_2 (by decide) ?_
  refine lv_istore (lv' := [(5, .int 0), (3, .long 0), (0, .ref h0), (1, .int 24), (2, .int 4)]) hx hb dX10_number_3 hl (by decide) rfl (fun ls hl => ?_)
  refine lv_iload hx hb dX10_number_5 (lv_at hl 0 rfl) ?_
  refine lv_iload_n hx hb dX10_number_7 rfl (lv_at hl 4 rfl) ?_
  refine lv_icmp_ge (tgt := 92) hx hb dX10_number_8 (by decide) (fun c9 => absurd c9 (by decide)) (fun _ => ?_)
  refine lv_aload_n hx hb dX10_number_11 rfl (lv_at hl 2 rfl) ?_
  refine va_get (D := D) (ci := 4) (v := .int 0) (C := RX0) (T := TX0) (N := 3) hx hb hts (by decide +kernel) hown hK hP 0 rfl rfl 1 (by decide) (hts (.fieldLink RX10 13 "SignetRing$Span" "from" "I") (by decide +kernel)) (fun _ h9 => h9) rfl dX10_number_12 ?_
  refine lv_iload_n hx hb dX10_number_15 rfl (lv_at hl 3 rfl) ?_
  refine lv_iadd hx hb dX10_number_16 ?_
  refine lv_topi (fun v1 ev1 => ?_)
  have ev1 : v1 = 24 := ev1.trans (by decide +kernel)
  subst ev1
  refine lv_iload hx hb dX10_number_17 (lv_at hl 0 rfl) ?_
  refine lv_iadd hx hb dX10_number_19 ?_
  refine lv_topi (fun v2 ev2 => ?_)
  have ev2 : v2 = 24 := ev2.trans (by decide +kernel)
  subst ev2
  refine lv_istore (lv' := [(6, .int 24), (5, .int 0), (3, .long 0), (0, .ref h0), (1, .int 24), (2, .int 4)]) hx hb dX10_number_20 hl (by decide) rfl (fun ls hl => ?_)
  refine lv_iload_n hx hb dX10_number_22 rfl (lv_at hl 4 rfl) ?_
  refine lv_if_lt (tgt := 56) hx hb dX10_number_23 (by decide) (fun c9 => absurd c9 (by decide)) (fun _ => ?_)
  refine lv_iload_n hx hb dX10_number_26 rfl (lv_at hl 4 rfl) ?_
  refine lv_iload hx hb dX10_number_27 (lv_at hl 1 rfl) ?_
  refine lv_iadd hx hb dX10_number_29 ?_
  refine lv_topi (fun v3 ev3 => ?_)
  have ev3 : v3 = 24 := ev3.trans (by decide +kernel)
  subst ev3
  refine lv_aload_n hx hb dX10_number_30 rfl (lv_at hl 3 rfl) ?_
  refine va_get (D := D) (ci := 4) (v := .int 0) (C := RX0) (T := TX0) (N := 3) hx hb hts (by decide +kernel) hown hK hP 0 rfl rfl 2 (by decide) (hts (.fieldLink RX10 17 "SignetRing$Span" "size" "I") (by decide +kernel)) (fun _ h9 => h9) rfl dX10_number_31 ?_
  refine lv_icmp_ge (tgt := 56) hx hb dX10_number_34 (by decide) (fun _ => ?_) (fun c9 => absurd (by decide) c9)
  refine lv_iconst (v := 0) hx hb dX10_number_56 (by decide) ?_
  refine lv_istore (lv' := [(7, .int 0), (6, .int 24), (5, .int 0), (3, .long 0), (0, .ref h0), (1, .int 24), (2, .int 4)]) hx hb dX10_number_57 hl (by decide) rfl (fun ls hl => ?_)
  refine lv_lload_n hx hb dX10_number_59 rfl (lv_at hl 3 rfl) ?_
  refine lv_bipush (v := 8) hx hb dX10_number_60 (by decide) ?_
  refine lv_lshl hx hb dX10_number_62 rfl ?_
  refine lv_topl (fun v4 ev4 => ?_)
  have ev4 : v4 = 0 := ev4.trans (by decide +kernel)
  subst ev4
  refine lv_iload hx hb dX10_number_63 (lv_at hl 0 rfl) ?_
  refine lv_if_eq (tgt := 82) hx hb dX10_number_65 (by decide) (fun _ => ?_) (fun c9 => absurd (by decide) c9)
  refine lv_iconst (v := 0) hx hb dX10_number_82 (by decide) ?_
  refine lv_i2l (v := 0) hx hb dX10_number_83 (by decide +kernel) ?_
  refine lv_lor hx hb dX10_number_84 ?_
  refine lv_topl (fun v5 ev5 => ?_)
  have ev5 : v5 = 0 := ev5.trans (by decide +kernel)
  subst ev5
  refine lv_lstore_n (lv' := [(3, .long 0), (7, .int 0), (6, .int 24), (5, .int 0), (0, .ref h0), (1, .int 24), (2, .int 4)]) hx hb dX10_number_85 rfl hl (by decide) rfl (fun ls hl => ?_)
  refine lv_iinc (v := 1) (lv' := [(5, .int 1), (3, .long 0), (7, .int 0), (6, .int 24), (0, .ref h0), (1, .int 24), (2, .int 4)]) hx hb dX10_number_86 hl (k := 3) rfl (by decide) (by decide) rfl (fun ls hl => ?_)
  refine lv_goto (tgt := 5) hx hb dX10_number_89 (by decide) ?_
  refine lv_iload hx hb dX10_number_5 (lv_at hl 0 rfl) ?_
  refine lv_iload_n hx hb dX10_number_7 rfl (lv_at hl 6 rfl) ?_
  refine lv_icmp_ge (tgt := 92) hx hb dX10_number_8 (by decide) (fun c9 => absurd c9 (by decide)) (fun _ => ?_)
  refine lv_aload_n hx hb dX10_number_11 rfl (lv_at hl 4 rfl) ?_
  refine va_get (D := D) (ci := 4) (v := .int 0) (C := RX0) (T := TX0) (N := 3) hx hb hts (by decide +kernel) hown hK hP 0 rfl rfl 1 (by decide) (hts (.fieldLink RX10 13 "SignetRing$Span" "from" "I") (by decide +kernel)) (fun _ h9 => h9) rfl dX10_number_12 ?_
  refine lv_iload_n hx hb dX10_number_15 rfl (lv_at hl 5 rfl) ?_
  refine lv_iadd hx hb dX10_number_16 ?_
  refine lv_topi (fun v6 ev6 => ?_)
  have ev6 : v6 = 24 := ev6.trans (by decide +kernel)
  subst ev6
  refine lv_iload hx hb dX10_number_17 (lv_at hl 0 rfl) ?_
  refine lv_iadd hx hb dX10_number_19 ?_
  refine lv_topi (fun v7 ev7 => ?_)
  have ev7 : v7 = 25 := ev7.trans (by decide +kernel)
  subst ev7
  refine lv_istore (lv' := [(6, .int 25), (5, .int 1), (3, .long 0), (7, .int 0), (0, .ref h0), (1, .int 24), (2, .int 4)]) hx hb dX10_number_20 hl (by decide) rfl (fun ls hl => ?_)
  refine lv_iload_n hx hb dX10_number_22 rfl (lv_at hl 5 rfl) ?_
  refine lv_if_lt (tgt := 56) hx hb dX10_number_23 (by decide) (fun c9 => absurd c9 (by decide)) (fun _ => ?_)
  refine lv_iload_n hx hb dX10_number_26 rfl (lv_at hl 5 rfl) ?_
  refine lv_iload hx hb dX10_number_27 (lv_at hl 1 rfl) ?_
  refine lv_iadd hx hb dX10_number_29 ?_
  refine lv_topi (fun v8 ev8 => ?_)
  have ev8 : v8 = 25 := ev8.trans (by decide +kernel)
  subst ev8
  refine lv_aload_n hx hb dX10_number_30 rfl (lv_at hl 4 rfl) ?_
  refine va_get (D := D) (ci := 4) (v := .int 0) (C := RX0) (T := TX0) (N := 3) hx hb hts (by decide +kernel) hown hK hP 0 rfl rfl 2 (by decide) (hts (.fieldLink RX10 17 "SignetRing$Span" "size" "I") (by decide +kernel)) (fun _ h9 => h9) rfl dX10_number_31 ?_
  refine lv_icmp_ge (tgt := 56) hx hb dX10_number_34 (by decide) (fun _ => ?_) (fun c9 => absurd (by decide) c9)
  refine lv_iconst (v := 0) hx hb dX10_number_56 (by decide) ?_
  refine lv_istore (lv' := [(7, .int 0), (6, .int 25), (5, .int 1), (3, .long 0), (0, .ref h0), (1, .int 24), (2, .int 4)]) hx hb dX10_number_57 hl (by decide) rfl (fun ls hl => ?_)
  refine lv_lload_n hx hb dX10_number_59 rfl (lv_at hl 3 rfl) ?_
  refine lv_bipush (v := 8) hx hb dX10_number_60 (by decide) ?_
  refine lv_lshl hx hb dX10_number_62 rfl ?_
  refine lv_topl (fun v9 ev9 => ?_)
  have ev9 : v9 = 0 := ev9.trans (by decide +kernel)
  subst ev9
  refine lv_iload hx hb dX10_number_63 (lv_at hl 0 rfl) ?_
  refine lv_if_eq (tgt := 82) hx hb dX10_number_65 (by decide) (fun _ => ?_) (fun c9 => absurd (by decide) c9)
  refine lv_iconst (v := 0) hx hb dX10_number_82 (by decide) ?_
  refine lv_i2l (v := 0) hx hb dX10_number_83 (by decide +kernel) ?_
  refine lv_lor hx hb dX10_number_84 ?_
  refine lv_topl (fun v10 ev10 => ?_)
  have ev10 : v10 = 0 := ev10.trans (by decide +kernel)
  subst ev10
  refine lv_lstore_n (lv' := [(3, .long 0), (7, .int 0), (6, .int 25), (5, .int 1), (0, .ref h0), (1, .int 24), (2, .int 4)]) hx hb dX10_number_85 rfl hl (by decide) rfl (fun ls hl => ?_)
  refine lv_iinc (v := 2) (lv' := [(5, .int 2), (3, .long 0), (7, .int 0), (6, .int 25), (0, .ref h0), (1, .int 24), (2, .int 4)]) hx hb dX10_number_86 hl (k := 3) rfl (by decide) (by decide) rfl (fun ls hl => ?_)
  refine lv_goto (tgt := 5) hx hb dX10_number_89 (by decide) ?_
  refine lv_iload hx hb dX10_number_5 (lv_at hl 0 rfl) ?_
  refine lv_iload_n hx hb dX10_number_7 rfl (lv_at hl 6 rfl) ?_
  refine lv_icmp_ge (tgt := 92) hx hb dX10_number_8 (by decide) (fun c9 => absurd c9 (by decide)) (fun _ => ?_)
  refine lv_aload_n hx hb dX10_number_11 rfl (lv_at hl 4 rfl) ?_
  refine va_get (D := D) (ci := 4) (v := .int 0) (C := RX0) (T := TX0) (N := 3) hx hb hts (by decide +kernel) hown hK hP 0 rfl rfl 1 (by decide) (hts (.fieldLink RX10 13 "SignetRing$Span" "from" "I") (by decide +kernel)) (fun _ h9 => h9) rfl dX10_number_12 ?_
  refine lv_iload_n hx hb dX10_number_15 rfl (lv_at hl 5 rfl) ?_
  refine lv_iadd hx hb dX10_number_16 ?_
  refine lv_topi (fun v11 ev11 => ?_)
  have ev11 : v11 = 24 := ev11.trans (by decide +kernel)
  subst ev11
  refine lv_iload hx hb dX10_number_17 (lv_at hl 0 rfl) ?_
  refine lv_iadd hx hb dX10_number_19 ?_
  refine lv_topi (fun v12 ev12 => ?_)
  have ev12 : v12 = 26 := ev12.trans (by decide +kernel)
  subst ev12
  refine lv_istore (lv' := [(6, .int 26), (5, .int 2), (3, .long 0), (7, .int 0), (0, .ref h0), (1, .int 24), (2, .int 4)]) hx hb dX10_number_20 hl (by decide) rfl (fun ls hl => ?_)
  refine lv_iload_n hx hb dX10_number_22 rfl (lv_at hl 5 rfl) ?_
  refine lv_if_lt (tgt := 56) hx hb dX10_number_23 (by decide) (fun c9 => absurd c9 (by decide)) (fun _ => ?_)
  refine lv_iload_n hx hb dX10_number_26 rfl (lv_at hl 5 rfl) ?_
  refine lv_iload hx hb dX10_number_27 (lv_at hl 1 rfl) ?_
  refine lv_iadd hx hb dX10_number_29 ?_
  refine lv_topi (fun v13 ev13 => ?_)
  have ev13 : v13 = 26 := ev13.trans (by decide +kernel)
  subst ev13
  refine lv_aload_n hx hb dX10_number_30 rfl (lv_at hl 4 rfl) ?_
  refine va_get (D := D) (ci := 4) (v := .int 0) (C := RX0) (T := TX0) (N := 3) hx hb hts (by decide +kernel) hown hK hP 0 rfl rfl 2 (by decide) (hts (.fieldLink RX10 17 "SignetRing$Span" "size" "I") (by decide +kernel)) (fun _ h9 => h9) rfl dX10_number_31 ?_
  refine lv_icmp_ge (tgt := 56) hx hb dX10_number_34 (by decide) (fun _ => ?_) (fun c9 => absurd (by decide) c9)
  refine lv_iconst (v := 0) hx hb dX10_number_56 (by decide) ?_
  refine lv_istore (lv' := [(7, .int 0), (6, .int 26), (5, .int 2), (3, .long 0), (0, .ref h0), (1, .int 24), (2, .int 4)]) hx hb dX10_number_57 hl (by decide) rfl (fun ls hl => ?_)
  refine lv_lload_n hx hb dX10_number_59 rfl (lv_at hl 3 rfl) ?_
  refine lv_bipush (v := 8) hx hb dX10_number_60 (by decide) ?_
  refine lv_lshl hx hb dX10_number_62 rfl ?_
  refine lv_topl (fun v14 ev14 => ?_)
  have ev14 : v14 = 0 := ev14.trans (by decide +kernel)
  subst ev14
  refine lv_iload hx hb dX10_number_63 (lv_at hl 0 rfl) ?_
  refine lv_if_eq (tgt := 82) hx hb dX10_number_65 (by decide) (fun _ => ?_) (fun c9 => absurd (by decide) c9)
  refine lv_iconst (v := 0) hx hb dX10_number_82 (by decide) ?_
  refine lv_i2l (v := 0) hx hb dX10_number_83 (by decide +kernel) ?_
  refine lv_lor hx hb dX10_number_84 ?_
  refine lv_topl (fun v15 ev15 => ?_)
  have ev15 : v15 = 0 := ev15.trans (by decide +kernel)
  subst ev15
  refine lv_lstore_n (lv' := [(3, .long 0), (7, .int 0), (6, .int 26), (5, .int 2), (0, .ref h0), (1, .int 24), (2, .int 4)]) hx hb dX10_number_85 rfl hl (by decide) rfl (fun ls hl => ?_)
  refine lv_iinc (v := 3) (lv' := [(5, .int 3), (3, .long 0), (7, .int 0), (6, .int 26), (0, .ref h0), (1, .int 24), (2, .int 4)]) hx hb dX10_number_86 hl (k := 3) rfl (by decide) (by decide) rfl (fun ls hl => ?_)
  refine lv_goto (tgt := 5) hx hb dX10_number_89 (by decide) ?_
  refine lv_iload hx hb dX10_number_5 (lv_at hl 0 rfl) ?_
  refine lv_iload_n hx hb dX10_number_7 rfl (lv_at hl 6 rfl) ?_
  refine lv_icmp_ge (tgt := 92) hx hb dX10_number_8 (by decide) (fun c9 => absurd c9 (by decide)) (fun _ => ?_)
  refine lv_aload_n hx hb dX10_number_11 rfl (lv_at hl 4 rfl) ?_
  refine va_get (D := D) (ci := 4) (v := .int 0) (C := RX0) (T := TX0) (N := 3) hx hb hts (by decide +kernel) hown hK hP 0 rfl rfl 1 (by decide) (hts (.fieldLink RX10 13 "SignetRing$Span" "from" "I") (by decide +kernel)) (fun _ h9 => h9) rfl dX10_number_12 ?_
  refine lv_iload_n hx hb dX10_number_15 rfl (lv_at hl 5 rfl) ?_
  refine lv_iadd hx hb dX10_number_16 ?_
  refine lv_topi (fun v16 ev16 => ?_)
  have ev16 : v16 = 24 := ev16.trans (by decide +kernel)
  subst ev16
  refine lv_iload hx hb dX10_number_17 (lv_at hl 0 rfl) ?_
  refine lv_iadd hx hb dX10_number_19 ?_
  refine lv_topi (fun v17 ev17 => ?_)
  have ev17 : v17 = 27 := ev17.trans (by decide +kernel)
  subst ev17
  refine lv_istore (lv' := [(6, .int 27), (5, .int 3), (3, .long 0), (7, .int 0), (0, .ref h0), (1, .int 24), (2, .int 4)]) hx hb dX10_number_20 hl (by decide) rfl (fun ls hl => ?_)
  refine lv_iload_n hx hb dX10_number_22 rfl (lv_at hl 5 rfl) ?_
  refine lv_if_lt (tgt := 56) hx hb dX10_number_23 (by decide) (fun c9 => absurd c9 (by decide)) (fun _ => ?_)
  refine lv_iload_n hx hb dX10_number_26 rfl (lv_at hl 5 rfl) ?_
  refine lv_iload hx hb dX10_number_27 (lv_at hl 1 rfl) ?_
  refine lv_iadd hx hb dX10_number_29 ?_
  refine lv_topi (fun v18 ev18 => ?_)
  have ev18 : v18 = 27 := ev18.trans (by decide +kernel)
  subst ev18
  refine lv_aload_n hx hb dX10_number_30 rfl (lv_at hl 4 rfl) ?_
  refine va_get (D := D) (ci := 4) (v := .int 0) (C := RX0) (T := TX0) (N := 3) hx hb hts (by decide +kernel) hown hK hP 0 rfl rfl 2 (by decide) (hts (.fieldLink RX10 17 "SignetRing$Span" "size" "I") (by decide +kernel)) (fun _ h9 => h9) rfl dX10_number_31 ?_
  refine lv_icmp_ge (tgt := 56) hx hb dX10_number_34 (by decide) (fun _ => ?_) (fun c9 => absurd (by decide) c9)
  refine lv_iconst (v := 0) hx hb dX10_number_56 (by decide) ?_
  refine lv_istore (lv' := [(7, .int 0), (6, .int 27), (5, .int 3), (3, .long 0), (0, .ref h0), (1, .int 24), (2, .int 4)]) hx hb dX10_number_57 hl (by decide) rfl (fun ls hl => ?_)
  refine lv_lload_n hx hb dX10_number_59 rfl (lv_at hl 3 rfl) ?_
  refine lv_bipush (v := 8) hx hb dX10_number_60 (by decide) ?_
  refine lv_lshl hx hb dX10_number_62 rfl ?_
  refine lv_topl (fun v19 ev19 => ?_)
  have ev19 : v19 = 0 := ev19.trans (by decide +kernel)
  subst ev19
  refine lv_iload hx hb dX10_number_63 (lv_at hl 0 rfl) ?_
  refine lv_if_eq (tgt := 82) hx hb dX10_number_65 (by decide) (fun _ => ?_) (fun c9 => absurd (by decide) c9)
  refine lv_iconst (v := 0) hx hb dX10_number_82 (by decide) ?_
  refine lv_i2l (v := 0) hx hb dX10_number_83 (by decide +kernel) ?_
  refine lv_lor hx hb dX10_number_84 ?_
  refine lv_topl (fun v20 ev20 => ?_)
  have ev20 : v20 = 0 := ev20.trans (by decide +kernel)
  subst ev20
  refine lv_lstore_n (lv' := [(3, .long 0), (7, .int 0), (6, .int 27), (5, .int 3), (0, .ref h0), (1, .int 24), (2, .int 4)]) hx hb dX10_number_85 rfl hl (by decide) rfl (fun ls hl => ?_)
  refine lv_iinc (v := 4) (lv' := [(5, .int 4), (3, .long 0), (7, .int 0), (6, .int 27), (0, .ref h0), (1, .int 24), (2, .int 4)]) hx hb dX10_number_86 hl (k := 3) rfl (by decide) (by decide) rfl (fun ls hl => ?_)
  refine lv_goto (tgt := 5) hx hb dX10_number_89 (by decide) ?_
  refine lv_iload hx hb dX10_number_5 (lv_at hl 0 rfl) ?_
  refine lv_iload_n hx hb dX10_number_7 rfl (lv_at hl 6 rfl) ?_
  refine lv_icmp_ge (tgt := 92) hx hb dX10_number_8 (by decide) (fun _ => ?_) (fun c9 => absurd (by decide) c9)
  refine lv_lload_n hx hb dX10_number_92 rfl (lv_at hl 1 rfl) ?_
  have hP9 := hP.sub (ws' := [(h0, .inr (4, [w1, .int 0, .int 0]))]) [0] rfl
  have hD9 := hD.sub (ws' := [(h0, .inr (4, [w1, .int 0, .int 0]))]) [0] (by decide) rfl
  refine W.widen (k := 0) (n := 0) (Nat.le_of_ble_eq_true rfl) (Nat.le_of_ble_eq_true rfl) ?_
  exact W.lret (v := 0) hx hb hr (fun t ht hW => ⟨⟨0, (), rfl, rfl, by rw [ht]; exact hP9, hD9⟩, hS.F ht⟩) hS.2.2 dX10_number_93
def wz_c_X1_wordOf_24 : List Cond := .code yX1_wordOf cX1_wordOf 4 (some .int) :: ([.methodLink RX1 44 ⟨"SignetRing$Span", "number", "(II)J"⟩, .sameMethod "SignetRing$Span" "SignetRing$Span" "number" "(II)J", .selects RX0 ⟨"SignetRing$Span", "number", "(II)J"⟩ yX10_number, .instanceMethod yX10_number, .initialized RX10, .fieldLink RX1 28 "SignetRing$Span" "size" "I"] ++ (wsX00 ++ (wz_c_num4_24 ++ ([]))))
set_option maxRecDepth 100000 in
theorem gz_c_X1_wordOf_24_c_num4_24 : GoodIn wz_c_X1_wordOf_24 wz_c_num4_24 := goodIn_sub (fun w h => List.mem_cons_of_mem _ (List.mem_append_right _ (List.mem_append_right _ (List.mem_append_left _ h)))) (by decide +kernel)
set_option maxRecDepth 100000 in
theorem gv_c_X1_wordOf_24_c_num4_24_44 : GoodIn wz_c_X1_wordOf_24 (va_wsU RX1 44 RX0 "SignetRing$Span" ⟨"SignetRing$Span", "number", "(II)J"⟩ yX10_number wz_c_num4_24) := goodIn_app (goodIn_of _ (by decide +kernel)) gz_c_X1_wordOf_24_c_num4_24
set_option maxHeartbeats 4000000 in
set_option maxRecDepth 100000 in
theorem c_X1_wordOf_24 (l : Launch) (D : va_G) (y : Nat → ClassId) (sz : Nat) (h0 : Nat) (w1 : Value) : Met l yX1_wordOf wz_c_X1_wordOf_24 ({ frames := 1, cells := 0, slots := 0, locals := 27 }) (va_Pc [.ref h0, .int 24] (zB D y [(h0, .inr (4, [w1, .int 0, .int 0]))] sz [] [] [] [])) (va_Qi (fun (r : Int32) (_ : Unit) => r = 0) (fun _ t => va_P D vwCl [(h0, .inr (4, [w1, .int 0, .int 0]))] t.heap ∧ va_D (va_A [(h0, .inr (4, [w1, .int 0, .int 0]))] sz) [(h0, .inr (4, [w1, .int 0, .int 0]))]) (va_A [(h0, .inr (4, [w1, .int 0, .int 0]))] sz)) 0 0 (va_A [(h0, .inr (4, [w1, .int 0, .int 0]))] sz) := by
  refine Met.ofW (cc := cX1_wordOf) (maxL := 4) (ret := (some .int)) (by decide) rfl ?_
  intro p e s m args below meth c s₁ B hml hv
  obtain ⟨rfl, hsz, hP, hK, hD0, hN, hE, hO, hT, hG⟩ := hv
  have hx := B.exec
  have hb := B.bytes
  have hr := B.returns
  have hts := atoms_spec (ws := wz_c_X1_wordOf_24) B.pre
  have hown : s.vm.findClass RX1 = some m.cls := findClass_of_methodNamed B.named
  have hlocks := B.notSynchronized
  subst hsz
  have hD := hD0.self (sz := s.heap.size)
  generalize hAe : va_A [(h0, .inr (4, [w1, .int 0, .int 0]))] s.heap.size = A at hD hE hT hG ⊢
  have hA : ∀ q : Nat, s.heap.size ≤ q → A q := fun q h => by rw [← hAe]; exact Or.inr h
  have hS : va_S A s.heap s.heap [] := va_S.rf
  have hl := lv_entry ([.ref h0, .int 24]) (n := 4) (Nat.le_of_ble_eq_true rfl)
  rw [lg_entry_eq]
  generalize (lg_sl ([.ref h0, .int 24]) ++ List.replicate (4 - (lg_sl ([.ref h0, .int 24])).length) Slot.unset).toArray = ls at hl ⊢
  have hl : lv_has ls 4 [(0, .ref h0), (1, .int 24)] := hl
  refine lv_aload_n hx hb dX1_wordOf_0 rfl (lv_at hl 0 rfl) ?_
  refine lv_iload_n hx hb dX1_wordOf_1 rfl (lv_at hl 1 rfl) ?_
  refine lv_iconst (v := 4) hx hb dX1_wordOf_2 (by decide) ?_
  have hPc := hP.sub (ws' := [(h0, .inr (4, [w1, .int 0, .int 0]))]) [0] rfl
  have hDc := hD.sub (ws' := [(h0, .inr (4, [w1, .int 0, .int 0]))]) [0] (by decide) rfl
  have hFc := va_free (wc := [(h0, .inr (4, [w1, .int 0, .int 0]))]) hD hS hA [0] rfl
  refine va_calll (va_runU (As := [.int 24, .int 4]) (rest := []) ⟨hx, hb, hml, hown, hts⟩ (c_num4_24 l D y s.heap.size h0 w1) (va_cwU 2 hts gv_c_X1_wordOf_24_c_num4_24_44 rfl rfl rfl rfl (by decide +kernel) ⟨(Nat.le_of_ble_eq_true rfl), (Nat.le_of_ble_eq_true rfl)⟩) (zB.preV hPc hDc hK hN hE hO hT hG hS hFc (fun _ h => nomatch h) (fun _ h => nomatch h) (fun _ h => nomatch h) (fun _ h => nomatch h) (va_recv hK hPc (ci := 4) (q0 := 0) rfl rfl)) rfl rfl hl.1 rfl (lv_room (Nat.le_of_ble_eq_true rfl)) dX1_wordOf_3 ⟨(Nat.le_of_ble_eq_true rfl), (Nat.le_of_ble_eq_true rfl)⟩) hS (fun q _ h => hFc q h) hFc (fun r1 u t H1 locs ht hvm hw hB hz1 hk1 hS => ?_)
  obtain ⟨hP1, hD1⟩ := hB
  rw [ht] at hP1
  obtain ⟨hP, hD⟩ := va_join (wr := []) (w1 := [(h0, .inr (4, [w1, .int 0, .int 0]))]) hP hD [0] [] rfl rfl (by decide) (by decide) hk1 hFc hP1 hD1
  generalize H1 = H at hP hS ⊢
  have hP : va_P D vwCl [(h0, .inr (4, [w1, .int 0, .int 0]))] H := hP
  have hD : va_D A [(h0, .inr (4, [w1, .int 0, .int 0]))] := hD
  have hw : r1 = 0 := hw
  subst hw
  refine lv_l2i (v := 0) hx hb dX1_wordOf_6 (by decide +kernel) ?_
  refine lv_istore_n (lv' := [(2, .int 0), (0, .ref h0), (1, .int 24)]) hx hb dX1_wordOf_7 rfl hl (by decide) rfl (fun ls hl => ?_)
  refine lv_aload_n hx hb dX1_wordOf_8 rfl (lv_at hl 1 rfl) ?_
  refine va_get (D := D) (ci := 4) (v := .int 0) (C := RX0) (T := TX0) (N := 3) hx hb hts (by decide +kernel) hown hK hP 0 rfl rfl 2 (by decide) (hts (.fieldLink RX1 28 "SignetRing$Span" "size" "I") (by decide +kernel)) (fun _ h9 => h9) rfl dX1_wordOf_9 ?_
  refine lv_iload_n hx hb dX1_wordOf_12 rfl (lv_at hl 2 rfl) ?_
  refine lv_isub hx hb dX1_wordOf_13 ?_
  refine lv_topi (fun v2 ev2 => ?_)
  have ev2 : v2 = -24 := ev2.trans (by decide +kernel)
  subst ev2
  refine lv_istore_n (lv' := [(3, .int (-24)), (2, .int 0), (0, .ref h0), (1, .int 24)]) hx hb dX1_wordOf_14 rfl hl (by decide) rfl (fun ls hl => ?_)
  refine lv_iload_n hx hb dX1_wordOf_15 rfl (lv_at hl 0 rfl) ?_
  refine lv_if_lt (tgt := 40) hx hb dX1_wordOf_16 (by decide) (fun _ => ?_) (fun c9 => absurd (by decide) c9)
  refine lv_iload_n hx hb dX1_wordOf_40 rfl (lv_at hl 1 rfl) ?_
  have hP9 := hP.sub (ws' := [(h0, .inr (4, [w1, .int 0, .int 0]))]) [0] rfl
  have hD9 := hD.sub (ws' := [(h0, .inr (4, [w1, .int 0, .int 0]))]) [0] (by decide) rfl
  refine W.widen (k := 0) (n := 0) (Nat.le_of_ble_eq_true rfl) (Nat.le_of_ble_eq_true rfl) ?_
  exact W.iret (v := 0) hx hb hr (fun t ht hW => ⟨⟨0, (), rfl, rfl, by rw [ht]; exact hP9, hD9⟩, hS.F ht⟩) hS.2.2 dX1_wordOf_41
def wz_c_num4_28 : List Cond := .code yX10_number cX10_number 8 (some .long) :: ([.fieldLink RX10 13 "SignetRing$Span" "from" "I", .fieldLink RX10 17 "SignetRing$Span" "size" "I"] ++ (wsX00 ++ ([])))
set_option maxHeartbeats 4000000 in
set_option maxRecDepth 100000 in
theorem c_num4_28 (l : Launch) (D : va_G) (y : Nat → ClassId) (sz : Nat) (h0 : Nat) (w1 : Value) : Met l yX10_number wz_c_num4_28 ({ frames := 0, cells := 0, slots := 0, locals := 0 }) (va_Pc [.ref h0, .int 28, .int 4] (zB D y [(h0, .inr (4, [w1, .int 0, .int 0]))] sz [] [] [] [])) (va_Ql (fun (r : Int64) (_ : Unit) => r = 0) (fun _ t => va_P D vwCl [(h0, .inr (4, [w1, .int 0, .int 0]))] t.heap ∧ va_D (va_A [(h0, .inr (4, [w1, .int 0, .int 0]))] sz) [(h0, .inr (4, [w1, .int 0, .int 0]))]) (va_A [(h0, .inr (4, [w1, .int 0, .int 0]))] sz)) 0 0 (va_A [(h0, .inr (4, [w1, .int 0, .int 0]))] sz) := by
  refine Met.ofW (cc := cX10_number) (maxL := 8) (ret := (some .long)) (by decide) rfl ?_
  intro p e s m args below meth c s₁ B hml hv
  obtain ⟨rfl, hsz, hP, hK, hD0, hN, hE, hO, hT, hG⟩ := hv
  have hx := B.exec
  have hb := B.bytes
  have hr := B.returns
  have hts := atoms_spec (ws := wz_c_num4_28) B.pre
  have hown : s.vm.findClass RX10 = some m.cls := findClass_of_methodNamed B.named
  have hlocks := B.notSynchronized
  subst hsz
  have hD := hD0.self (sz := s.heap.size)
  generalize hAe : va_A [(h0, .inr (4, [w1, .int 0, .int 0]))] s.heap.size = A at hD hE hT hG ⊢
  have hA : ∀ q : Nat, s.heap.size ≤ q → A q := fun q h => by rw [← hAe]; exact Or.inr h
  have hS : va_S A s.heap s.heap [] := va_S.rf
  have hl := lv_entry ([.ref h0, .int 28, .int 4]) (n := 8) (Nat.le_of_ble_eq_true rfl)
  rw [lg_entry_eq]
  generalize (lg_sl ([.ref h0, .int 28, .int 4]) ++ List.replicate (8 - (lg_sl ([.ref h0, .int 28, .int 4])).length) Slot.unset).toArray = ls at hl ⊢
  have hl : lv_has ls 8 [(0, .ref h0), (1, .int 28), (2, .int 4)] := hl
  refine lv_lconst (v := 0) hx hb dX10_number_0 (by decide) ?_
  refine lv_lstore_n (lv' := [(3, .long 0), (0, .ref h0), (1, .int 28), (2, .int 4)]) hx hb dX10_number_1 rfl hl (by decide) rfl (fun ls hl => ?_)
  refine lv_iconst (v := 0) hx hb dX10_number_2 (by decide) ?_
  refine lv_istore (lv' := [(5, .int 0), (3, .long 0), (0, .ref h0), (1, .int 28), (2, .int 4)]) hx hb dX10_number_3 hl (by decide) rfl (fun ls hl => ?_)
  refine lv_iload hx hb dX10_number_5 (lv_at hl 0 rfl) ?_
  refine lv_iload_n hx hb dX10_number_7 rfl (lv_at hl 4 rfl) ?_
  refine lv_icmp_ge (tgt := 92) hx hb dX10_number_8 (by decide) (fun c9 => absurd c9 (by decide)) (fun _ => ?_)
  refine lv_aload_n hx hb dX10_number_11 rfl (lv_at hl 2 rfl) ?_
  refine va_get (D := D) (ci := 4) (v := .int 0) (C := RX0) (T := TX0) (N := 3) hx hb hts (by decide +kernel) hown hK hP 0 rfl rfl 1 (by decide) (hts (.fieldLink RX10 13 "SignetRing$Span" "from" "I") (by decide +kernel)) (fun _ h9 => h9) rfl dX10_number_12 ?_
  refine lv_iload_n hx hb dX10_number_15 rfl (lv_at hl 3 rfl) ?_
  refine lv_iadd hx hb dX10_number_16 ?_
  refine lv_topi (fun v1 ev1 => ?_)
  have ev1 : v1 = 28 := ev1.trans (by decide +kernel)
  subst ev1
  refine lv_iload hx hb dX10_number_17 (lv_at hl 0 rfl) ?_
  refine lv_iadd hx hb dX10_number_19 ?_
  refine lv_topi (fun v2 ev2 => ?_)
  have ev2 : v2 = 28 := ev2.trans (by decide +kernel)
  subst ev2
  refine lv_istore (lv' := [(6, .int 28), (5, .int 0), (3, .long 0), (0, .ref h0), (1, .int 28), (2, .int 4)]) hx hb dX10_number_20 hl (by decide) rfl (fun ls hl => ?_)
  refine lv_iload_n hx hb dX10_number_22 rfl (lv_at hl 4 rfl) ?_
  refine lv_if_lt (tgt := 56) hx hb dX10_number_23 (by decide) (fun c9 => absurd c9 (by decide)) (fun _ => ?_)
  refine lv_iload_n hx hb dX10_number_26 rfl (lv_at hl 4 rfl) ?_
  refine lv_iload hx hb dX10_number_27 (lv_at hl 1 rfl) ?_
  refine lv_iadd hx hb dX10_number_29 ?_
  refine lv_topi (fun v3 ev3 => ?_)
  have ev3 : v3 = 28 := ev3.trans (by decide +kernel)
  subst ev3
  refine lv_aload_n hx hb dX10_number_30 rfl (lv_at hl 3 rfl) ?_
  refine va_get (D := D) (ci := 4) (v := .int 0) (C := RX0) (T := TX0) (N := 3) hx hb hts (by decide +kernel) hown hK hP 0 rfl rfl 2 (by decide) (hts (.fieldLink RX10 17 "SignetRing$Span" "size" "I") (by decide +kernel)) (fun _ h9 => h9) rfl dX10_number_31 ?_
  refine lv_icmp_ge (tgt := 56) hx hb dX10_number_34 (by decide) (fun _ => ?_) (fun c9 => absurd (by decide) c9)
  refine lv_iconst (v := 0) hx hb dX10_number_56 (by decide) ?_
  refine lv_istore (lv' := [(7, .int 0), (6, .int 28), (5, .int 0), (3, .long 0), (0, .ref h0), (1, .int 28), (2, .int 4)]) hx hb dX10_number_57 hl (by decide) rfl (fun ls hl => ?_)
  refine lv_lload_n hx hb dX10_number_59 rfl (lv_at hl 3 rfl) ?_
  refine lv_bipush (v := 8) hx hb dX10_number_60 (by decide) ?_
  refine lv_lshl hx hb dX10_number_62 rfl ?_
  refine lv_topl (fun v4 ev4 => ?_)
  have ev4 : v4 = 0 := ev4.trans (by decide +kernel)
  subst ev4
  refine lv_iload hx hb dX10_number_63 (lv_at hl 0 rfl) ?_
  refine lv_if_eq (tgt := 82) hx hb dX10_number_65 (by decide) (fun _ => ?_) (fun c9 => absurd (by decide) c9)
  refine lv_iconst (v := 0) hx hb dX10_number_82 (by decide) ?_
  refine lv_i2l (v := 0) hx hb dX10_number_83 (by decide +kernel) ?_
  refine lv_lor hx hb dX10_number_84 ?_
  refine lv_topl (fun v5 ev5 => ?_)
  have ev5 : v5 = 0 := ev5.trans (by decide +kernel)
  subst ev5
  refine lv_lstore_n (lv' := [(3, .long 0), (7, .int 0), (6, .int 28), (5, .int 0), (0, .ref h0), (1, .int 28), (2, .int 4)]) hx hb dX10_number_85 rfl hl (by decide) rfl (fun ls hl => ?_)
  refine lv_iinc (v := 1) (lv' := [(5, .int 1), (3, .long 0), (7, .int 0), (6, .int 28), (0, .ref h0), (1, .int 28), (2, .int 4)]) hx hb dX10_number_86 hl (k := 3) rfl (by decide) (by decide) rfl (fun ls hl => ?_)
  refine lv_goto (tgt := 5) hx hb dX10_number_89 (by decide) ?_
  refine lv_iload hx hb dX10_number_5 (lv_at hl 0 rfl) ?_
  refine lv_iload_n hx hb dX10_number_7 rfl (lv_at hl 6 rfl) ?_
  refine lv_icmp_ge (tgt := 92) hx hb dX10_number_8 (by decide) (fun c9 => absurd c9 (by decide)) (fun _ => ?_)
  refine lv_aload_n hx hb dX10_number_11 rfl (lv_at hl 4 rfl) ?_
  refine va_get (D := D) (ci := 4) (v := .int 0) (C := RX0) (T := TX0) (N := 3) hx hb hts (by decide +kernel) hown hK hP 0 rfl rfl 1 (by decide) (hts (.fieldLink RX10 13 "SignetRing$Span" "from" "I") (by decide +kernel)) (fun _ h9 => h9) rfl dX10_number_12 ?_
  refine lv_iload_n hx hb dX10_number_15 rfl (lv_at hl 5 rfl) ?_
  refine lv_iadd hx hb dX10_number_16 ?_
  refine lv_topi (fun v6 ev6 => ?_)
  have ev6 : v6 = 28 := ev6.trans (by decide +kernel)
  subst ev6
  refine lv_iload hx hb dX10_number_17 (lv_at hl 0 rfl) ?_
  refine lv_iadd hx hb dX10_number_19 ?_
  refine lv_topi (fun v7 ev7 => ?_)
  have ev7 : v7 = 29 := ev7.trans (by decide +kernel)
  subst ev7
  refine lv_istore (lv' := [(6, .int 29), (5, .int 1), (3, .long 0), (7, .int 0), (0, .ref h0), (1, .int 28), (2, .int 4)]) hx hb dX10_number_20 hl (by decide) rfl (fun ls hl => ?_)
  refine lv_iload_n hx hb dX10_number_22 rfl (lv_at hl 5 rfl) ?_
  refine lv_if_lt (tgt := 56) hx hb dX10_number_23 (by decide) (fun c9 => absurd c9 (by decide)) (fun _ => ?_)
  refine lv_iload_n hx hb dX10_number_26 rfl (lv_at hl 5 rfl) ?_
  refine lv_iload hx hb dX10_number_27 (lv_at hl 1 rfl) ?_
  refine lv_iadd hx hb dX10_number_29 ?_
  refine lv_topi (fun v8 ev8 => ?_)
  have ev8 : v8 = 29 := ev8.trans (by decide +kernel)
  subst ev8
  refine lv_aload_n hx hb dX10_number_30 rfl (lv_at hl 4 rfl) ?_
  refine va_get (D := D) (ci := 4) (v := .int 0) (C := RX0) (T := TX0) (N := 3) hx hb hts (by decide +kernel) hown hK hP 0 rfl rfl 2 (by decide) (hts (.fieldLink RX10 17 "SignetRing$Span" "size" "I") (by decide +kernel)) (fun _ h9 => h9) rfl dX10_number_31 ?_
  refine lv_icmp_ge (tgt := 56) hx hb dX10_number_34 (by decide) (fun _ => ?_) (fun c9 => absurd (by decide) c9)
  refine lv_iconst (v := 0) hx hb dX10_number_56 (by decide) ?_
  refine lv_istore (lv' := [(7, .int 0), (6, .int 29), (5, .int 1), (3, .long 0), (0, .ref h0), (1, .int 28), (2, .int 4)]) hx hb dX10_number_57 hl (by decide) rfl (fun ls hl => ?_)
  refine lv_lload_n hx hb dX10_number_59 rfl (lv_at hl 3 rfl) ?_
  refine lv_bipush (v := 8) hx hb dX10_number_60 (by decide) ?_
  refine lv_lshl hx hb dX10_number_62 rfl ?_
  refine lv_topl (fun v9 ev9 => ?_)
  have ev9 : v9 = 0 := ev9.trans (by decide +kernel)
  subst ev9
  refine lv_iload hx hb dX10_number_63 (lv_at hl 0 rfl) ?_
  refine lv_if_eq (tgt := 82) hx hb dX10_number_65 (by decide) (fun _ => ?_) (fun c9 => absurd (by decide) c9)
  refine lv_iconst (v := 0) hx hb dX10_number_82 (by decide) ?_
  refine lv_i2l (v := 0) hx hb dX10_number_83 (by decide +kernel) ?_
  refine lv_lor hx hb dX10_number_84 ?_
  refine lv_topl (fun v10 ev10 => ?_)
  have ev10 : v10 = 0 := ev10.trans (by decide +kernel)
  subst ev10
  refine lv_lstore_n (lv' := [(3, .long 0), (7, .int 0), (6, .int 29), (5, .int 1), (0, .ref h0), (1, .int 28), (2, .int 4)]) hx hb dX10_number_85 rfl hl (by decide) rfl (fun ls hl => ?_)
  refine lv_iinc (v := 2) (lv' := [(5, .int 2), (3, .long 0), (7, .int 0), (6, .int 29), (0, .ref h0), (1, .int 28), (2, .int 4)]) hx hb dX10_number_86 hl (k := 3) rfl (by decide) (by decide) rfl (fun ls hl => ?_)
  refine lv_goto (tgt := 5) hx hb dX10_number_89 (by decide) ?_
  refine lv_iload hx hb dX10_number_5 (lv_at hl 0 rfl) ?_
  refine lv_iload_n hx hb dX10_number_7 rfl (lv_at hl 6 rfl) ?_
  refine lv_icmp_ge (tgt := 92) hx hb dX10_number_8 (by decide) (fun c9 => absurd c9 (by decide)) (fun _ => ?_)
  refine lv_aload_n hx hb dX10_number_11 rfl (lv_at hl 4 rfl) ?_
  refine va_get (D := D) (ci := 4) (v := .int 0) (C := RX0) (T := TX0) (N := 3) hx hb hts (by decide +kernel) hown hK hP 0 rfl rfl 1 (by decide) (hts (.fieldLink RX10 13 "SignetRing$Span" "from" "I") (by decide +kernel)) (fun _ h9 => h9) rfl dX10_number_12 ?_
  refine lv_iload_n hx hb dX10_number_15 rfl (lv_at hl 5 rfl) ?_
  refine lv_iadd hx hb dX10_number_16 ?_
  refine lv_topi (fun v11 ev11 => ?_)
  have ev11 : v11 = 28 := ev11.trans (by decide +kernel)
  subst ev11
  refine lv_iload hx hb dX10_number_17 (lv_at hl 0 rfl) ?_
  refine lv_iadd hx hb dX10_number_19 ?_
  refine lv_topi (fun v12 ev12 => ?_)
  have ev12 : v12 = 30 := ev12.trans (by decide +kernel)
  subst ev12
  refine lv_istore (lv' := [(6, .int 30), (5, .int 2), (3, .long 0), (7, .int 0), (0, .ref h0), (1, .int 28), (2, .int 4)]) hx hb dX10_number_20 hl (by decide) rfl (fun ls hl => ?_)
  refine lv_iload_n hx hb dX10_number_22 rfl (lv_at hl 5 rfl) ?_
  refine lv_if_lt (tgt := 56) hx hb dX10_number_23 (by decide) (fun c9 => absurd c9 (by decide)) (fun _ => ?_)
  refine lv_iload_n hx hb dX10_number_26 rfl (lv_at hl 5 rfl) ?_
  refine lv_iload hx hb dX10_number_27 (lv_at hl 1 rfl) ?_
  refine lv_iadd hx hb dX10_number_29 ?_
  refine lv_topi (fun v13 ev13 => ?_)
  have ev13 : v13 = 30 := ev13.trans (by decide +kernel)
  subst ev13
  refine lv_aload_n hx hb dX10_number_30 rfl (lv_at hl 4 rfl) ?_
  refine va_get (D := D) (ci := 4) (v := .int 0) (C := RX0) (T := TX0) (N := 3) hx hb hts (by decide +kernel) hown hK hP 0 rfl rfl 2 (by decide) (hts (.fieldLink RX10 17 "SignetRing$Span" "size" "I") (by decide +kernel)) (fun _ h9 => h9) rfl dX10_number_31 ?_
  refine lv_icmp_ge (tgt := 56) hx hb dX10_number_34 (by decide) (fun _ => ?_) (fun c9 => absurd (by decide) c9)
  refine lv_iconst (v := 0) hx hb dX10_number_56 (by decide) ?_
  refine lv_istore (lv' := [(7, .int 0), (6, .int 30), (5, .int 2), (3, .long 0), (0, .ref h0), (1, .int 28), (2, .int 4)]) hx hb dX10_number_57 hl (by decide) rfl (fun ls hl => ?_)
  refine lv_lload_n hx hb dX10_number_59 rfl (lv_at hl 3 rfl) ?_
  refine lv_bipush (v := 8) hx hb dX10_number_60 (by decide) ?_
  refine lv_lshl hx hb dX10_number_62 rfl ?_
  refine lv_topl (fun v14 ev14 => ?_)
  have ev14 : v14 = 0 := ev14.trans (by decide +kernel)
  subst ev14
  refine lv_iload hx hb dX10_number_63 (lv_at hl 0 rfl) ?_
  refine lv_if_eq (tgt := 82) hx hb dX10_number_65 (by decide) (fun _ => ?_) (fun c9 => absurd (by decide) c9)
  refine lv_iconst (v := 0) hx hb dX10_number_82 (by decide) ?_
  refine lv_i2l (v := 0) hx hb dX10_number_83 (by decide +kernel) ?_
  refine lv_lor hx hb dX10_number_84 ?_
  refine lv_topl (fun v15 ev15 => ?_)
  have ev15 : v15 = 0 := ev15.trans (by decide +kernel)
  subst ev15
  refine lv_lstore_n (lv' := [(3, .long 0), (7, .int 0), (6, .int 30), (5, .int 2), (0, .ref h0), (1, .int 28), (2, .int 4)]) hx hb dX10_number_85 rfl hl (by decide) rfl (fun ls hl => ?_)
  refine lv_iinc (v := 3) (lv' := [(5, .int 3), (3, .long 0), (7, .int 0), (6, .int 30), (0, .ref h0), (1, .int 28), (2, .int 4)]) hx hb dX10_number_86 hl (k := 3) rfl (by decide) (by decide) rfl (fun ls hl => ?_)
  refine lv_goto (tgt := 5) hx hb dX10_number_89 (by decide) ?_
  refine lv_iload hx hb dX10_number_5 (lv_at hl 0 rfl) ?_
  refine lv_iload_n hx hb dX10_number_7 rfl (lv_at hl 6 rfl) ?_
  refine lv_icmp_ge (tgt := 92) hx hb dX10_number_8 (by decide) (fun c9 => absurd c9 (by decide)) (fun _ => ?_)
  refine lv_aload_n hx hb dX10_number_11 rfl (lv_at hl 4 rfl) ?_
  refine va_get (D := D) (ci := 4) (v := .int 0) (C := RX0) (T := TX0) (N := 3) hx hb hts (by decide +kernel) hown hK hP 0 rfl rfl 1 (by decide) (hts (.fieldLink RX10 13 "SignetRing$Span" "from" "I") (by decide +kernel)) (fun _ h9 => h9) rfl dX10_number_12 ?_
  refine lv_iload_n hx hb dX10_number_15 rfl (lv_at hl 5 rfl) ?_
  refine lv_iadd hx hb dX10_number_16 ?_
  refine lv_topi (fun v16 ev16 => ?_)
  have ev16 : v16 = 28 := ev16.trans (by decide +kernel)
  subst ev16
  refine lv_iload hx hb dX10_number_17 (lv_at hl 0 rfl) ?_
  refine lv_iadd hx hb dX10_number_19 ?_
  refine lv_topi (fun v17 ev17 => ?_)
  have ev17 : v17 = 31 := ev17.trans (by decide +kernel)
  subst ev17
  refine lv_istore (lv' := [(6, .int 31), (5, .int 3), (3, .long 0), (7, .int 0), (0, .ref h0), (1, .int 28), (2, .int 4)]) hx hb dX10_number_20 hl (by decide) rfl (fun ls hl => ?_)
  refine lv_iload_n hx hb dX10_number_22 rfl (lv_at hl 5 rfl) ?_
  refine lv_if_lt (tgt := 56) hx hb dX10_number_23 (by decide) (fun c9 => absurd c9 (by decide)) (fun _ => ?_)
  refine lv_iload_n hx hb dX10_number_26 rfl (lv_at hl 5 rfl) ?_
  refine lv_iload hx hb dX10_number_27 (lv_at hl 1 rfl) ?_
  refine lv_iadd hx hb dX10_number_29 ?_
  refine lv_topi (fun v18 ev18 => ?_)
  have ev18 : v18 = 31 := ev18.trans (by decide +kernel)
  subst ev18
  refine lv_aload_n hx hb dX10_number_30 rfl (lv_at hl 4 rfl) ?_
  refine va_get (D := D) (ci := 4) (v := .int 0) (C := RX0) (T := TX0) (N := 3) hx hb hts (by decide +kernel) hown hK hP 0 rfl rfl 2 (by decide) (hts (.fieldLink RX10 17 "SignetRing$Span" "size" "I") (by decide +kernel)) (fun _ h9 => h9) rfl dX10_number_31 ?_
  refine lv_icmp_ge (tgt := 56) hx hb dX10_number_34 (by decide) (fun _ => ?_) (fun c9 => absurd (by decide) c9)
  refine lv_iconst (v := 0) hx hb dX10_number_56 (by decide) ?_
  refine lv_istore (lv' := [(7, .int 0), (6, .int 31), (5, .int 3), (3, .long 0), (0, .ref h0), (1, .int 28), (2, .int 4)]) hx hb dX10_number_57 hl (by decide) rfl (fun ls hl => ?_)
  refine lv_lload_n hx hb dX10_number_59 rfl (lv_at hl 3 rfl) ?_
  refine lv_bipush (v := 8) hx hb dX10_number_60 (by decide) ?_
  refine lv_lshl hx hb dX10_number_62 rfl ?_
  refine lv_topl (fun v19 ev19 => ?_)
  have ev19 : v19 = 0 := ev19.trans (by decide +kernel)
  subst ev19
  refine lv_iload hx hb dX10_number_63 (lv_at hl 0 rfl) ?_
  refine lv_if_eq (tgt := 82) hx hb dX10_number_65 (by decide) (fun _ => ?_) (fun c9 => absurd (by decide) c9)
  refine lv_iconst (v := 0) hx hb dX10_number_82 (by decide) ?_
  refine lv_i2l (v := 0) hx hb dX10_number_83 (by decide +kernel) ?_
  refine lv_lor hx hb dX10_number_84 ?_
  refine lv_topl (fun v20 ev20 => ?_)
  have ev20 : v20 = 0 := ev20.trans (by decide +kernel)
  subst ev20
  refine lv_lstore_n (lv' := [(3, .long 0), (7, .int 0), (6, .int 31), (5, .int 3), (0, .ref h0), (1, .int 28), (2, .int 4)]) hx hb dX10_number_85 rfl hl (by decide) rfl (fun ls hl => ?_)
  refine lv_iinc (v := 4) (lv' := [(5, .int 4), (3, .long 0), (7, .int 0), (6, .int 31), (0, .ref h0), (1, .int 28), (2, .int 4)]) hx hb dX10_number_86 hl (k := 3) rfl (by decide) (by decide) rfl (fun ls hl => ?_)
  refine lv_goto (tgt := 5) hx hb dX10_number_89 (by decide) ?_
  refine lv_iload hx hb dX10_number_5 (lv_at hl 0 rfl) ?_
  refine lv_iload_n hx hb dX10_number_7 rfl (lv_at hl 6 rfl) ?_
  refine lv_icmp_ge (tgt := 92) hx hb dX10_number_8 (by decide) (fun _ => ?_) (fun c9 => absurd (by decide) c9)
  refine lv_lload_n hx hb dX10_number_92 rfl (lv_at hl 1 rfl) ?_
  have hP9 := hP.sub (ws' := [(h0, .inr (4, [w1, .int 0, .int 0]))]) [0] rfl
  have hD9 := hD.sub (ws' := [(h0, .inr (4, [w1, .int 0, .int 0]))]) [0] (by decide) rfl
  refine W.widen (k := 0) (n := 0) (Nat.le_of_ble_eq_true rfl) (Nat.le_of_ble_eq_true rfl) ?_
  exact W.lret (v := 0) hx hb hr (fun t ht hW => ⟨⟨0, (), rfl, rfl, by rw [ht]; exact hP9, hD9⟩, hS.F ht⟩) hS.2.2 dX10_number_93
def wz_c_X1_wordOf_28 : List Cond := .code yX1_wordOf cX1_wordOf 4 (some .int) :: ([.methodLink RX1 44 ⟨"SignetRing$Span", "number", "(II)J"⟩, .sameMethod "SignetRing$Span" "SignetRing$Span" "number" "(II)J", .selects RX0 ⟨"SignetRing$Span", "number", "(II)J"⟩ yX10_number, .instanceMethod yX10_number, .initialized RX10, .fieldLink RX1 28 "SignetRing$Span" "size" "I"] ++ (wsX00 ++ (wz_c_num4_28 ++ ([]))))
set_option maxRecDepth 100000 in
theorem gz_c_X1_wordOf_28_c_num4_28 : GoodIn wz_c_X1_wordOf_28 wz_c_num4_28 := goodIn_sub (fun w h => List.mem_cons_of_mem _ (List.mem_append_right _ (List.mem_append_right _ (List.mem_append_left _ h)))) (by decide +kernel)
set_option maxRecDepth 100000 in
theorem gv_c_X1_wordOf_28_c_num4_28_44 : GoodIn wz_c_X1_wordOf_28 (va_wsU RX1 44 RX0 "SignetRing$Span" ⟨"SignetRing$Span", "number", "(II)J"⟩ yX10_number wz_c_num4_28) := goodIn_app (goodIn_of _ (by decide +kernel)) gz_c_X1_wordOf_28_c_num4_28
set_option maxHeartbeats 4000000 in
set_option maxRecDepth 100000 in
theorem c_X1_wordOf_28 (l : Launch) (D : va_G) (y : Nat → ClassId) (sz : Nat) (h0 : Nat) (w1 : Value) : Met l yX1_wordOf wz_c_X1_wordOf_28 ({ frames := 1, cells := 0, slots := 0, locals := 27 }) (va_Pc [.ref h0, .int 28] (zB D y [(h0, .inr (4, [w1, .int 0, .int 0]))] sz [] [] [] [])) (va_Qi (fun (r : Int32) (_ : Unit) => r = 0) (fun _ t => va_P D vwCl [(h0, .inr (4, [w1, .int 0, .int 0]))] t.heap ∧ va_D (va_A [(h0, .inr (4, [w1, .int 0, .int 0]))] sz) [(h0, .inr (4, [w1, .int 0, .int 0]))]) (va_A [(h0, .inr (4, [w1, .int 0, .int 0]))] sz)) 0 0 (va_A [(h0, .inr (4, [w1, .int 0, .int 0]))] sz) := by
  refine Met.ofW (cc := cX1_wordOf) (maxL := 4) (ret := (some .int)) (by decide) rfl ?_
  intro p e s m args below meth c s₁ B hml hv
  obtain ⟨rfl, hsz, hP, hK, hD0, hN, hE, hO, hT, hG⟩ := hv
  have hx := B.exec
  have hb := B.bytes
  have hr := B.returns
  have hts := atoms_spec (ws := wz_c_X1_wordOf_28) B.pre
  have hown : s.vm.findClass RX1 = some m.cls := findClass_of_methodNamed B.named
  have hlocks := B.notSynchronized
  subst hsz
  have hD := hD0.self (sz := s.heap.size)
  generalize hAe : va_A [(h0, .inr (4, [w1, .int 0, .int 0]))] s.heap.size = A at hD hE hT hG ⊢
  have hA : ∀ q : Nat, s.heap.size ≤ q → A q := fun q h => by rw [← hAe]; exact Or.inr h
  have hS : va_S A s.heap s.heap [] := va_S.rf
  have hl := lv_entry ([.ref h0, .int 28]) (n := 4) (Nat.le_of_ble_eq_true rfl)
  rw [lg_entry_eq]
  generalize (lg_sl ([.ref h0, .int 28]) ++ List.replicate (4 - (lg_sl ([.ref h0, .int 28])).length) Slot.unset).toArray = ls at hl ⊢
  have hl : lv_has ls 4 [(0, .ref h0), (1, .int 28)] := hl
  refine lv_aload_n hx hb dX1_wordOf_0 rfl (lv_at hl 0 rfl) ?_
  refine lv_iload_n hx hb dX1_wordOf_1 rfl (lv_at hl 1 rfl) ?_
  refine lv_iconst (v := 4) hx hb dX1_wordOf_2 (by decide) ?_
  have hPc := hP.sub (ws' := [(h0, .inr (4, [w1, .int 0, .int 0]))]) [0] rfl
  have hDc := hD.sub (ws' := [(h0, .inr (4, [w1, .int 0, .int 0]))]) [0] (by decide) rfl
  have hFc := va_free (wc := [(h0, .inr (4, [w1, .int 0, .int 0]))]) hD hS hA [0] rfl
  refine va_calll (va_runU (As := [.int 28, .int 4]) (rest := []) ⟨hx, hb, hml, hown, hts⟩ (c_num4_28 l D y s.heap.size h0 w1) (va_cwU 2 hts gv_c_X1_wordOf_28_c_num4_28_44 rfl rfl rfl rfl (by decide +kernel) ⟨(Nat.le_of_ble_eq_true rfl), (Nat.le_of_ble_eq_true rfl)⟩) (zB.preV hPc hDc hK hN hE hO hT hG hS hFc (fun _ h => nomatch h) (fun _ h => nomatch h) (fun _ h => nomatch h) (fun _ h => nomatch h) (va_recv hK hPc (ci := 4) (q0 := 0) rfl rfl)) rfl rfl hl.1 rfl (lv_room (Nat.le_of_ble_eq_true rfl)) dX1_wordOf_3 ⟨(Nat.le_of_ble_eq_true rfl), (Nat.le_of_ble_eq_true rfl)⟩) hS (fun q _ h => hFc q h) hFc (fun r1 u t H1 locs ht hvm hw hB hz1 hk1 hS => ?_)
  obtain ⟨hP1, hD1⟩ := hB
  rw [ht] at hP1
  obtain ⟨hP, hD⟩ := va_join (wr := []) (w1 := [(h0, .inr (4, [w1, .int 0, .int 0]))]) hP hD [0] [] rfl rfl (by decide) (by decide) hk1 hFc hP1 hD1
  generalize H1 = H at hP hS ⊢
  have hP : va_P D vwCl [(h0, .inr (4, [w1, .int 0, .int 0]))] H := hP
  have hD : va_D A [(h0, .inr (4, [w1, .int 0, .int 0]))] := hD
  have hw : r1 = 0 := hw
  subst hw
  refine lv_l2i (v := 0) hx hb dX1_wordOf_6 (by decide +kernel) ?_
  refine lv_istore_n (lv' := [(2, .int 0), (0, .ref h0), (1, .int 28)]) hx hb dX1_wordOf_7 rfl hl (by decide) rfl (fun ls hl => ?_)
  refine lv_aload_n hx hb dX1_wordOf_8 rfl (lv_at hl 1 rfl) ?_
  refine va_get (D := D) (ci := 4) (v := .int 0) (C := RX0) (T := TX0) (N := 3) hx hb hts (by decide +kernel) hown hK hP 0 rfl rfl 2 (by decide) (hts (.fieldLink RX1 28 "SignetRing$Span" "size" "I") (by decide +kernel)) (fun _ h9 => h9) rfl dX1_wordOf_9 ?_
  refine lv_iload_n hx hb dX1_wordOf_12 rfl (lv_at hl 2 rfl) ?_
  refine lv_isub hx hb dX1_wordOf_13 ?_
  refine lv_topi (fun v2 ev2 => ?_)
  have ev2 : v2 = -28 := ev2.trans (by decide +kernel)
  subst ev2
  refine lv_istore_n (lv' := [(3, .int (-28)), (2, .int 0), (0, .ref h0), (1, .int 28)]) hx hb dX1_wordOf_14 rfl hl (by decide) rfl (fun ls hl => ?_)
  refine lv_iload_n hx hb dX1_wordOf_15 rfl (lv_at hl 0 rfl) ?_
  refine lv_if_lt (tgt := 40) hx hb dX1_wordOf_16 (by decide) (fun _ => ?_) (fun c9 => absurd (by decide) c9)
  refine lv_iload_n hx hb dX1_wordOf_40 rfl (lv_at hl 1 rfl) ?_
  have hP9 := hP.sub (ws' := [(h0, .inr (4, [w1, .int 0, .int 0]))]) [0] rfl
  have hD9 := hD.sub (ws' := [(h0, .inr (4, [w1, .int 0, .int 0]))]) [0] (by decide) rfl
  refine W.widen (k := 0) (n := 0) (Nat.le_of_ble_eq_true rfl) (Nat.le_of_ble_eq_true rfl) ?_
  exact W.iret (v := 0) hx hb hr (fun t ht hW => ⟨⟨0, (), rfl, rfl, by rw [ht]; exact hP9, hD9⟩, hS.F ht⟩) hS.2.2 dX1_wordOf_41
def wz_c_num4_32 : List Cond := .code yX10_number cX10_number 8 (some .long) :: ([.fieldLink RX10 13 "SignetRing$Span" "from" "I", .fieldLink RX10 17 "SignetRing$Span" "size" "I"] ++ (wsX00 ++ ([])))
set_option maxHeartbeats 4000000 in
set_option maxRecDepth 100000 in
theorem c_num4_32 (l : Launch) (D : va_G) (y : Nat → ClassId) (sz : Nat) (h0 : Nat) (w1 : Value) : Met l yX10_number wz_c_num4_32 ({ frames := 0, cells := 0, slots := 0, locals := 0 }) (va_Pc [.ref h0, .int 32, .int 4] (zB D y [(h0, .inr (4, [w1, .int 0, .int 0]))] sz [] [] [] [])) (va_Ql (fun (r : Int64) (_ : Unit) => r = 0) (fun _ t => va_P D vwCl [(h0, .inr (4, [w1, .int 0, .int 0]))] t.heap ∧ va_D (va_A [(h0, .inr (4, [w1, .int 0, .int 0]))] sz) [(h0, .inr (4, [w1, .int 0, .int 0]))]) (va_A [(h0, .inr (4, [w1, .int 0, .int 0]))] sz)) 0 0 (va_A [(h0, .inr (4, [w1, .int 0, .int 0]))] sz) := by
  refine Met.ofW (cc := cX10_number) (maxL := 8) (ret := (some .long)) (by decide) rfl ?_
  intro p e s m args below meth c s₁ B hml hv
  obtain ⟨rfl, hsz, hP, hK, hD0, hN, hE, hO, hT, hG⟩ := hv
  have hx := B.exec
  have hb := B.bytes
  have hr := B.returns
  have hts := atoms_spec (ws := wz_c_num4_32) B.pre
  have hown : s.vm.findClass RX10 = some m.cls := findClass_of_methodNamed B.named
  have hlocks := B.notSynchronized
  subst hsz
  have hD := hD0.self (sz := s.heap.size)
  generalize hAe : va_A [(h0, .inr (4, [w1, .int 0, .int 0]))] s.heap.size = A at hD hE hT hG ⊢
  have hA : ∀ q : Nat, s.heap.size ≤ q → A q := fun q h => by rw [← hAe]; exact Or.inr h
  have hS : va_S A s.heap s.heap [] := va_S.rf
  have hl := lv_entry ([.ref h0, .int 32, .int 4]) (n := 8) (Nat.le_of_ble_eq_true rfl)
  rw [lg_entry_eq]
  generalize (lg_sl ([.ref h0, .int 32, .int 4]) ++ List.replicate (8 - (lg_sl ([.ref h0, .int 32, .int 4])).length) Slot.unset).toArray = ls at hl ⊢
  have hl : lv_has ls 8 [(0, .ref h0), (1, .int 32), (2, .int 4)] := hl
  refine lv_lconst (v := 0) hx hb dX10_number_0 (by decide) ?_
  refine lv_lstore_n (lv' := [(3, .long 0), (0, .ref h0), (1, .int 32), (2, .int 4)]) hx hb dX10_number_1 rfl hl (by decide) rfl (fun ls hl => ?_)
  refine lv_iconst (v := 0) hx hb dX10_number_2 (by decide) ?_
  refine lv_istore (lv' := [(5, .int 0), (3, .long 0), (0, .ref h0), (1, .int 32), (2, .int 4)]) hx hb dX10_number_3 hl (by decide) rfl (fun ls hl => ?_)
  refine lv_iload hx hb dX10_number_5 (lv_at hl 0 rfl) ?_
  refine lv_iload_n hx hb dX10_number_7 rfl (lv_at hl 4 rfl) ?_
  refine lv_icmp_ge (tgt := 92) hx hb dX10_number_8 (by decide) (fun c9 => absurd c9 (by decide)) (fun _ => ?_)
  refine lv_aload_n hx hb dX10_number_11 rfl (lv_at hl 2 rfl) ?_
  refine va_get (D := D) (ci := 4) (v := .int 0) (C := RX0) (T := TX0) (N := 3) hx hb hts (by decide +kernel) hown hK hP 0 rfl rfl 1 (by decide) (hts (.fieldLink RX10 13 "SignetRing$Span" "from" "I") (by decide +kernel)) (fun _ h9 => h9) rfl dX10_number_12 ?_
  refine lv_iload_n hx hb dX10_number_15 rfl (lv_at hl 3 rfl) ?_
  refine lv_iadd hx hb dX10_number_16 ?_
  refine lv_topi (fun v1 ev1 => ?_)
  have ev1 : v1 = 32 := ev1.trans (by decide +kernel)
  subst ev1
  refine lv_iload hx hb dX10_number_17 (lv_at hl 0 rfl) ?_
  refine lv_iadd hx hb dX10_number_19 ?_
  refine lv_topi (fun v2 ev2 => ?_)
  have ev2 : v2 = 32 := ev2.trans (by decide +kernel)
  subst ev2
  refine lv_istore (lv' := [(6, .int 32), (5, .int 0), (3, .long 0), (0, .ref h0), (1, .int 32), (2, .int 4)]) hx hb dX10_number_20 hl (by decide) rfl (fun ls hl => ?_)
  refine lv_iload_n hx hb dX10_number_22 rfl (lv_at hl 4 rfl) ?_
  refine lv_if_lt (tgt := 56) hx hb dX10_number_23 (by decide) (fun c9 => absurd c9 (by decide)) (fun _ => ?_)
  refine lv_iload_n hx hb dX10_number_26 rfl (lv_at hl 4 rfl) ?_
  refine lv_iload hx hb dX10_number_27 (lv_at hl 1 rfl) ?_
  refine lv_iadd hx hb dX10_number_29 ?_
  refine lv_topi (fun v3 ev3 => ?_)
  have ev3 : v3 = 32 := ev3.trans (by decide +kernel)
  subst ev3
  refine lv_aload_n hx hb dX10_number_30 rfl (lv_at hl 3 rfl) ?_
  refine va_get (D := D) (ci := 4) (v := .int 0) (C := RX0) (T := TX0) (N := 3) hx hb hts (by decide +kernel) hown hK hP 0 rfl rfl 2 (by decide) (hts (.fieldLink RX10 17 "SignetRing$Span" "size" "I") (by decide +kernel)) (fun _ h9 => h9) rfl dX10_number_31 ?_
  refine lv_icmp_ge (tgt := 56) hx hb dX10_number_34 (by decide) (fun _ => ?_) (fun c9 => absurd (by decide) c9)
  refine lv_iconst (v := 0) hx hb dX10_number_56 (by decide) ?_
  refine lv_istore (lv' := [(7, .int 0), (6, .int 32), (5, .int 0), (3, .long 0), (0, .ref h0), (1, .int 32), (2, .int 4)]) hx hb dX10_number_57 hl (by decide) rfl (fun ls hl => ?_)
  refine lv_lload_n hx hb dX10_number_59 rfl (lv_at hl 3 rfl) ?_
  refine lv_bipush (v := 8) hx hb dX10_number_60 (by decide) ?_
  refine lv_lshl hx hb dX10_number_62 rfl ?_
  refine lv_topl (fun v4 ev4 => ?_)
  have ev4 : v4 = 0 := ev4.trans (by decide +kernel)
  subst ev4
  refine lv_iload hx hb dX10_number_63 (lv_at hl 0 rfl) ?_
  refine lv_if_eq (tgt := 82) hx hb dX10_number_65 (by decide) (fun _ => ?_) (fun c9 => absurd (by decide) c9)
  refine lv_iconst (v := 0) hx hb dX10_number_82 (by decide) ?_
  refine lv_i2l (v := 0) hx hb dX10_number_83 (by decide +kernel) ?_
  refine lv_lor hx hb dX10_number_84 ?_
  refine lv_topl (fun v5 ev5 => ?_)
  have ev5 : v5 = 0 := ev5.trans (by decide +kernel)
  subst ev5
  refine lv_lstore_n (lv' := [(3, .long 0), (7, .int 0), (6, .int 32), (5, .int 0), (0, .ref h0), (1, .int 32), (2, .int 4)]) hx hb dX10_number_85 rfl hl (by decide) rfl (fun ls hl => ?_)
  refine lv_iinc (v := 1) (lv' := [(5, .int 1), (3, .long 0), (7, .int 0), (6, .int 32), (0, .ref h0), (1, .int 32), (2, .int 4)]) hx hb dX10_number_86 hl (k := 3) rfl (by decide) (by decide) rfl (fun ls hl => ?_)
  refine lv_goto (tgt := 5) hx hb dX10_number_89 (by decide) ?_
  refine lv_iload hx hb dX10_number_5 (lv_at hl 0 rfl) ?_
  refine lv_iload_n hx hb dX10_number_7 rfl (lv_at hl 6 rfl) ?_
  refine lv_icmp_ge (tgt := 92) hx hb dX10_number_8 (by decide) (fun c9 => absurd c9 (by decide)) (fun _ => ?_)
  refine lv_aload_n hx hb dX10_number_11 rfl (lv_at hl 4 rfl) ?_
  refine va_get (D := D) (ci := 4) (v := .int 0) (C := RX0) (T := TX0) (N := 3) hx hb hts (by decide +kernel) hown hK hP 0 rfl rfl 1 (by decide) (hts (.fieldLink RX10 13 "SignetRing$Span" "from" "I") (by decide +kernel)) (fun _ h9 => h9) rfl dX10_number_12 ?_
  refine lv_iload_n hx hb dX10_number_15 rfl (lv_at hl 5 rfl) ?_
  refine lv_iadd hx hb dX10_number_16 ?_
  refine lv_topi (fun v6 ev6 => ?_)
  have ev6 : v6 = 32 := ev6.trans (by decide +kernel)
  subst ev6
  refine lv_iload hx hb dX10_number_17 (lv_at hl 0 rfl) ?_
  refine lv_iadd hx hb dX10_number_19 ?_
  refine lv_topi (fun v7 ev7 => ?_)
  have ev7 : v7 = 33 := ev7.trans (by decide +kernel)
  subst ev7
  refine lv_istore (lv' := [(6, .int 33), (5, .int 1), (3, .long 0), (7, .int 0), (0, .ref h0), (1, .int 32), (2, .int 4)]) hx hb dX10_number_20 hl (by decide) rfl (fun ls hl => ?_)
  refine lv_iload_n hx hb dX10_number_22 rfl (lv_at hl 5 rfl) ?_
  refine lv_if_lt (tgt := 56) hx hb dX10_number_23 (by decide) (fun c9 => absurd c9 (by decide)) (fun _ => ?_)
  refine lv_iload_n hx hb dX10_number_26 rfl (lv_at hl 5 rfl) ?_
  refine lv_iload hx hb dX10_number_27 (lv_at hl 1 rfl) ?_
  refine lv_iadd hx hb dX10_number_29 ?_
  refine lv_topi (fun v8 ev8 => ?_)
  have ev8 : v8 = 33 := ev8.trans (by decide +kernel)
  subst ev8
  refine lv_aload_n hx hb dX10_number_30 rfl (lv_at hl 4 rfl) ?_
  refine va_get (D := D) (ci := 4) (v := .int 0) (C := RX0) (T := TX0) (N := 3) hx hb hts (by decide +kernel) hown hK hP 0 rfl rfl 2 (by decide) (hts (.fieldLink RX10 17 "SignetRing$Span" "size" "I") (by decide +kernel)) (fun _ h9 => h9) rfl dX10_number_31 ?_
  refine lv_icmp_ge (tgt := 56) hx hb dX10_number_34 (by decide) (fun _ => ?_) (fun c9 => absurd (by decide) c9)
  refine lv_iconst (v := 0) hx hb dX10_number_56 (by decide) ?_
  refine lv_istore (lv' := [(7, .int 0), (6, .int 33), (5, .int 1), (3, .long 0), (0, .ref h0), (1, .int 32), (2, .int 4)]) hx hb dX10_number_57 hl (by decide) rfl (fun ls hl => ?_)
  refine lv_lload_n hx hb dX10_number_59 rfl (lv_at hl 3 rfl) ?_
  refine lv_bipush (v := 8) hx hb dX10_number_60 (by decide) ?_
  refine lv_lshl hx hb dX10_number_62 rfl ?_
  refine lv_topl (fun v9 ev9 => ?_)
  have ev9 : v9 = 0 := ev9.trans (by decide +kernel)
  subst ev9
  refine lv_iload hx hb dX10_number_63 (lv_at hl 0 rfl) ?_
  refine lv_if_eq (tgt := 82) hx hb dX10_number_65 (by decide) (fun _ => ?_) (fun c9 => absurd (by decide) c9)
  refine lv_iconst (v := 0) hx hb dX10_number_82 (by decide) ?_
  refine lv_i2l (v := 0) hx hb dX10_number_83 (by decide +kernel) ?_
  refine lv_lor hx hb dX10_number_84 ?_
  refine lv_topl (fun v10 ev10 => ?_)
  have ev10 : v10 = 0 := ev10.trans (by decide +kernel)
  subst ev10
  refine lv_lstore_n (lv' := [(3, .long 0), (7, .int 0), (6, .int 33), (5, .int 1), (0, .ref h0), (1, .int 32), (2, .int 4)]) hx hb dX10_number_85 rfl hl (by decide) rfl (fun ls hl => ?_)
  refine lv_iinc (v := 2) (lv' := [(5, .int 2), (3, .long 0), (7, .int 0), (6, .int 33), (0, .ref h0), (1, .int 32), (2, .int 4)]) hx hb dX10_number_86 hl (k := 3) rfl (by decide) (by decide) rfl (fun ls hl => ?_)
  refine lv_goto (tgt := 5) hx hb dX10_number_89 (by decide) ?_
  refine lv_iload hx hb dX10_number_5 (lv_at hl 0 rfl) ?_
  refine lv_iload_n hx hb dX10_number_7 rfl (lv_at hl 6 rfl) ?_
  refine lv_icmp_ge (tgt := 92) hx hb dX10_number_8 (by decide) (fun c9 => absurd c9 (by decide)) (fun _ => ?_)
  refine lv_aload_n hx hb dX10_number_11 rfl (lv_at hl 4 rfl) ?_
  refine va_get (D := D) (ci := 4) (v := .int 0) (C := RX0) (T := TX0) (N := 3) hx hb hts (by decide +kernel) hown hK hP 0 rfl rfl 1 (by decide) (hts (.fieldLink RX10 13 "SignetRing$Span" "from" "I") (by decide +kernel)) (fun _ h9 => h9) rfl dX10_number_12 ?_
  refine lv_iload_n hx hb dX10_number_15 rfl (lv_at hl 5 rfl) ?_
  refine lv_iadd hx hb dX10_number_16 ?_
  refine lv_topi (fun v11 ev11 => ?_)
  have ev11 : v11 = 32 := ev11.trans (by decide +kernel)
  subst ev11
  refine lv_iload hx hb dX10_number_17 (lv_at hl 0 rfl) ?_
  refine lv_iadd hx hb dX10_number_19 ?_
  refine lv_topi (fun v12 ev12 => ?_)
  have ev12 : v12 = 34 := ev12.trans (by decide +kernel)
  subst ev12
  refine lv_istore (lv' := [(6, .int 34), (5, .int 2), (3, .long 0), (7, .int 0), (0, .ref h0), (1, .int 32), (2, .int 4)]) hx hb dX10_number_20 hl (by decide) rfl (fun ls hl => ?_)
  refine lv_iload_n hx hb dX10_number_22 rfl (lv_at hl 5 rfl) ?_
  refine lv_if_lt (tgt := 56) hx hb dX10_number_23 (by decide) (fun c9 => absurd c9 (by decide)) (fun _ => ?_)
  refine lv_iload_n hx hb dX10_number_26 rfl (lv_at hl 5 rfl) ?_
  refine lv_iload hx hb dX10_number_27 (lv_at hl 1 rfl) ?_
  refine lv_iadd hx hb dX10_number_29 ?_
  refine lv_topi (fun v13 ev13 => ?_)
  have ev13 : v13 = 34 := ev13.trans (by decide +kernel)
  subst ev13
  refine lv_aload_n hx hb dX10_number_30 rfl (lv_at hl 4 rfl) ?_
  refine va_get (D := D) (ci := 4) (v := .int 0) (C := RX0) (T := TX0) (N := 3) hx hb hts (by decide +kernel) hown hK hP 0 rfl rfl 2 (by decide) (hts (.fieldLink RX10 17 "SignetRing$Span" "size" "I") (by decide +kernel)) (fun _ h9 => h9) rfl dX10_number_31 ?_
  refine lv_icmp_ge (tgt := 56) hx hb dX10_number_34 (by decide) (fun _ => ?_) (fun c9 => absurd (by decide) c9)
  refine lv_iconst (v := 0) hx hb dX10_number_56 (by decide) ?_
  refine lv_istore (lv' := [(7, .int 0), (6, .int 34), (5, .int 2), (3, .long 0), (0, .ref h0), (1, .int 32), (2, .int 4)]) hx hb dX10_number_57 hl (by decide) rfl (fun ls hl => ?_)
  refine lv_lload_n hx hb dX10_number_59 rfl (lv_at hl 3 rfl) ?_
  refine lv_bipush (v := 8) hx hb dX10_number_60 (by decide) ?_
  refine lv_lshl hx hb dX10_number_62 rfl ?_
  refine lv_topl (fun v14 ev14 => ?_)
  have ev14 : v14 = 0 := ev14.trans (by decide +kernel)
  subst ev14
  refine lv_iload hx hb dX10_number_63 (lv_at hl 0 rfl) ?_
  refine lv_if_eq (tgt := 82) hx hb dX10_number_65 (by decide) (fun _ => ?_) (fun c9 => absurd (by decide) c9)
  refine lv_iconst (v := 0) hx hb dX10_number_82 (by decide) ?_
  refine lv_i2l (v := 0) hx hb dX10_number_83 (by decide +kernel) ?_
  refine lv_lor hx hb dX10_number_84 ?_
  refine lv_topl (fun v15 ev15 => ?_)
  have ev15 : v15 = 0 := ev15.trans (by decide +kernel)
  subst ev15
  refine lv_lstore_n (lv' := [(3, .long 0), (7, .int 0), (6, .int 34), (5, .int 2), (0, .ref h0), (1, .int 32), (2, .int 4)]) hx hb dX10_number_85 rfl hl (by decide) rfl (fun ls hl => ?_)
  refine lv_iinc (v := 3) (lv' := [(5, .int 3), (3, .long 0), (7, .int 0), (6, .int 34), (0, .ref h0), (1, .int 32), (2, .int 4)]) hx hb dX10_number_86 hl (k := 3) rfl (by decide) (by decide) rfl (fun ls hl => ?_)
  refine lv_goto (tgt := 5) hx hb dX10_number_89 (by decide) ?_
  refine lv_iload hx hb dX10_number_5 (lv_at hl 0 rfl) ?_
  refine lv_iload_n hx hb dX10_number_7 rfl (lv_at hl 6 rfl) ?_
  refine lv_icmp_ge (tgt := 92) hx hb dX10_number_8 (by decide) (fun c9 => absurd c9 (by decide)) (fun _ => ?_)
  refine lv_aload_n hx hb dX10_number_11 rfl (lv_at hl 4 rfl) ?_
  refine va_get (D := D) (ci := 4) (v := .int 0) (C := RX0) (T := TX0) (N := 3) hx hb hts (by decide +kernel) hown hK hP 0 rfl rfl 1 (by decide) (hts (.fieldLink RX10 13 "SignetRing$Span" "from" "I") (by decide +kernel)) (fun _ h9 => h9) rfl dX10_number_12 ?_
  refine lv_iload_n hx hb dX10_number_15 rfl (lv_at hl 5 rfl) ?_
  refine lv_iadd hx hb dX10_number_16 ?_
  refine lv_topi (fun v16 ev16 => ?_)
  have ev16 : v16 = 32 := ev16.trans (by decide +kernel)
  subst ev16
  refine lv_iload hx hb dX10_number_17 (lv_at hl 0 rfl) ?_
  refine lv_iadd hx hb dX10_number_19 ?_
  refine lv_topi (fun v17 ev17 => ?_)
  have ev17 : v17 = 35 := ev17.trans (by decide +kernel)
  subst ev17
  refine lv_istore (lv' := [(6, .int 35), (5, .int 3), (3, .long 0), (7, .int 0), (0, .ref h0), (1, .int 32), (2, .int 4)]) hx hb dX10_number_20 hl (by decide) rfl (fun ls hl => ?_)
  refine lv_iload_n hx hb dX10_number_22 rfl (lv_at hl 5 rfl) ?_
  refine lv_if_lt (tgt := 56) hx hb dX10_number_23 (by decide) (fun c9 => absurd c9 (by decide)) (fun _ => ?_)
  refine lv_iload_n hx hb dX10_number_26 rfl (lv_at hl 5 rfl) ?_
  refine lv_iload hx hb dX10_number_27 (lv_at hl 1 rfl) ?_
  refine lv_iadd hx hb dX10_number_29 ?_
  refine lv_topi (fun v18 ev18 => ?_)
  have ev18 : v18 = 35 := ev18.trans (by decide +kernel)
  subst ev18
  refine lv_aload_n hx hb dX10_number_30 rfl (lv_at hl 4 rfl) ?_
  refine va_get (D := D) (ci := 4) (v := .int 0) (C := RX0) (T := TX0) (N := 3) hx hb hts (by decide +kernel) hown hK hP 0 rfl rfl 2 (by decide) (hts (.fieldLink RX10 17 "SignetRing$Span" "size" "I") (by decide +kernel)) (fun _ h9 => h9) rfl dX10_number_31 ?_
  refine lv_icmp_ge (tgt := 56) hx hb dX10_number_34 (by decide) (fun _ => ?_) (fun c9 => absurd (by decide) c9)
  refine lv_iconst (v := 0) hx hb dX10_number_56 (by decide) ?_
  refine lv_istore (lv' := [(7, .int 0), (6, .int 35), (5, .int 3), (3, .long 0), (0, .ref h0), (1, .int 32), (2, .int 4)]) hx hb dX10_number_57 hl (by decide) rfl (fun ls hl => ?_)
  refine lv_lload_n hx hb dX10_number_59 rfl (lv_at hl 3 rfl) ?_
  refine lv_bipush (v := 8) hx hb dX10_number_60 (by decide) ?_
  refine lv_lshl hx hb dX10_number_62 rfl ?_
  refine lv_topl (fun v19 ev19 => ?_)
  have ev19 : v19 = 0 := ev19.trans (by decide +kernel)
  subst ev19
  refine lv_iload hx hb dX10_number_63 (lv_at hl 0 rfl) ?_
  refine lv_if_eq (tgt := 82) hx hb dX10_number_65 (by decide) (fun _ => ?_) (fun c9 => absurd (by decide) c9)
  refine lv_iconst (v := 0) hx hb dX10_number_82 (by decide) ?_
  refine lv_i2l (v := 0) hx hb dX10_number_83 (by decide +kernel) ?_
  refine lv_lor hx hb dX10_number_84 ?_
  refine lv_topl (fun v20 ev20 => ?_)
  have ev20 : v20 = 0 := ev20.trans (by decide +kernel)
  subst ev20
  refine lv_lstore_n (lv' := [(3, .long 0), (7, .int 0), (6, .int 35), (5, .int 3), (0, .ref h0), (1, .int 32), (2, .int 4)]) hx hb dX10_number_85 rfl hl (by decide) rfl (fun ls hl => ?_)
  refine lv_iinc (v := 4) (lv' := [(5, .int 4), (3, .long 0), (7, .int 0), (6, .int 35), (0, .ref h0), (1, .int 32), (2, .int 4)]) hx hb dX10_number_86 hl (k := 3) rfl (by decide) (by decide) rfl (fun ls hl => ?_)
  refine lv_goto (tgt := 5) hx hb dX10_number_89 (by decide) ?_
  refine lv_iload hx hb dX10_number_5 (lv_at hl 0 rfl) ?_
  refine lv_iload_n hx hb dX10_number_7 rfl (lv_at hl 6 rfl) ?_
  refine lv_icmp_ge (tgt := 92) hx hb dX10_number_8 (by decide) (fun _ => ?_) (fun c9 => absurd (by decide) c9)
  refine lv_lload_n hx hb dX10_number_92 rfl (lv_at hl 1 rfl) ?_
  have hP9 := hP.sub (ws' := [(h0, .inr (4, [w1, .int 0, .int 0]))]) [0] rfl
  have hD9 := hD.sub (ws' := [(h0, .inr (4, [w1, .int 0, .int 0]))]) [0] (by decide) rfl
  refine W.widen (k := 0) (n := 0) (Nat.le_of_ble_eq_true rfl) (Nat.le_of_ble_eq_true rfl) ?_
  exact W.lret (v := 0) hx hb hr (fun t ht hW => ⟨⟨0, (), rfl, rfl, by rw [ht]; exact hP9, hD9⟩, hS.F ht⟩) hS.2.2 dX10_number_93
def wz_c_X1_wordOf_32 : List Cond := .code yX1_wordOf cX1_wordOf 4 (some .int) :: ([.methodLink RX1 44 ⟨"SignetRing$Span", "number", "(II)J"⟩, .sameMethod "SignetRing$Span" "SignetRing$Span" "number" "(II)J", .selects RX0 ⟨"SignetRing$Span", "number", "(II)J"⟩ yX10_number, .instanceMethod yX10_number, .initialized RX10, .fieldLink RX1 28 "SignetRing$Span" "size" "I"] ++ (wsX00 ++ (wz_c_num4_32 ++ ([]))))
set_option maxRecDepth 100000 in
theorem gz_c_X1_wordOf_32_c_num4_32 : GoodIn wz_c_X1_wordOf_32 wz_c_num4_32 := goodIn_sub (fun w h => List.mem_cons_of_mem _ (List.mem_append_right _ (List.mem_append_right _ (List.mem_append_left _ h)))) (by decide +kernel)
set_option maxRecDepth 100000 in
theorem gv_c_X1_wordOf_32_c_num4_32_44 : GoodIn wz_c_X1_wordOf_32 (va_wsU RX1 44 RX0 "SignetRing$Span" ⟨"SignetRing$Span", "number", "(II)J"⟩ yX10_number wz_c_num4_32) := goodIn_app (goodIn_of _ (by decide +kernel)) gz_c_X1_wordOf_32_c_num4_32
set_option maxHeartbeats 4000000 in
set_option maxRecDepth 100000 in
theorem c_X1_wordOf_32 (l : Launch) (D : va_G) (y : Nat → ClassId) (sz : Nat) (h0 : Nat) (w1 : Value) : Met l yX1_wordOf wz_c_X1_wordOf_32 ({ frames := 1, cells := 0, slots := 0, locals := 27 }) (va_Pc [.ref h0, .int 32] (zB D y [(h0, .inr (4, [w1, .int 0, .int 0]))] sz [] [] [] [])) (va_Qi (fun (r : Int32) (_ : Unit) => r = 0) (fun _ t => va_P D vwCl [(h0, .inr (4, [w1, .int 0, .int 0]))] t.heap ∧ va_D (va_A [(h0, .inr (4, [w1, .int 0, .int 0]))] sz) [(h0, .inr (4, [w1, .int 0, .int 0]))]) (va_A [(h0, .inr (4, [w1, .int 0, .int 0]))] sz)) 0 0 (va_A [(h0, .inr (4, [w1, .int 0, .int 0]))] sz) := by
  refine Met.ofW (cc := cX1_wordOf) (maxL := 4) (ret := (some .int)) (by decide) rfl ?_
  intro p e s m args below meth c s₁ B hml hv
  obtain ⟨rfl, hsz, hP, hK, hD0, hN, hE, hO, hT, hG⟩ := hv
  have hx := B.exec
  have hb := B.bytes
  have hr := B.returns
  have hts := atoms_spec (ws := wz_c_X1_wordOf_32) B.pre
  have hown : s.vm.findClass RX1 = some m.cls := findClass_of_methodNamed B.named
  have hlocks := B.notSynchronized
  subst hsz
  have hD := hD0.self (sz := s.heap.size)
  generalize hAe : va_A [(h0, .inr (4, [w1, .int 0, .int 0]))] s.heap.size = A at hD hE hT hG ⊢
  have hA : ∀ q : Nat, s.heap.size ≤ q → A q := fun q h => by rw [← hAe]; exact Or.inr h
  have hS : va_S A s.heap s.heap [] := va_S.rf
  have hl := lv_entry ([.ref h0, .int 32]) (n := 4) (Nat.le_of_ble_eq_true rfl)
  rw [lg_entry_eq]
  generalize (lg_sl ([.ref h0, .int 32]) ++ List.replicate (4 - (lg_sl ([.ref h0, .int 32])).length) Slot.unset).toArray = ls at hl ⊢
  have hl : lv_has ls 4 [(0, .ref h0), (1, .int 32)] := hl
  refine lv_aload_n hx hb dX1_wordOf_0 rfl (lv_at hl 0 rfl) ?_
  refine lv_iload_n hx hb dX1_wordOf_1 rfl (lv_at hl 1 rfl) ?_
  refine lv_iconst (v := 4) hx hb dX1_wordOf_2 (by decide) ?_
  have hPc := hP.sub (ws' := [(h0, .inr (4, [w1, .int 0, .int 0]))]) [0] rfl
  have hDc := hD.sub (ws' := [(h0, .inr (4, [w1, .int 0, .int 0]))]) [0] (by decide) rfl
  have hFc := va_free (wc := [(h0, .inr (4, [w1, .int 0, .int 0]))]) hD hS hA [0] rfl
  refine va_calll (va_runU (As := [.int 32, .int 4]) (rest := []) ⟨hx, hb, hml, hown, hts⟩ (c_num4_32 l D y s.heap.size h0 w1) (va_cwU 2 hts gv_c_X1_wordOf_32_c_num4_32_44 rfl rfl rfl rfl (by decide +kernel) ⟨(Nat.le_of_ble_eq_true rfl), (Nat.le_of_ble_eq_true rfl)⟩) (zB.preV hPc hDc hK hN hE hO hT hG hS hFc (fun _ h => nomatch h) (fun _ h => nomatch h) (fun _ h => nomatch h) (fun _ h => nomatch h) (va_recv hK hPc (ci := 4) (q0 := 0) rfl rfl)) rfl rfl hl.1 rfl (lv_room (Nat.le_of_ble_eq_true rfl)) dX1_wordOf_3 ⟨(Nat.le_of_ble_eq_true rfl), (Nat.le_of_ble_eq_true rfl)⟩) hS (fun q _ h => hFc q h) hFc (fun r1 u t H1 locs ht hvm hw hB hz1 hk1 hS => ?_)
  obtain ⟨hP1, hD1⟩ := hB
  rw [ht] at hP1
  obtain ⟨hP, hD⟩ := va_join (wr := []) (w1 := [(h0, .inr (4, [w1, .int 0, .int 0]))]) hP hD [0] [] rfl rfl (by decide) (by decide) hk1 hFc hP1 hD1
  generalize H1 = H at hP hS ⊢
  have hP : va_P D vwCl [(h0, .inr (4, [w1, .int 0, .int 0]))] H := hP
  have hD : va_D A [(h0, .inr (4, [w1, .int 0, .int 0]))] := hD
  have hw : r1 = 0 := hw
  subst hw
  refine lv_l2i (v := 0) hx hb dX1_wordOf_6 (by decide +kernel) ?_
  refine lv_istore_n (lv' := [(2, .int 0), (0, .ref h0), (1, .int 32)]) hx hb dX1_wordOf_7 rfl hl (by decide) rfl (fun ls hl => ?_)
  refine lv_aload_n hx hb dX1_wordOf_8 rfl (lv_at hl 1 rfl) ?_
  refine va_get (D := D) (ci := 4) (v := .int 0) (C := RX0) (T := TX0) (N := 3) hx hb hts (by decide +kernel) hown hK hP 0 rfl rfl 2 (by decide) (hts (.fieldLink RX1 28 "SignetRing$Span" "size" "I") (by decide +kernel)) (fun _ h9 => h9) rfl dX1_wordOf_9 ?_
  refine lv_iload_n hx hb dX1_wordOf_12 rfl (lv_at hl 2 rfl) ?_
  refine lv_isub hx hb dX1_wordOf_13 ?_
  refine lv_topi (fun v2 ev2 => ?_)
  have ev2 : v2 = -32 := ev2.trans (by decide +kernel)
  subst ev2
  refine lv_istore_n (lv' := [(3, .int (-32)), (2, .int 0), (0, .ref h0), (1, .int 32)]) hx hb dX1_wordOf_14 rfl hl (by decide) rfl (fun ls hl => ?_)
  refine lv_iload_n hx hb dX1_wordOf_15 rfl (lv_at hl 0 rfl) ?_
  refine lv_if_lt (tgt := 40) hx hb dX1_wordOf_16 (by decide) (fun _ => ?_) (fun c9 => absurd (by decide) c9)
  refine lv_iload_n hx hb dX1_wordOf_40 rfl (lv_at hl 1 rfl) ?_
  have hP9 := hP.sub (ws' := [(h0, .inr (4, [w1, .int 0, .int 0]))]) [0] rfl
  have hD9 := hD.sub (ws' := [(h0, .inr (4, [w1, .int 0, .int 0]))]) [0] (by decide) rfl
  refine W.widen (k := 0) (n := 0) (Nat.le_of_ble_eq_true rfl) (Nat.le_of_ble_eq_true rfl) ?_
  exact W.iret (v := 0) hx hb hr (fun t ht hW => ⟨⟨0, (), rfl, rfl, by rw [ht]; exact hP9, hD9⟩, hS.F ht⟩) hS.2.2 dX1_wordOf_41
def wz_c_num4_36 : List Cond := .code yX10_number cX10_number 8 (some .long) :: ([.fieldLink RX10 13 "SignetRing$Span" "from" "I", .fieldLink RX10 17 "SignetRing$Span" "size" "I"] ++ (wsX00 ++ ([])))
set_option maxHeartbeats 4000000 in
set_option maxRecDepth 100000 in
theorem c_num4_36 (l : Launch) (D : va_G) (y : Nat → ClassId) (sz : Nat) (h0 : Nat) (w1 : Value) : Met l yX10_number wz_c_num4_36 ({ frames := 0, cells := 0, slots := 0, locals := 0 }) (va_Pc [.ref h0, .int 36, .int 4] (zB D y [(h0, .inr (4, [w1, .int 0, .int 0]))] sz [] [] [] [])) (va_Ql (fun (r : Int64) (_ : Unit) => r = 0) (fun _ t => va_P D vwCl [(h0, .inr (4, [w1, .int 0, .int 0]))] t.heap ∧ va_D (va_A [(h0, .inr (4, [w1, .int 0, .int 0]))] sz) [(h0, .inr (4, [w1, .int 0, .int 0]))]) (va_A [(h0, .inr (4, [w1, .int 0, .int 0]))] sz)) 0 0 (va_A [(h0, .inr (4, [w1, .int 0, .int 0]))] sz) := by
  refine Met.ofW (cc := cX10_number) (maxL := 8) (ret := (some .long)) (by decide) rfl ?_
  intro p e s m args below meth c s₁ B hml hv
  obtain ⟨rfl, hsz, hP, hK, hD0, hN, hE, hO, hT, hG⟩ := hv
  have hx := B.exec
  have hb := B.bytes
  have hr := B.returns
  have hts := atoms_spec (ws := wz_c_num4_36) B.pre
  have hown : s.vm.findClass RX10 = some m.cls := findClass_of_methodNamed B.named
  have hlocks := B.notSynchronized
  subst hsz
  have hD := hD0.self (sz := s.heap.size)
  generalize hAe : va_A [(h0, .inr (4, [w1, .int 0, .int 0]))] s.heap.size = A at hD hE hT hG ⊢
  have hA : ∀ q : Nat, s.heap.size ≤ q → A q := fun q h => by rw [← hAe]; exact Or.inr h
  have hS : va_S A s.heap s.heap [] := va_S.rf
  have hl := lv_entry ([.ref h0, .int 36, .int 4]) (n := 8) (Nat.le_of_ble_eq_true rfl)
  rw [lg_entry_eq]
  generalize (lg_sl ([.ref h0, .int 36, .int 4]) ++ List.replicate (8 - (lg_sl ([.ref h0, .int 36, .int 4])).length) Slot.unset).toArray = ls at hl ⊢
  have hl : lv_has ls 8 [(0, .ref h0), (1, .int 36), (2, .int 4)] := hl
  refine lv_lconst (v := 0) hx hb dX10_number_0 (by decide) ?_
  refine lv_lstore_n (lv' := [(3, .long 0), (0, .ref h0), (1, .int 36), (2, .int 4)]) hx hb dX10_number_1 rfl hl (by decide) rfl (fun ls hl => ?_)
  refine lv_iconst (v := 0) hx hb dX10_number_2 (by decide) ?_
  refine lv_istore (lv' := [(5, .int 0), (3, .long 0), (0, .ref h0), (1, .int 36), (2, .int 4)]) hx hb dX10_number_3 hl (by decide) rfl (fun ls hl => ?_)
  refine lv_iload hx hb dX10_number_5 (lv_at hl 0 rfl) ?_
  refine lv_iload_n hx hb dX10_number_7 rfl (lv_at hl 4 rfl) ?_
  refine lv_icmp_ge (tgt := 92) hx hb dX10_number_8 (by decide) (fun c9 => absurd c9 (by decide)) (fun _ => ?_)
  refine lv_aload_n hx hb dX10_number_11 rfl (lv_at hl 2 rfl) ?_
  refine va_get (D := D) (ci := 4) (v := .int 0) (C := RX0) (T := TX0) (N := 3) hx hb hts (by decide +kernel) hown hK hP 0 rfl rfl 1 (by decide) (hts (.fieldLink RX10 13 "SignetRing$Span" "from" "I") (by decide +kernel)) (fun _ h9 => h9) rfl dX10_number_12 ?_
  refine lv_iload_n hx hb dX10_number_15 rfl (lv_at hl 3 rfl) ?_
  refine lv_iadd hx hb dX10_number_16 ?_
  refine lv_topi (fun v1 ev1 => ?_)
  have ev1 : v1 = 36 := ev1.trans (by decide +kernel)
  subst ev1
  refine lv_iload hx hb dX10_number_17 (lv_at hl 0 rfl) ?_
  refine lv_iadd hx hb dX10_number_19 ?_
  refine lv_topi (fun v2 ev2 => ?_)
  have ev2 : v2 = 36 := ev2.trans (by decide +kernel)
  subst ev2
  refine lv_istore (lv' := [(6, .int 36), (5, .int 0), (3, .long 0), (0, .ref h0), (1, .int 36), (2, .int 4)]) hx hb dX10_number_20 hl (by decide) rfl (fun ls hl => ?_)
  refine lv_iload_n hx hb dX10_number_22 rfl (lv_at hl 4 rfl) ?_
  refine lv_if_lt (tgt := 56) hx hb dX10_number_23 (by decide) (fun c9 => absurd c9 (by decide)) (fun _ => ?_)
  refine lv_iload_n hx hb dX10_number_26 rfl (lv_at hl 4 rfl) ?_
  refine lv_iload hx hb dX10_number_27 (lv_at hl 1 rfl) ?_
  refine lv_iadd hx hb dX10_number_29 ?_
  refine lv_topi (fun v3 ev3 => ?_)
  have ev3 : v3 = 36 := ev3.trans (by decide +kernel)
  subst ev3
  refine lv_aload_n hx hb dX10_number_30 rfl (lv_at hl 3 rfl) ?_
  refine va_get (D := D) (ci := 4) (v := .int 0) (C := RX0) (T := TX0) (N := 3) hx hb hts (by decide +kernel) hown hK hP 0 rfl rfl 2 (by decide) (hts (.fieldLink RX10 17 "SignetRing$Span" "size" "I") (by decide +kernel)) (fun _ h9 => h9) rfl dX10_number_31 ?_
  refine lv_icmp_ge (tgt := 56) hx hb dX10_number_34 (by decide) (fun _ => ?_) (fun c9 => absurd (by decide) c9)
  refine lv_iconst (v := 0) hx hb dX10_number_56 (by decide) ?_
  refine lv_istore (lv' := [(7, .int 0), (6, .int 36), (5, .int 0), (3, .long 0), (0, .ref h0), (1, .int 36), (2, .int 4)]) hx hb dX10_number_57 hl (by decide) rfl (fun ls hl => ?_)
  refine lv_lload_n hx hb dX10_number_59 rfl (lv_at hl 3 rfl) ?_
  refine lv_bipush (v := 8) hx hb dX10_number_60 (by decide) ?_
  refine lv_lshl hx hb dX10_number_62 rfl ?_
  refine lv_topl (fun v4 ev4 => ?_)
  have ev4 : v4 = 0 := ev4.trans (by decide +kernel)
  subst ev4
  refine lv_iload hx hb dX10_number_63 (lv_at hl 0 rfl) ?_
  refine lv_if_eq (tgt := 82) hx hb dX10_number_65 (by decide) (fun _ => ?_) (fun c9 => absurd (by decide) c9)
  refine lv_iconst (v := 0) hx hb dX10_number_82 (by decide) ?_
  refine lv_i2l (v := 0) hx hb dX10_number_83 (by decide +kernel) ?_
  refine lv_lor hx hb dX10_number_84 ?_
  refine lv_topl (fun v5 ev5 => ?_)
  have ev5 : v5 = 0 := ev5.trans (by decide +kernel)
  subst ev5
  refine lv_lstore_n (lv' := [(3, .long 0), (7, .int 0), (6, .int 36), (5, .int 0), (0, .ref h0), (1, .int 36), (2, .int 4)]) hx hb dX10_number_85 rfl hl (by decide) rfl (fun ls hl => ?_)
  refine lv_iinc (v := 1) (lv' := [(5, .int 1), (3, .long 0), (7, .int 0), (6, .int 36), (0, .ref h0), (1, .int 36), (2, .int 4)]) hx hb dX10_number_86 hl (k := 3) rfl (by decide) (by decide) rfl (fun ls hl => ?_)
  refine lv_goto (tgt := 5) hx hb dX10_number_89 (by decide) ?_
  refine lv_iload hx hb dX10_number_5 (lv_at hl 0 rfl) ?_
  refine lv_iload_n hx hb dX10_number_7 rfl (lv_at hl 6 rfl) ?_
  refine lv_icmp_ge (tgt := 92) hx hb dX10_number_8 (by decide) (fun c9 => absurd c9 (by decide)) (fun _ => ?_)
  refine lv_aload_n hx hb dX10_number_11 rfl (lv_at hl 4 rfl) ?_
  refine va_get (D := D) (ci := 4) (v := .int 0) (C := RX0) (T := TX0) (N := 3) hx hb hts (by decide +kernel) hown hK hP 0 rfl rfl 1 (by decide) (hts (.fieldLink RX10 13 "SignetRing$Span" "from" "I") (by decide +kernel)) (fun _ h9 => h9) rfl dX10_number_12 ?_
  refine lv_iload_n hx hb dX10_number_15 rfl (lv_at hl 5 rfl) ?_
  refine lv_iadd hx hb dX10_number_16 ?_
  refine lv_topi (fun v6 ev6 => ?_)
  have ev6 : v6 = 36 := ev6.trans (by decide +kernel)
  subst ev6
  refine lv_iload hx hb dX10_number_17 (lv_at hl 0 rfl) ?_
  refine lv_iadd hx hb dX10_number_19 ?_
  refine lv_topi (fun v7 ev7 => ?_)
  have ev7 : v7 = 37 := ev7.trans (by decide +kernel)
  subst ev7
  refine lv_istore (lv' := [(6, .int 37), (5, .int 1), (3, .long 0), (7, .int 0), (0, .ref h0), (1, .int 36), (2, .int 4)]) hx hb dX10_number_20 hl (by decide) rfl (fun ls hl => ?_)
  refine lv_iload_n hx hb dX10_number_22 rfl (lv_at hl 5 rfl) ?_
  refine lv_if_lt (tgt := 56) hx hb dX10_number_23 (by decide) (fun c9 => absurd c9 (by decide)) (fun _ => ?_)
  refine lv_iload_n hx hb dX10_number_26 rfl (lv_at hl 5 rfl) ?_
  refine lv_iload hx hb dX10_number_27 (lv_at hl 1 rfl) ?_
  refine lv_iadd hx hb dX10_number_29 ?_
  refine lv_topi (fun v8 ev8 => ?_)
  have ev8 : v8 = 37 := ev8.trans (by decide +kernel)
  subst ev8
  refine lv_aload_n hx hb dX10_number_30 rfl (lv_at hl 4 rfl) ?_
  refine va_get (D := D) (ci := 4) (v := .int 0) (C := RX0) (T := TX0) (N := 3) hx hb hts (by decide +kernel) hown hK hP 0 rfl rfl 2 (by decide) (hts (.fieldLink RX10 17 "SignetRing$Span" "size" "I") (by decide +kernel)) (fun _ h9 => h9) rfl dX10_number_31 ?_
  refine lv_icmp_ge (tgt := 56) hx hb dX10_number_34 (by decide) (fun _ => ?_) (fun c9 => absurd (by decide) c9)
  refine lv_iconst (v := 0) hx hb dX10_number_56 (by decide) ?_
  refine lv_istore (lv' := [(7, .int 0), (6, .int 37), (5, .int 1), (3, .long 0), (0, .ref h0), (1, .int 36), (2, .int 4)]) hx hb dX10_number_57 hl (by decide) rfl (fun ls hl => ?_)
  refine lv_lload_n hx hb dX10_number_59 rfl (lv_at hl 3 rfl) ?_
  refine lv_bipush (v := 8) hx hb dX10_number_60 (by decide) ?_
  refine lv_lshl hx hb dX10_number_62 rfl ?_
  refine lv_topl (fun v9 ev9 => ?_)
  have ev9 : v9 = 0 := ev9.trans (by decide +kernel)
  subst ev9
  refine lv_iload hx hb dX10_number_63 (lv_at hl 0 rfl) ?_
  refine lv_if_eq (tgt := 82) hx hb dX10_number_65 (by decide) (fun _ => ?_) (fun c9 => absurd (by decide) c9)
  refine lv_iconst (v := 0) hx hb dX10_number_82 (by decide) ?_
  refine lv_i2l (v := 0) hx hb dX10_number_83 (by decide +kernel) ?_
  refine lv_lor hx hb dX10_number_84 ?_
  refine lv_topl (fun v10 ev10 => ?_)
  have ev10 : v10 = 0 := ev10.trans (by decide +kernel)
  subst ev10
  refine lv_lstore_n (lv' := [(3, .long 0), (7, .int 0), (6, .int 37), (5, .int 1), (0, .ref h0), (1, .int 36), (2, .int 4)]) hx hb dX10_number_85 rfl hl (by decide) rfl (fun ls hl => ?_)
  refine lv_iinc (v := 2) (lv' := [(5, .int 2), (3, .long 0), (7, .int 0), (6, .int 37), (0, .ref h0), (1, .int 36), (2, .int 4)]) hx hb dX10_number_86 hl (k := 3) rfl (by decide) (by decide) rfl (fun ls hl => ?_)
  refine lv_goto (tgt := 5) hx hb dX10_number_89 (by decide) ?_
  refine lv_iload hx hb dX10_number_5 (lv_at hl 0 rfl) ?_
  refine lv_iload_n hx hb dX10_number_7 rfl (lv_at hl 6 rfl) ?_
  refine lv_icmp_ge (tgt := 92) hx hb dX10_number_8 (by decide) (fun c9 => absurd c9 (by decide)) (fun _ => ?_)
  refine lv_aload_n hx hb dX10_number_11 rfl (lv_at hl 4 rfl) ?_
  refine va_get (D := D) (ci := 4) (v := .int 0) (C := RX0) (T := TX0) (N := 3) hx hb hts (by decide +kernel) hown hK hP 0 rfl rfl 1 (by decide) (hts (.fieldLink RX10 13 "SignetRing$Span" "from" "I") (by decide +kernel)) (fun _ h9 => h9) rfl dX10_number_12 ?_
  refine lv_iload_n hx hb dX10_number_15 rfl (lv_at hl 5 rfl) ?_
  refine lv_iadd hx hb dX10_number_16 ?_
  refine lv_topi (fun v11 ev11 => ?_)
  have ev11 : v11 = 36 := ev11.trans (by decide +kernel)
  subst ev11
  refine lv_iload hx hb dX10_number_17 (lv_at hl 0 rfl) ?_
  refine lv_iadd hx hb dX10_number_19 ?_
  refine lv_topi (fun v12 ev12 => ?_)
  have ev12 : v12 = 38 := ev12.trans (by decide +kernel)
  subst ev12
  refine lv_istore (lv' := [(6, .int 38), (5, .int 2), (3, .long 0), (7, .int 0), (0, .ref h0), (1, .int 36), (2, .int 4)]) hx hb dX10_number_20 hl (by decide) rfl (fun ls hl => ?_)
  refine lv_iload_n hx hb dX10_number_22 rfl (lv_at hl 5 rfl) ?_
  refine lv_if_lt (tgt := 56) hx hb dX10_number_23 (by decide) (fun c9 => absurd c9 (by decide)) (fun _ => ?_)
  refine lv_iload_n hx hb dX10_number_26 rfl (lv_at hl 5 rfl) ?_
  refine lv_iload hx hb dX10_number_27 (lv_at hl 1 rfl) ?_
  refine lv_iadd hx hb dX10_number_29 ?_
  refine lv_topi (fun v13 ev13 => ?_)
  have ev13 : v13 = 38 := ev13.trans (by decide +kernel)
  subst ev13
  refine lv_aload_n hx hb dX10_number_30 rfl (lv_at hl 4 rfl) ?_
  refine va_get (D := D) (ci := 4) (v := .int 0) (C := RX0) (T := TX0) (N := 3) hx hb hts (by decide +kernel) hown hK hP 0 rfl rfl 2 (by decide) (hts (.fieldLink RX10 17 "SignetRing$Span" "size" "I") (by decide +kernel)) (fun _ h9 => h9) rfl dX10_number_31 ?_
  refine lv_icmp_ge (tgt := 56) hx hb dX10_number_34 (by decide) (fun _ => ?_) (fun c9 => absurd (by decide) c9)
  refine lv_iconst (v := 0) hx hb dX10_number_56 (by decide) ?_
  refine lv_istore (lv' := [(7, .int 0), (6, .int 38), (5, .int 2), (3, .long 0), (0, .ref h0), (1, .int 36), (2, .int 4)]) hx hb dX10_number_57 hl (by decide) rfl (fun ls hl => ?_)
  refine lv_lload_n hx hb dX10_number_59 rfl (lv_at hl 3 rfl) ?_
  refine lv_bipush (v := 8) hx hb dX10_number_60 (by decide) ?_
  refine lv_lshl hx hb dX10_number_62 rfl ?_
  refine lv_topl (fun v14 ev14 => ?_)
  have ev14 : v14 = 0 := ev14.trans (by decide +kernel)
  subst ev14
  refine lv_iload hx hb dX10_number_63 (lv_at hl 0 rfl) ?_
  refine lv_if_eq (tgt := 82) hx hb dX10_number_65 (by decide) (fun _ => ?_) (fun c9 => absurd (by decide) c9)
  refine lv_iconst (v := 0) hx hb dX10_number_82 (by decide) ?_
  refine lv_i2l (v := 0) hx hb dX10_number_83 (by decide +kernel) ?_
  refine lv_lor hx hb dX10_number_84 ?_
  refine lv_topl (fun v15 ev15 => ?_)
  have ev15 : v15 = 0 := ev15.trans (by decide +kernel)
  subst ev15
  refine lv_lstore_n (lv' := [(3, .long 0), (7, .int 0), (6, .int 38), (5, .int 2), (0, .ref h0), (1, .int 36), (2, .int 4)]) hx hb dX10_number_85 rfl hl (by decide) rfl (fun ls hl => ?_)
  refine lv_iinc (v := 3) (lv' := [(5, .int 3), (3, .long 0), (7, .int 0), (6, .int 38), (0, .ref h0), (1, .int 36), (2, .int 4)]) hx hb dX10_number_86 hl (k := 3) rfl (by decide) (by decide) rfl (fun ls hl => ?_)
  refine lv_goto (tgt := 5) hx hb dX10_number_89 (by decide) ?_
  refine lv_iload hx hb dX10_number_5 (lv_at hl 0 rfl) ?_
  refine lv_iload_n hx hb dX10_number_7 rfl (lv_at hl 6 rfl) ?_
  refine lv_icmp_ge (tgt := 92) hx hb dX10_number_8 (by decide) (fun c9 => absurd c9 (by decide)) (fun _ => ?_)
  refine lv_aload_n hx hb dX10_number_11 rfl (lv_at hl 4 rfl) ?_
  refine va_get (D := D) (ci := 4) (v := .int 0) (C := RX0) (T := TX0) (N := 3) hx hb hts (by decide +kernel) hown hK hP 0 rfl rfl 1 (by decide) (hts (.fieldLink RX10 13 "SignetRing$Span" "from" "I") (by decide +kernel)) (fun _ h9 => h9) rfl dX10_number_12 ?_
  refine lv_iload_n hx hb dX10_number_15 rfl (lv_at hl 5 rfl) ?_
  refine lv_iadd hx hb dX10_number_16 ?_
  refine lv_topi (fun v16 ev16 => ?_)
  have ev16 : v16 = 36 := ev16.trans (by decide +kernel)
  subst ev16
  refine lv_iload hx hb dX10_number_17 (lv_at hl 0 rfl) ?_
  refine lv_iadd hx hb dX10_number_19 ?_
  refine lv_topi (fun v17 ev17 => ?_)
  have ev17 : v17 = 39 := ev17.trans (by decide +kernel)
  subst ev17
  refine lv_istore (lv' := [(6, .int 39), (5, .int 3), (3, .long 0), (7, .int 0), (0, .ref h0), (1, .int 36), (2, .int 4)]) hx hb dX10_number_20 hl (by decide) rfl (fun ls hl => ?_)
  refine lv_iload_n hx hb dX10_number_22 rfl (lv_at hl 5 rfl) ?_
  refine lv_if_lt (tgt := 56) hx hb dX10_number_23 (by decide) (fun c9 => absurd c9 (by decide)) (fun _ => ?_)
  refine lv_iload_n hx hb dX10_number_26 rfl (lv_at hl 5 rfl) ?_
  refine lv_iload hx hb dX10_number_27 (lv_at hl 1 rfl) ?_
  refine lv_iadd hx hb dX10_number_29 ?_
  refine lv_topi (fun v18 ev18 => ?_)
  have ev18 : v18 = 39 := ev18.trans (by decide +kernel)
  subst ev18
  refine lv_aload_n hx hb dX10_number_30 rfl (lv_at hl 4 rfl) ?_
  refine va_get (D := D) (ci := 4) (v := .int 0) (C := RX0) (T := TX0) (N := 3) hx hb hts (by decide +kernel) hown hK hP 0 rfl rfl 2 (by decide) (hts (.fieldLink RX10 17 "SignetRing$Span" "size" "I") (by decide +kernel)) (fun _ h9 => h9) rfl dX10_number_31 ?_
  refine lv_icmp_ge (tgt := 56) hx hb dX10_number_34 (by decide) (fun _ => ?_) (fun c9 => absurd (by decide) c9)
  refine lv_iconst (v := 0) hx hb dX10_number_56 (by decide) ?_
  refine lv_istore (lv' := [(7, .int 0), (6, .int 39), (5, .int 3), (3, .long 0), (0, .ref h0), (1, .int 36), (2, .int 4)]) hx hb dX10_number_57 hl (by decide) rfl (fun ls hl => ?_)
  refine lv_lload_n hx hb dX10_number_59 rfl (lv_at hl 3 rfl) ?_
  refine lv_bipush (v := 8) hx hb dX10_number_60 (by decide) ?_
  refine lv_lshl hx hb dX10_number_62 rfl ?_
  refine lv_topl (fun v19 ev19 => ?_)
  have ev19 : v19 = 0 := ev19.trans (by decide +kernel)
  subst ev19
  refine lv_iload hx hb dX10_number_63 (lv_at hl 0 rfl) ?_
  refine lv_if_eq (tgt := 82) hx hb dX10_number_65 (by decide) (fun _ => ?_) (fun c9 => absurd (by decide) c9)
  refine lv_iconst (v := 0) hx hb dX10_number_82 (by decide) ?_
  refine lv_i2l (v := 0) hx hb dX10_number_83 (by decide +kernel) ?_
  refine lv_lor hx hb dX10_number_84 ?_
  refine lv_topl (fun v20 ev20 => ?_)
  have ev20 : v20 = 0 := ev20.trans (by decide +kernel)
  subst ev20
  refine lv_lstore_n (lv' := [(3, .long 0), (7, .int 0), (6, .int 39), (5, .int 3), (0, .ref h0), (1, .int 36), (2, .int 4)]) hx hb dX10_number_85 rfl hl (by decide) rfl (fun ls hl => ?_)
  refine lv_iinc (v := 4) (lv' := [(5, .int 4), (3, .long 0), (7, .int 0), (6, .int 39), (0, .ref h0), (1, .int 36), (2, .int 4)]) hx hb dX10_number_86 hl (k := 3) rfl (by decide) (by decide) rfl (fun ls hl => ?_)
  refine lv_goto (tgt := 5) hx hb dX10_number_89 (by decide) ?_
  refine lv_iload hx hb dX10_number_5 (lv_at hl 0 rfl) ?_
  refine lv_iload_n hx hb dX10_number_7 rfl (lv_at hl 6 rfl) ?_
  refine lv_icmp_ge (tgt := 92) hx hb dX10_number_8 (by decide) (fun _ => ?_) (fun c9 => absurd (by decide) c9)
  refine lv_lload_n hx hb dX10_number_92 rfl (lv_at hl 1 rfl) ?_
  have hP9 := hP.sub (ws' := [(h0, .inr (4, [w1, .int 0, .int 0]))]) [0] rfl
  have hD9 := hD.sub (ws' := [(h0, .inr (4, [w1, .int 0, .int 0]))]) [0] (by decide) rfl
  refine W.widen (k := 0) (n := 0) (Nat.le_of_ble_eq_true rfl) (Nat.le_of_ble_eq_true rfl) ?_
  exact W.lret (v := 0) hx hb hr (fun t ht hW => ⟨⟨0, (), rfl, rfl, by rw [ht]; exact hP9, hD9⟩, hS.F ht⟩) hS.2.2 dX10_number_93
def wz_c_X1_wordOf_36 : List Cond := .code yX1_wordOf cX1_wordOf 4 (some .int) :: ([.methodLink RX1 44 ⟨"SignetRing$Span", "number", "(II)J"⟩, .sameMethod "SignetRing$Span" "SignetRing$Span" "number" "(II)J", .selects RX0 ⟨"SignetRing$Span", "number", "(II)J"⟩ yX10_number, .instanceMethod yX10_number, .initialized RX10, .fieldLink RX1 28 "SignetRing$Span" "size" "I"] ++ (wsX00 ++ (wz_c_num4_36 ++ ([]))))
set_option maxRecDepth 100000 in
theorem gz_c_X1_wordOf_36_c_num4_36 : GoodIn wz_c_X1_wordOf_36 wz_c_num4_36 := goodIn_sub (fun w h => List.mem_cons_of_mem _ (List.mem_append_right _ (List.mem_append_right _ (List.mem_append_left _ h)))) (by decide +kernel)
set_option maxRecDepth 100000 in
theorem gv_c_X1_wordOf_36_c_num4_36_44 : GoodIn wz_c_X1_wordOf_36 (va_wsU RX1 44 RX0 "SignetRing$Span" ⟨"SignetRing$Span", "number", "(II)J"⟩ yX10_number wz_c_num4_36) := goodIn_app (goodIn_of _ (by decide +kernel)) gz_c_X1_wordOf_36_c_num4_36
set_option maxHeartbeats 4000000 in
set_option maxRecDepth 100000 in
theorem c_X1_wordOf_36 (l : Launch) (D : va_G) (y : Nat → ClassId) (sz : Nat) (h0 : Nat) (w1 : Value) : Met l yX1_wordOf wz_c_X1_wordOf_36 ({ frames := 1, cells := 0, slots := 0, locals := 27 }) (va_Pc [.ref h0, .int 36] (zB D y [(h0, .inr (4, [w1, .int 0, .int 0]))] sz [] [] [] [])) (va_Qi (fun (r : Int32) (_ : Unit) => r = 0) (fun _ t => va_P D vwCl [(h0, .inr (4, [w1, .int 0, .int 0]))] t.heap ∧ va_D (va_A [(h0, .inr (4, [w1, .int 0, .int 0]))] sz) [(h0, .inr (4, [w1, .int 0, .int 0]))]) (va_A [(h0, .inr (4, [w1, .int 0, .int 0]))] sz)) 0 0 (va_A [(h0, .inr (4, [w1, .int 0, .int 0]))] sz) := by
  refine Met.ofW (cc := cX1_wordOf) (maxL := 4) (ret := (some .int)) (by decide) rfl ?_
  intro p e s m args below meth c s₁ B hml hv
  obtain ⟨rfl, hsz, hP, hK, hD0, hN, hE, hO, hT, hG⟩ := hv
  have hx := B.exec
  have hb := B.bytes
  have hr := B.returns
  have hts := atoms_spec (ws := wz_c_X1_wordOf_36) B.pre
  have hown : s.vm.findClass RX1 = some m.cls := findClass_of_methodNamed B.named
  have hlocks := B.notSynchronized
  subst hsz
  have hD := hD0.self (sz := s.heap.size)
  generalize hAe : va_A [(h0, .inr (4, [w1, .int 0, .int 0]))] s.heap.size = A at hD hE hT hG ⊢
  have hA : ∀ q : Nat, s.heap.size ≤ q → A q := fun q h => by rw [← hAe]; exact Or.inr h
  have hS : va_S A s.heap s.heap [] := va_S.rf
  have hl := lv_entry ([.ref h0, .int 36]) (n := 4) (Nat.le_of_ble_eq_true rfl)
  rw [lg_entry_eq]
  generalize (lg_sl ([.ref h0, .int 36]) ++ List.replicate (4 - (lg_sl ([.ref h0, .int 36])).length) Slot.unset).toArray = ls at hl ⊢
  have hl : lv_has ls 4 [(0, .ref h0), (1, .int 36)] := hl
  refine lv_aload_n hx hb dX1_wordOf_0 rfl (lv_at hl 0 rfl) ?_
  refine lv_iload_n hx hb dX1_wordOf_1 rfl (lv_at hl 1 rfl) ?_
  refine lv_iconst (v := 4) hx hb dX1_wordOf_2 (by decide) ?_
  have hPc := hP.sub (ws' := [(h0, .inr (4, [w1, .int 0, .int 0]))]) [0] rfl
  have hDc := hD.sub (ws' := [(h0, .inr (4, [w1, .int 0, .int 0]))]) [0] (by decide) rfl
  have hFc := va_free (wc := [(h0, .inr (4, [w1, .int 0, .int 0]))]) hD hS hA [0] rfl
  refine va_calll (va_runU (As := [.int 36, .int 4]) (rest := []) ⟨hx, hb, hml, hown, hts⟩ (c_num4_36 l D y s.heap.size h0 w1) (va_cwU 2 hts gv_c_X1_wordOf_36_c_num4_36_44 rfl rfl rfl rfl (by decide +kernel) ⟨(Nat.le_of_ble_eq_true rfl), (Nat.le_of_ble_eq_true rfl)⟩) (zB.preV hPc hDc hK hN hE hO hT hG hS hFc (fun _ h => nomatch h) (fun _ h => nomatch h) (fun _ h => nomatch h) (fun _ h => nomatch h) (va_recv hK hPc (ci := 4) (q0 := 0) rfl rfl)) rfl rfl hl.1 rfl (lv_room (Nat.le_of_ble_eq_true rfl)) dX1_wordOf_3 ⟨(Nat.le_of_ble_eq_true rfl), (Nat.le_of_ble_eq_true rfl)⟩) hS (fun q _ h => hFc q h) hFc (fun r1 u t H1 locs ht hvm hw hB hz1 hk1 hS => ?_)
  obtain ⟨hP1, hD1⟩ := hB
  rw [ht] at hP1
  obtain ⟨hP, hD⟩ := va_join (wr := []) (w1 := [(h0, .inr (4, [w1, .int 0, .int 0]))]) hP hD [0] [] rfl rfl (by decide) (by decide) hk1 hFc hP1 hD1
  generalize H1 = H at hP hS ⊢
  have hP : va_P D vwCl [(h0, .inr (4, [w1, .int 0, .int 0]))] H := hP
  have hD : va_D A [(h0, .inr (4, [w1, .int 0, .int 0]))] := hD
  have hw : r1 = 0 := hw
  subst hw
  refine lv_l2i (v := 0) hx hb dX1_wordOf_6 (by decide +kernel) ?_
  refine lv_istore_n (lv' := [(2, .int 0), (0, .ref h0), (1, .int 36)]) hx hb dX1_wordOf_7 rfl hl (by decide) rfl (fun ls hl => ?_)
  refine lv_aload_n hx hb dX1_wordOf_8 rfl (lv_at hl 1 rfl) ?_
  refine va_get (D := D) (ci := 4) (v := .int 0) (C := RX0) (T := TX0) (N := 3) hx hb hts (by decide +kernel) hown hK hP 0 rfl rfl 2 (by decide) (hts (.fieldLink RX1 28 "SignetRing$Span" "size" "I") (by decide +kernel)) (fun _ h9 => h9) rfl dX1_wordOf_9 ?_
  refine lv_iload_n hx hb dX1_wordOf_12 rfl (lv_at hl 2 rfl) ?_
  refine lv_isub hx hb dX1_wordOf_13 ?_
  refine lv_topi (fun v2 ev2 => ?_)
  have ev2 : v2 = -36 := ev2.trans (by decide +kernel)
  subst ev2
  refine lv_istore_n (lv' := [(3, .int (-36)), (2, .int 0), (0, .ref h0), (1, .int 36)]) hx hb dX1_wordOf_14 rfl hl (by decide) rfl (fun ls hl => ?_)
  refine lv_iload_n hx hb dX1_wordOf_15 rfl (lv_at hl 0 rfl) ?_
  refine lv_if_lt (tgt := 40) hx hb dX1_wordOf_16 (by decide) (fun _ => ?_) (fun c9 => absurd (by decide) c9)
  refine lv_iload_n hx hb dX1_wordOf_40 rfl (lv_at hl 1 rfl) ?_
  have hP9 := hP.sub (ws' := [(h0, .inr (4, [w1, .int 0, .int 0]))]) [0] rfl
  have hD9 := hD.sub (ws' := [(h0, .inr (4, [w1, .int 0, .int 0]))]) [0] (by decide) rfl
  refine W.widen (k := 0) (n := 0) (Nat.le_of_ble_eq_true rfl) (Nat.le_of_ble_eq_true rfl) ?_
  exact W.iret (v := 0) hx hb hr (fun t ht hW => ⟨⟨0, (), rfl, rfl, by rw [ht]; exact hP9, hD9⟩, hS.F ht⟩) hS.2.2 dX1_wordOf_41
def wz_c_num4_40 : List Cond := .code yX10_number cX10_number 8 (some .long) :: ([.fieldLink RX10 13 "SignetRing$Span" "from" "I", .fieldLink RX10 17 "SignetRing$Span" "size" "I"] ++ (wsX00 ++ ([])))
set_option maxHeartbeats 4000000 in
set_option maxRecDepth 100000 in
theorem c_num4_40 (l : Launch) (D : va_G) (y : Nat → ClassId) (sz : Nat) (h0 : Nat) (w1 : Value) : Met l yX10_number wz_c_num4_40 ({ frames := 0, cells := 0, slots := 0, locals := 0 }) (va_Pc [.ref h0, .int 40, .int 4] (zB D y [(h0, .inr (4, [w1, .int 0, .int 0]))] sz [] [] [] [])) (va_Ql (fun (r : Int64) (_ : Unit) => r = 0) (fun _ t => va_P D vwCl [(h0, .inr (4, [w1, .int 0, .int 0]))] t.heap ∧ va_D (va_A [(h0, .inr (4, [w1, .int 0, .int 0]))] sz) [(h0, .inr (4, [w1, .int 0, .int 0]))]) (va_A [(h0, .inr (4, [w1, .int 0, .int 0]))] sz)) 0 0 (va_A [(h0, .inr (4, [w1, .int 0, .int 0]))] sz) := by
  refine Met.ofW (cc := cX10_number) (maxL := 8) (ret := (some .long)) (by decide) rfl ?_
  intro p e s m args below meth c s₁ B hml hv
  obtain ⟨rfl, hsz, hP, hK, hD0, hN, hE, hO, hT, hG⟩ := hv
  have hx := B.exec
  have hb := B.bytes
  have hr := B.returns
  have hts := atoms_spec (ws := wz_c_num4_40) B.pre
  have hown : s.vm.findClass RX10 = some m.cls := findClass_of_methodNamed B.named
  have hlocks := B.notSynchronized
  subst hsz
  have hD := hD0.self (sz := s.heap.size)
  generalize hAe : va_A [(h0, .inr (4, [w1, .int 0, .int 0]))] s.heap.size = A at hD hE hT hG ⊢
  have hA : ∀ q : Nat, s.heap.size ≤ q → A q := fun q h => by rw [← hAe]; exact Or.inr h
  have hS : va_S A s.heap s.heap [] := va_S.rf
  have hl := lv_entry ([.ref h0, .int 40, .int 4]) (n := 8) (Nat.le_of_ble_eq_true rfl)
  rw [lg_entry_eq]
  generalize (lg_sl ([.ref h0, .int 40, .int 4]) ++ List.replicate (8 - (lg_sl ([.ref h0, .int 40, .int 4])).length) Slot.unset).toArray = ls at hl ⊢
  have hl : lv_has ls 8 [(0, .ref h0), (1, .int 40), (2, .int 4)] := hl
  refine lv_lconst (v := 0) hx hb dX10_number_0 (by decide) ?_
  refine lv_lstore_n (lv' := [(3, .long 0), (0, .ref h0), (1, .int 40), (2, .int 4)]) hx hb dX10_number_1 rfl hl (by decide) rfl (fun ls hl => ?_)
  refine lv_iconst (v := 0) hx hb dX10_number_2 (by decide) ?_
  refine lv_istore (lv' := [(5, .int 0), (3, .long 0), (0, .ref h0), (1, .int 40), (2, .int 4)]) hx hb dX10_number_3 hl (by decide) rfl (fun ls hl => ?_)
  refine lv_iload hx hb dX10_number_5 (lv_at hl 0 rfl) ?_
  refine lv_iload_n hx hb dX10_number_7 rfl (lv_at hl 4 rfl) ?_
  refine lv_icmp_ge (tgt := 92) hx hb dX10_number_8 (by decide) (fun c9 => absurd c9 (by decide)) (fun _ => ?_)
  refine lv_aload_n hx hb dX10_number_11 rfl (lv_at hl 2 rfl) ?_
  refine va_get (D := D) (ci := 4) (v := .int 0) (C := RX0) (T := TX0) (N := 3) hx hb hts (by decide +kernel) hown hK hP 0 rfl rfl 1 (by decide) (hts (.fieldLink RX10 13 "SignetRing$Span" "from" "I") (by decide +kernel)) (fun _ h9 => h9) rfl dX10_number_12 ?_
  refine lv_iload_n hx hb dX10_number_15 rfl (lv_at hl 3 rfl) ?_
  refine lv_iadd hx hb dX10_number_16 ?_
  refine lv_topi (fun v1 ev1 => ?_)
  have ev1 : v1 = 40 := ev1.trans (by decide +kernel)
  subst ev1
  refine lv_iload hx hb dX10_number_17 (lv_at hl 0 rfl) ?_
  refine lv_iadd hx hb dX10_number_19 ?_
  refine lv_topi (fun v2 ev2 => ?_)
  have ev2 : v2 = 40 := ev2.trans (by decide +kernel)
  subst ev2
  refine lv_istore (lv' := [(6, .int 40), (5, .int 0), (3, .long 0), (0, .ref h0), (1, .int 40), (2, .int 4)]) hx hb dX10_number_20 hl (by decide) rfl (fun ls hl => ?_)
  refine lv_iload_n hx hb dX10_number_22 rfl (lv_at hl 4 rfl) ?_
  refine lv_if_lt (tgt := 56) hx hb dX10_number_23 (by decide) (fun c9 => absurd c9 (by decide)) (fun _ => ?_)
  refine lv_iload_n hx hb dX10_number_26 rfl (lv_at hl 4 rfl) ?_
  refine lv_iload hx hb dX10_number_27 (lv_at hl 1 rfl) ?_
  refine lv_iadd hx hb dX10_number_29 ?_
  refine lv_topi (fun v3 ev3 => ?_)
  have ev3 : v3 = 40 := ev3.trans (by decide +kernel)
  subst ev3
  refine lv_aload_n hx hb dX10_number_30 rfl (lv_at hl 3 rfl) ?_
  refine va_get (D := D) (ci := 4) (v := .int 0) (C := RX0) (T := TX0) (N := 3) hx hb hts (by decide +kernel) hown hK hP 0 rfl rfl 2 (by decide) (hts (.fieldLink RX10 17 "SignetRing$Span" "size" "I") (by decide +kernel)) (fun _ h9 => h9) rfl dX10_number_31 ?_
  refine lv_icmp_ge (tgt := 56) hx hb dX10_number_34 (by decide) (fun _ => ?_) (fun c9 => absurd (by decide) c9)
  refine lv_iconst (v := 0) hx hb dX10_number_56 (by decide) ?_
  refine lv_istore (lv' := [(7, .int 0), (6, .int 40), (5, .int 0), (3, .long 0), (0, .ref h0), (1, .int 40), (2, .int 4)]) hx hb dX10_number_57 hl (by decide) rfl (fun ls hl => ?_)
  refine lv_lload_n hx hb dX10_number_59 rfl (lv_at hl 3 rfl) ?_
  refine lv_bipush (v := 8) hx hb dX10_number_60 (by decide) ?_
  refine lv_lshl hx hb dX10_number_62 rfl ?_
  refine lv_topl (fun v4 ev4 => ?_)
  have ev4 : v4 = 0 := ev4.trans (by decide +kernel)
  subst ev4
  refine lv_iload hx hb dX10_number_63 (lv_at hl 0 rfl) ?_
  refine lv_if_eq (tgt := 82) hx hb dX10_number_65 (by decide) (fun _ => ?_) (fun c9 => absurd (by decide) c9)
  refine lv_iconst (v := 0) hx hb dX10_number_82 (by decide) ?_
  refine lv_i2l (v := 0) hx hb dX10_number_83 (by decide +kernel) ?_
  refine lv_lor hx hb dX10_number_84 ?_
  refine lv_topl (fun v5 ev5 => ?_)
  have ev5 : v5 = 0 := ev5.trans (by decide +kernel)
  subst ev5
  refine lv_lstore_n (lv' := [(3, .long 0), (7, .int 0), (6, .int 40), (5, .int 0), (0, .ref h0), (1, .int 40), (2, .int 4)]) hx hb dX10_number_85 rfl hl (by decide) rfl (fun ls hl => ?_)
  refine lv_iinc (v := 1) (lv' := [(5, .int 1), (3, .long 0), (7, .int 0), (6, .int 40), (0, .ref h0), (1, .int 40), (2, .int 4)]) hx hb dX10_number_86 hl (k := 3) rfl (by decide) (by decide) rfl (fun ls hl => ?_)
  refine lv_goto (tgt := 5) hx hb dX10_number_89 (by decide) ?_
  refine lv_iload hx hb dX10_number_5 (lv_at hl 0 rfl) ?_
  refine lv_iload_n hx hb dX10_number_7 rfl (lv_at hl 6 rfl) ?_
  refine lv_icmp_ge (tgt := 92) hx hb dX10_number_8 (by decide) (fun c9 => absurd c9 (by decide)) (fun _ => ?_)
  refine lv_aload_n hx hb dX10_number_11 rfl (lv_at hl 4 rfl) ?_
  refine va_get (D := D) (ci := 4) (v := .int 0) (C := RX0) (T := TX0) (N := 3) hx hb hts (by decide +kernel) hown hK hP 0 rfl rfl 1 (by decide) (hts (.fieldLink RX10 13 "SignetRing$Span" "from" "I") (by decide +kernel)) (fun _ h9 => h9) rfl dX10_number_12 ?_
  refine lv_iload_n hx hb dX10_number_15 rfl (lv_at hl 5 rfl) ?_
  refine lv_iadd hx hb dX10_number_16 ?_
  refine lv_topi (fun v6 ev6 => ?_)
  have ev6 : v6 = 40 := ev6.trans (by decide +kernel)
  subst ev6
  refine lv_iload hx hb dX10_number_17 (lv_at hl 0 rfl) ?_
  refine lv_iadd hx hb dX10_number_19 ?_
  refine lv_topi (fun v7 ev7 => ?_)
  have ev7 : v7 = 41 := ev7.trans (by decide +kernel)
  subst ev7
  refine lv_istore (lv' := [(6, .int 41), (5, .int 1), (3, .long 0), (7, .int 0), (0, .ref h0), (1, .int 40), (2, .int 4)]) hx hb dX10_number_20 hl (by decide) rfl (fun ls hl => ?_)
  refine lv_iload_n hx hb dX10_number_22 rfl (lv_at hl 5 rfl) ?_
  refine lv_if_lt (tgt := 56) hx hb dX10_number_23 (by decide) (fun c9 => absurd c9 (by decide)) (fun _ => ?_)
  refine lv_iload_n hx hb dX10_number_26 rfl (lv_at hl 5 rfl) ?_
  refine lv_iload hx hb dX10_number_27 (lv_at hl 1 rfl) ?_
  refine lv_iadd hx hb dX10_number_29 ?_
  refine lv_topi (fun v8 ev8 => ?_)
  have ev8 : v8 = 41 := ev8.trans (by decide +kernel)
  subst ev8
  refine lv_aload_n hx hb dX10_number_30 rfl (lv_at hl 4 rfl) ?_
  refine va_get (D := D) (ci := 4) (v := .int 0) (C := RX0) (T := TX0) (N := 3) hx hb hts (by decide +kernel) hown hK hP 0 rfl rfl 2 (by decide) (hts (.fieldLink RX10 17 "SignetRing$Span" "size" "I") (by decide +kernel)) (fun _ h9 => h9) rfl dX10_number_31 ?_
  refine lv_icmp_ge (tgt := 56) hx hb dX10_number_34 (by decide) (fun _ => ?_) (fun c9 => absurd (by decide) c9)
  refine lv_iconst (v := 0) hx hb dX10_number_56 (by decide) ?_
  refine lv_istore (lv' := [(7, .int 0), (6, .int 41), (5, .int 1), (3, .long 0), (0, .ref h0), (1, .int 40), (2, .int 4)]) hx hb dX10_number_57 hl (by decide) rfl (fun ls hl => ?_)
  refine lv_lload_n hx hb dX10_number_59 rfl (lv_at hl 3 rfl) ?_
  refine lv_bipush (v := 8) hx hb dX10_number_60 (by decide) ?_
  refine lv_lshl hx hb dX10_number_62 rfl ?_
  refine lv_topl (fun v9 ev9 => ?_)
  have ev9 : v9 = 0 := ev9.trans (by decide +kernel)
  subst ev9
  refine lv_iload hx hb dX10_number_63 (lv_at hl 0 rfl) ?_
  refine lv_if_eq (tgt := 82) hx hb dX10_number_65 (by decide) (fun _ => ?_) (fun c9 => absurd (by decide) c9)
  refine lv_iconst (v := 0) hx hb dX10_number_82 (by decide) ?_
  refine lv_i2l (v := 0) hx hb dX10_number_83 (by decide +kernel) ?_
  refine lv_lor hx hb dX10_number_84 ?_
  refine lv_topl (fun v10 ev10 => ?_)
  have ev10 : v10 = 0 := ev10.trans (by decide +kernel)
  subst ev10
  refine lv_lstore_n (lv' := [(3, .long 0), (7, .int 0), (6, .int 41), (5, .int 1), (0, .ref h0), (1, .int 40), (2, .int 4)]) hx hb dX10_number_85 rfl hl (by decide) rfl (fun ls hl => ?_)
  refine lv_iinc (v := 2) (lv' := [(5, .int 2), (3, .long 0), (7, .int 0), (6, .int 41), (0, .ref h0), (1, .int 40), (2, .int 4)]) hx hb dX10_number_86 hl (k := 3) rfl (by decide) (by decide) rfl (fun ls hl => ?_)
  refine lv_goto (tgt := 5) hx hb dX10_number_89 (by decide) ?_
  refine lv_iload hx hb dX10_number_5 (lv_at hl 0 rfl) ?_
  refine lv_iload_n hx hb dX10_number_7 rfl (lv_at hl 6 rfl) ?_
  refine lv_icmp_ge (tgt := 92) hx hb dX10_number_8 (by decide) (fun c9 => absurd c9 (by decide)) (fun _ => ?_)
  refine lv_aload_n hx hb dX10_number_11 rfl (lv_at hl 4 rfl) ?_
  refine va_get (D := D) (ci := 4) (v := .int 0) (C := RX0) (T := TX0) (N := 3) hx hb hts (by decide +kernel) hown hK hP 0 rfl rfl 1 (by decide) (hts (.fieldLink RX10 13 "SignetRing$Span" "from" "I") (by decide +kernel)) (fun _ h9 => h9) rfl dX10_number_12 ?_
  refine lv_iload_n hx hb dX10_number_15 rfl (lv_at hl 5 rfl) ?_
  refine lv_iadd hx hb dX10_number_16 ?_
  refine lv_topi (fun v11 ev11 => ?_)
  have ev11 : v11 = 40 := ev11.trans (by decide +kernel)
  subst ev11
  refine lv_iload hx hb dX10_number_17 (lv_at hl 0 rfl) ?_
  refine lv_iadd hx hb dX10_number_19 ?_
  refine lv_topi (fun v12 ev12 => ?_)
  have ev12 : v12 = 42 := ev12.trans (by decide +kernel)
  subst ev12
  refine lv_istore (lv' := [(6, .int 42), (5, .int 2), (3, .long 0), (7, .int 0), (0, .ref h0), (1, .int 40), (2, .int 4)]) hx hb dX10_number_20 hl (by decide) rfl (fun ls hl => ?_)
  refine lv_iload_n hx hb dX10_number_22 rfl (lv_at hl 5 rfl) ?_
  refine lv_if_lt (tgt := 56) hx hb dX10_number_23 (by decide) (fun c9 => absurd c9 (by decide)) (fun _ => ?_)
  refine lv_iload_n hx hb dX10_number_26 rfl (lv_at hl 5 rfl) ?_
  refine lv_iload hx hb dX10_number_27 (lv_at hl 1 rfl) ?_
  refine lv_iadd hx hb dX10_number_29 ?_
  refine lv_topi (fun v13 ev13 => ?_)
  have ev13 : v13 = 42 := ev13.trans (by decide +kernel)
  subst ev13
  refine lv_aload_n hx hb dX10_number_30 rfl (lv_at hl 4 rfl) ?_
  refine va_get (D := D) (ci := 4) (v := .int 0) (C := RX0) (T := TX0) (N := 3) hx hb hts (by decide +kernel) hown hK hP 0 rfl rfl 2 (by decide) (hts (.fieldLink RX10 17 "SignetRing$Span" "size" "I") (by decide +kernel)) (fun _ h9 => h9) rfl dX10_number_31 ?_
  refine lv_icmp_ge (tgt := 56) hx hb dX10_number_34 (by decide) (fun _ => ?_) (fun c9 => absurd (by decide) c9)
  refine lv_iconst (v := 0) hx hb dX10_number_56 (by decide) ?_
  refine lv_istore (lv' := [(7, .int 0), (6, .int 42), (5, .int 2), (3, .long 0), (0, .ref h0), (1, .int 40), (2, .int 4)]) hx hb dX10_number_57 hl (by decide) rfl (fun ls hl => ?_)
  refine lv_lload_n hx hb dX10_number_59 rfl (lv_at hl 3 rfl) ?_
  refine lv_bipush (v := 8) hx hb dX10_number_60 (by decide) ?_
  refine lv_lshl hx hb dX10_number_62 rfl ?_
  refine lv_topl (fun v14 ev14 => ?_)
  have ev14 : v14 = 0 := ev14.trans (by decide +kernel)
  subst ev14
  refine lv_iload hx hb dX10_number_63 (lv_at hl 0 rfl) ?_
  refine lv_if_eq (tgt := 82) hx hb dX10_number_65 (by decide) (fun _ => ?_) (fun c9 => absurd (by decide) c9)
  refine lv_iconst (v := 0) hx hb dX10_number_82 (by decide) ?_
  refine lv_i2l (v := 0) hx hb dX10_number_83 (by decide +kernel) ?_
  refine lv_lor hx hb dX10_number_84 ?_
  refine lv_topl (fun v15 ev15 => ?_)
  have ev15 : v15 = 0 := ev15.trans (by decide +kernel)
  subst ev15
  refine lv_lstore_n (lv' := [(3, .long 0), (7, .int 0), (6, .int 42), (5, .int 2), (0, .ref h0), (1, .int 40), (2, .int 4)]) hx hb dX10_number_85 rfl hl (by decide) rfl (fun ls hl => ?_)
  refine lv_iinc (v := 3) (lv' := [(5, .int 3), (3, .long 0), (7, .int 0), (6, .int 42), (0, .ref h0), (1, .int 40), (2, .int 4)]) hx hb dX10_number_86 hl (k := 3) rfl (by decide) (by decide) rfl (fun ls hl => ?_)
  refine lv_goto (tgt := 5) hx hb dX10_number_89 (by decide) ?_
  refine lv_iload hx hb dX10_number_5 (lv_at hl 0 rfl) ?_
  refine lv_iload_n hx hb dX10_number_7 rfl (lv_at hl 6 rfl) ?_
  refine lv_icmp_ge (tgt := 92) hx hb dX10_number_8 (by decide) (fun c9 => absurd c9 (by decide)) (fun _ => ?_)
  refine lv_aload_n hx hb dX10_number_11 rfl (lv_at hl 4 rfl) ?_
  refine va_get (D := D) (ci := 4) (v := .int 0) (C := RX0) (T := TX0) (N := 3) hx hb hts (by decide +kernel) hown hK hP 0 rfl rfl 1 (by decide) (hts (.fieldLink RX10 13 "SignetRing$Span" "from" "I") (by decide +kernel)) (fun _ h9 => h9) rfl dX10_number_12 ?_
  refine lv_iload_n hx hb dX10_number_15 rfl (lv_at hl 5 rfl) ?_
  refine lv_iadd hx hb dX10_number_16 ?_
  refine lv_topi (fun v16 ev16 => ?_)
  have ev16 : v16 = 40 := ev16.trans (by decide +kernel)
  subst ev16
  refine lv_iload hx hb dX10_number_17 (lv_at hl 0 rfl) ?_
  refine lv_iadd hx hb dX10_number_19 ?_
  refine lv_topi (fun v17 ev17 => ?_)
  have ev17 : v17 = 43 := ev17.trans (by decide +kernel)
  subst ev17
  refine lv_istore (lv' := [(6, .int 43), (5, .int 3), (3, .long 0), (7, .int 0), (0, .ref h0), (1, .int 40), (2, .int 4)]) hx hb dX10_number_20 hl (by decide) rfl (fun ls hl => ?_)
  refine lv_iload_n hx hb dX10_number_22 rfl (lv_at hl 5 rfl) ?_
  refine lv_if_lt (tgt := 56) hx hb dX10_number_23 (by decide) (fun c9 => absurd c9 (by decide)) (fun _ => ?_)
  refine lv_iload_n hx hb dX10_number_26 rfl (lv_at hl 5 rfl) ?_
  refine lv_iload hx hb dX10_number_27 (lv_at hl 1 rfl) ?_
  refine lv_iadd hx hb dX10_number_29 ?_
  refine lv_topi (fun v18 ev18 => ?_)
  have ev18 : v18 = 43 := ev18.trans (by decide +kernel)
  subst ev18
  refine lv_aload_n hx hb dX10_number_30 rfl (lv_at hl 4 rfl) ?_
  refine va_get (D := D) (ci := 4) (v := .int 0) (C := RX0) (T := TX0) (N := 3) hx hb hts (by decide +kernel) hown hK hP 0 rfl rfl 2 (by decide) (hts (.fieldLink RX10 17 "SignetRing$Span" "size" "I") (by decide +kernel)) (fun _ h9 => h9) rfl dX10_number_31 ?_
  refine lv_icmp_ge (tgt := 56) hx hb dX10_number_34 (by decide) (fun _ => ?_) (fun c9 => absurd (by decide) c9)
  refine lv_iconst (v := 0) hx hb dX10_number_56 (by decide) ?_
  refine lv_istore (lv' := [(7, .int 0), (6, .int 43), (5, .int 3), (3, .long 0), (0, .ref h0), (1, .int 40), (2, .int 4)]) hx hb dX10_number_57 hl (by decide) rfl (fun ls hl => ?_)
  refine lv_lload_n hx hb dX10_number_59 rfl (lv_at hl 3 rfl) ?_
  refine lv_bipush (v := 8) hx hb dX10_number_60 (by decide) ?_
  refine lv_lshl hx hb dX10_number_62 rfl ?_
  refine lv_topl (fun v19 ev19 => ?_)
  have ev19 : v19 = 0 := ev19.trans (by decide +kernel)
  subst ev19
  refine lv_iload hx hb dX10_number_63 (lv_at hl 0 rfl) ?_
  refine lv_if_eq (tgt := 82) hx hb dX10_number_65 (by decide) (fun _ => ?_) (fun c9 => absurd (by decide) c9)
  refine lv_iconst (v := 0) hx hb dX10_number_82 (by decide) ?_
  refine lv_i2l (v := 0) hx hb dX10_number_83 (by decide +kernel) ?_
  refine lv_lor hx hb dX10_number_84 ?_
  refine lv_topl (fun v20 ev20 => ?_)
  have ev20 : v20 = 0 := ev20.trans (by decide +kernel)
  subst ev20
  refine lv_lstore_n (lv' := [(3, .long 0), (7, .int 0), (6, .int 43), (5, .int 3), (0, .ref h0), (1, .int 40), (2, .int 4)]) hx hb dX10_number_85 rfl hl (by decide) rfl (fun ls hl => ?_)
  refine lv_iinc (v := 4) (lv' := [(5, .int 4), (3, .long 0), (7, .int 0), (6, .int 43), (0, .ref h0), (1, .int 40), (2, .int 4)]) hx hb dX10_number_86 hl (k := 3) rfl (by decide) (by decide) rfl (fun ls hl => ?_)
  refine lv_goto (tgt := 5) hx hb dX10_number_89 (by decide) ?_
  refine lv_iload hx hb dX10_number_5 (lv_at hl 0 rfl) ?_
  refine lv_iload_n hx hb dX10_number_7 rfl (lv_at hl 6 rfl) ?_
  refine lv_icmp_ge (tgt := 92) hx hb dX10_number_8 (by decide) (fun _ => ?_) (fun c9 => absurd (by decide) c9)
  refine lv_lload_n hx hb dX10_number_92 rfl (lv_at hl 1 rfl) ?_
  have hP9 := hP.sub (ws' := [(h0, .inr (4, [w1, .int 0, .int 0]))]) [0] rfl
  have hD9 := hD.sub (ws' := [(h0, .inr (4, [w1, .int 0, .int 0]))]) [0] (by decide) rfl
  refine W.widen (k := 0) (n := 0) (Nat.le_of_ble_eq_true rfl) (Nat.le_of_ble_eq_true rfl) ?_
  exact W.lret (v := 0) hx hb hr (fun t ht hW => ⟨⟨0, (), rfl, rfl, by rw [ht]; exact hP9, hD9⟩, hS.F ht⟩) hS.2.2 dX10_number_93
def wz_c_X1_wordOf_40 : List Cond := .code yX1_wordOf cX1_wordOf 4 (some .int) :: ([.methodLink RX1 44 ⟨"SignetRing$Span", "number", "(II)J"⟩, .sameMethod "SignetRing$Span" "SignetRing$Span" "number" "(II)J", .selects RX0 ⟨"SignetRing$Span", "number", "(II)J"⟩ yX10_number, .instanceMethod yX10_number, .initialized RX10, .fieldLink RX1 28 "SignetRing$Span" "size" "I"] ++ (wsX00 ++ (wz_c_num4_40 ++ ([]))))
set_option maxRecDepth 100000 in
theorem gz_c_X1_wordOf_40_c_num4_40 : GoodIn wz_c_X1_wordOf_40 wz_c_num4_40 := goodIn_sub (fun w h => List.mem_cons_of_mem _ (List.mem_append_right _ (List.mem_append_right _ (List.mem_append_left _ h)))) (by decide +kernel)
set_option maxRecDepth 100000 in
theorem gv_c_X1_wordOf_40_c_num4_40_44 : GoodIn wz_c_X1_wordOf_40 (va_wsU RX1 44 RX0 "SignetRing$Span" ⟨"SignetRing$Span", "number", "(II)J"⟩ yX10_number wz_c_num4_40) := goodIn_app (goodIn_of _ (by decide +kernel)) gz_c_X1_wordOf_40_c_num4_40
set_option maxHeartbeats 4000000 in
set_option maxRecDepth 100000 in
theorem c_X1_wordOf_40 (l : Launch) (D : va_G) (y : Nat → ClassId) (sz : Nat) (h0 : Nat) (w1 : Value) : Met l yX1_wordOf wz_c_X1_wordOf_40 ({ frames := 1, cells := 0, slots := 0, locals := 27 }) (va_Pc [.ref h0, .int 40] (zB D y [(h0, .inr (4, [w1, .int 0, .int 0]))] sz [] [] [] [])) (va_Qi (fun (r : Int32) (_ : Unit) => r = 0) (fun _ t => va_P D vwCl [(h0, .inr (4, [w1, .int 0, .int 0]))] t.heap ∧ va_D (va_A [(h0, .inr (4, [w1, .int 0, .int 0]))] sz) [(h0, .inr (4, [w1, .int 0, .int 0]))]) (va_A [(h0, .inr (4, [w1, .int 0, .int 0]))] sz)) 0 0 (va_A [(h0, .inr (4, [w1, .int 0, .int 0]))] sz) := by
  refine Met.ofW (cc := cX1_wordOf) (maxL := 4) (ret := (some .int)) (by decide) rfl ?_
  intro p e s m args below meth c s₁ B hml hv
  obtain ⟨rfl, hsz, hP, hK, hD0, hN, hE, hO, hT, hG⟩ := hv
  have hx := B.exec
  have hb := B.bytes
  have hr := B.returns
  have hts := atoms_spec (ws := wz_c_X1_wordOf_40) B.pre
  have hown : s.vm.findClass RX1 = some m.cls := findClass_of_methodNamed B.named
  have hlocks := B.notSynchronized
  subst hsz
  have hD := hD0.self (sz := s.heap.size)
  generalize hAe : va_A [(h0, .inr (4, [w1, .int 0, .int 0]))] s.heap.size = A at hD hE hT hG ⊢
  have hA : ∀ q : Nat, s.heap.size ≤ q → A q := fun q h => by rw [← hAe]; exact Or.inr h
  have hS : va_S A s.heap s.heap [] := va_S.rf
  have hl := lv_entry ([.ref h0, .int 40]) (n := 4) (Nat.le_of_ble_eq_true rfl)
  rw [lg_entry_eq]
  generalize (lg_sl ([.ref h0, .int 40]) ++ List.replicate (4 - (lg_sl ([.ref h0, .int 40])).length) Slot.unset).toArray = ls at hl ⊢
  have hl : lv_has ls 4 [(0, .ref h0), (1, .int 40)] := hl
  refine lv_aload_n hx hb dX1_wordOf_0 rfl (lv_at hl 0 rfl) ?_
  refine lv_iload_n hx hb dX1_wordOf_1 rfl (lv_at hl 1 rfl) ?_
  refine lv_iconst (v := 4) hx hb dX1_wordOf_2 (by decide) ?_
  have hPc := hP.sub (ws' := [(h0, .inr (4, [w1, .int 0, .int 0]))]) [0] rfl
  have hDc := hD.sub (ws' := [(h0, .inr (4, [w1, .int 0, .int 0]))]) [0] (by decide) rfl
  have hFc := va_free (wc := [(h0, .inr (4, [w1, .int 0, .int 0]))]) hD hS hA [0] rfl
  refine va_calll (va_runU (As := [.int 40, .int 4]) (rest := []) ⟨hx, hb, hml, hown, hts⟩ (c_num4_40 l D y s.heap.size h0 w1) (va_cwU 2 hts gv_c_X1_wordOf_40_c_num4_40_44 rfl rfl rfl rfl (by decide +kernel) ⟨(Nat.le_of_ble_eq_true rfl), (Nat.le_of_ble_eq_true rfl)⟩) (zB.preV hPc hDc hK hN hE hO hT hG hS hFc (fun _ h => nomatch h) (fun _ h => nomatch h) (fun _ h => nomatch h) (fun _ h => nomatch h) (va_recv hK hPc (ci := 4) (q0 := 0) rfl rfl)) rfl rfl hl.1 rfl (lv_room (Nat.le_of_ble_eq_true rfl)) dX1_wordOf_3 ⟨(Nat.le_of_ble_eq_true rfl), (Nat.le_of_ble_eq_true rfl)⟩) hS (fun q _ h => hFc q h) hFc (fun r1 u t H1 locs ht hvm hw hB hz1 hk1 hS => ?_)
  obtain ⟨hP1, hD1⟩ := hB
  rw [ht] at hP1
  obtain ⟨hP, hD⟩ := va_join (wr := []) (w1 := [(h0, .inr (4, [w1, .int 0, .int 0]))]) hP hD [0] [] rfl rfl (by decide) (by decide) hk1 hFc hP1 hD1
  generalize H1 = H at hP hS ⊢
  have hP : va_P D vwCl [(h0, .inr (4, [w1, .int 0, .int 0]))] H := hP
  have hD : va_D A [(h0, .inr (4, [w1, .int 0, .int 0]))] := hD
  have hw : r1 = 0 := hw
  subst hw
  refine lv_l2i (v := 0) hx hb dX1_wordOf_6 (by decide +kernel) ?_
  refine lv_istore_n (lv' := [(2, .int 0), (0, .ref h0), (1, .int 40)]) hx hb dX1_wordOf_7 rfl hl (by decide) rfl (fun ls hl => ?_)
  refine lv_aload_n hx hb dX1_wordOf_8 rfl (lv_at hl 1 rfl) ?_
  refine va_get (D := D) (ci := 4) (v := .int 0) (C := RX0) (T := TX0) (N := 3) hx hb hts (by decide +kernel) hown hK hP 0 rfl rfl 2 (by decide) (hts (.fieldLink RX1 28 "SignetRing$Span" "size" "I") (by decide +kernel)) (fun _ h9 => h9) rfl dX1_wordOf_9 ?_
  refine lv_iload_n hx hb dX1_wordOf_12 rfl (lv_at hl 2 rfl) ?_
  refine lv_isub hx hb dX1_wordOf_13 ?_
  refine lv_topi (fun v2 ev2 => ?_)
  have ev2 : v2 = -40 := ev2.trans (by decide +kernel)
  subst ev2
  refine lv_istore_n (lv' := [(3, .int (-40)), (2, .int 0), (0, .ref h0), (1, .int 40)]) hx hb dX1_wordOf_14 rfl hl (by decide) rfl (fun ls hl => ?_)
  refine lv_iload_n hx hb dX1_wordOf_15 rfl (lv_at hl 0 rfl) ?_
  refine lv_if_lt (tgt := 40) hx hb dX1_wordOf_16 (by decide) (fun _ => ?_) (fun c9 => absurd (by decide) c9)
  refine lv_iload_n hx hb dX1_wordOf_40 rfl (lv_at hl 1 rfl) ?_
  have hP9 := hP.sub (ws' := [(h0, .inr (4, [w1, .int 0, .int 0]))]) [0] rfl
  have hD9 := hD.sub (ws' := [(h0, .inr (4, [w1, .int 0, .int 0]))]) [0] (by decide) rfl
  refine W.widen (k := 0) (n := 0) (Nat.le_of_ble_eq_true rfl) (Nat.le_of_ble_eq_true rfl) ?_
  exact W.iret (v := 0) hx hb hr (fun t ht hW => ⟨⟨0, (), rfl, rfl, by rw [ht]; exact hP9, hD9⟩, hS.F ht⟩) hS.2.2 dX1_wordOf_41
def wz_c_num4_44 : List Cond := .code yX10_number cX10_number 8 (some .long) :: ([.fieldLink RX10 13 "SignetRing$Span" "from" "I", .fieldLink RX10 17 "SignetRing$Span" "size" "I"] ++ (wsX00 ++ ([])))
set_option maxHeartbeats 4000000 in
set_option maxRecDepth 100000 in
theorem c_num4_44 (l : Launch) (D : va_G) (y : Nat → ClassId) (sz : Nat) (h0 : Nat) (w1 : Value) : Met l yX10_number wz_c_num4_44 ({ frames := 0, cells := 0, slots := 0, locals := 0 }) (va_Pc [.ref h0, .int 44, .int 4] (zB D y [(h0, .inr (4, [w1, .int 0, .int 0]))] sz [] [] [] [])) (va_Ql (fun (r : Int64) (_ : Unit) => r = 0) (fun _ t => va_P D vwCl [(h0, .inr (4, [w1, .int 0, .int 0]))] t.heap ∧ va_D (va_A [(h0, .inr (4, [w1, .int 0, .int 0]))] sz) [(h0, .inr (4, [w1, .int 0, .int 0]))]) (va_A [(h0, .inr (4, [w1, .int 0, .int 0]))] sz)) 0 0 (va_A [(h0, .inr (4, [w1, .int 0, .int 0]))] sz) := by
  refine Met.ofW (cc := cX10_number) (maxL := 8) (ret := (some .long)) (by decide) rfl ?_
  intro p e s m args below meth c s₁ B hml hv
  obtain ⟨rfl, hsz, hP, hK, hD0, hN, hE, hO, hT, hG⟩ := hv
  have hx := B.exec
  have hb := B.bytes
  have hr := B.returns
  have hts := atoms_spec (ws := wz_c_num4_44) B.pre
  have hown : s.vm.findClass RX10 = some m.cls := findClass_of_methodNamed B.named
  have hlocks := B.notSynchronized
  subst hsz
  have hD := hD0.self (sz := s.heap.size)
  generalize hAe : va_A [(h0, .inr (4, [w1, .int 0, .int 0]))] s.heap.size = A at hD hE hT hG ⊢
  have hA : ∀ q : Nat, s.heap.size ≤ q → A q := fun q h => by rw [← hAe]; exact Or.inr h
  have hS : va_S A s.heap s.heap [] := va_S.rf
  have hl := lv_entry ([.ref h0, .int 44, .int 4]) (n := 8) (Nat.le_of_ble_eq_true rfl)
  rw [lg_entry_eq]
  generalize (lg_sl ([.ref h0, .int 44, .int 4]) ++ List.replicate (8 - (lg_sl ([.ref h0, .int 44, .int 4])).length) Slot.unset).toArray = ls at hl ⊢
  have hl : lv_has ls 8 [(0, .ref h0), (1, .int 44), (2, .int 4)] := hl
  refine lv_lconst (v := 0) hx hb dX10_number_0 (by decide) ?_
  refine lv_lstore_n (lv' := [(3, .long 0), (0, .ref h0), (1, .int 44), (2, .int 4)]) hx hb dX10_number_1 rfl hl (by decide) rfl (fun ls hl => ?_)
  refine lv_iconst (v := 0) hx hb dX10_number_2 (by decide) ?_
  refine lv_istore (lv' := [(5, .int 0), (3, .long 0), (0, .ref h0), (1, .int 44), (2, .int 4)]) hx hb dX10_number_3 hl (by decide) rfl (fun ls hl => ?_)
  refine lv_iload hx hb dX10_number_5 (lv_at hl 0 rfl) ?_
  refine lv_iload_n hx hb dX10_number_7 rfl (lv_at hl 4 rfl) ?_
  refine lv_icmp_ge (tgt := 92) hx hb dX10_number_8 (by decide) (fun c9 => absurd c9 (by decide)) (fun _ => ?_)
  refine lv_aload_n hx hb dX10_number_11 rfl (lv_at hl 2 rfl) ?_
  refine va_get (D := D) (ci := 4) (v := .int 0) (C := RX0) (T := TX0) (N := 3) hx hb hts (by decide +kernel) hown hK hP 0 rfl rfl 1 (by decide) (hts (.fieldLink RX10 13 "SignetRing$Span" "from" "I") (by decide +kernel)) (fun _ h9 => h9) rfl dX10_number_12 ?_
  refine lv_iload_n hx hb dX10_number_15 rfl (lv_at hl 3 rfl) ?_
  refine lv_iadd hx hb dX10_number_16 ?_
  refine lv_topi (fun v1 ev1 => ?_)
  have ev1 : v1 = 44 := ev1.trans (by decide +kernel)
  subst ev1
  refine lv_iload hx hb dX10_number_17 (lv_at hl 0 rfl) ?_
  refine lv_iadd hx hb dX10_number_19 ?_
  refine lv_topi (fun v2 ev2 => ?_)
  have ev2 : v2 = 44 := ev2.trans (by decide +kernel)
  subst ev2
  refine lv_istore (lv' := [(6, .int 44), (5, .int 0), (3, .long 0), (0, .ref h0), (1, .int 44), (2, .int 4)]) hx hb dX10_number_20 hl (by decide) rfl (fun ls hl => ?_)
  refine lv_iload_n hx hb dX10_number_22 rfl (lv_at hl 4 rfl) ?_
  refine lv_if_lt (tgt := 56) hx hb dX10_number_23 (by decide) (fun c9 => absurd c9 (by decide)) (fun _ => ?_)
  refine lv_iload_n hx hb dX10_number_26 rfl (lv_at hl 4 rfl) ?_
  refine lv_iload hx hb dX10_number_27 (lv_at hl 1 rfl) ?_
  refine lv_iadd hx hb dX10_number_29 ?_
  refine lv_topi (fun v3 ev3 => ?_)
  have ev3 : v3 = 44 := ev3.trans (by decide +kernel)
  subst ev3
  refine lv_aload_n hx hb dX10_number_30 rfl (lv_at hl 3 rfl) ?_
  refine va_get (D := D) (ci := 4) (v := .int 0) (C := RX0) (T := TX0) (N := 3) hx hb hts (by decide +kernel) hown hK hP 0 rfl rfl 2 (by decide) (hts (.fieldLink RX10 17 "SignetRing$Span" "size" "I") (by decide +kernel)) (fun _ h9 => h9) rfl dX10_number_31 ?_
  refine lv_icmp_ge (tgt := 56) hx hb dX10_number_34 (by decide) (fun _ => ?_) (fun c9 => absurd (by decide) c9)
  refine lv_iconst (v := 0) hx hb dX10_number_56 (by decide) ?_
  refine lv_istore (lv' := [(7, .int 0), (6, .int 44), (5, .int 0), (3, .long 0), (0, .ref h0), (1, .int 44), (2, .int 4)]) hx hb dX10_number_57 hl (by decide) rfl (fun ls hl => ?_)
  refine lv_lload_n hx hb dX10_number_59 rfl (lv_at hl 3 rfl) ?_
  refine lv_bipush (v := 8) hx hb dX10_number_60 (by decide) ?_
  refine lv_lshl hx hb dX10_number_62 rfl ?_
  refine lv_topl (fun v4 ev4 => ?_)
  have ev4 : v4 = 0 := ev4.trans (by decide +kernel)
  subst ev4
  refine lv_iload hx hb dX10_number_63 (lv_at hl 0 rfl) ?_
  refine lv_if_eq (tgt := 82) hx hb dX10_number_65 (by decide) (fun _ => ?_) (fun c9 => absurd (by decide) c9)
  refine lv_iconst (v := 0) hx hb dX10_number_82 (by decide) ?_
  refine lv_i2l (v := 0) hx hb dX10_number_83 (by decide +kernel) ?_
  refine lv_lor hx hb dX10_number_84 ?_
  refine lv_topl (fun v5 ev5 => ?_)
  have ev5 : v5 = 0 := ev5.trans (by decide +kernel)
  subst ev5
  refine lv_lstore_n (lv' := [(3, .long 0), (7, .int 0), (6, .int 44), (5, .int 0), (0, .ref h0), (1, .int 44), (2, .int 4)]) hx hb dX10_number_85 rfl hl (by decide) rfl (fun ls hl => ?_)
  refine lv_iinc (v := 1) (lv' := [(5, .int 1), (3, .long 0), (7, .int 0), (6, .int 44), (0, .ref h0), (1, .int 44), (2, .int 4)]) hx hb dX10_number_86 hl (k := 3) rfl (by decide) (by decide) rfl (fun ls hl => ?_)
  refine lv_goto (tgt := 5) hx hb dX10_number_89 (by decide) ?_
  refine lv_iload hx hb dX10_number_5 (lv_at hl 0 rfl) ?_
  refine lv_iload_n hx hb dX10_number_7 rfl (lv_at hl 6 rfl) ?_
  refine lv_icmp_ge (tgt := 92) hx hb dX10_number_8 (by decide) (fun c9 => absurd c9 (by decide)) (fun _ => ?_)
  refine lv_aload_n hx hb dX10_number_11 rfl (lv_at hl 4 rfl) ?_
  refine va_get (D := D) (ci := 4) (v := .int 0) (C := RX0) (T := TX0) (N := 3) hx hb hts (by decide +kernel) hown hK hP 0 rfl rfl 1 (by decide) (hts (.fieldLink RX10 13 "SignetRing$Span" "from" "I") (by decide +kernel)) (fun _ h9 => h9) rfl dX10_number_12 ?_
  refine lv_iload_n hx hb dX10_number_15 rfl (lv_at hl 5 rfl) ?_
  refine lv_iadd hx hb dX10_number_16 ?_
  refine lv_topi (fun v6 ev6 => ?_)
  have ev6 : v6 = 44 := ev6.trans (by decide +kernel)
  subst ev6
  refine lv_iload hx hb dX10_number_17 (lv_at hl 0 rfl) ?_
  refine lv_iadd hx hb dX10_number_19 ?_
  refine lv_topi (fun v7 ev7 => ?_)
  have ev7 : v7 = 45 := ev7.trans (by decide +kernel)
  subst ev7
  refine lv_istore (lv' := [(6, .int 45), (5, .int 1), (3, .long 0), (7, .int 0), (0, .ref h0), (1, .int 44), (2, .int 4)]) hx hb dX10_number_20 hl (by decide) rfl (fun ls hl => ?_)
  refine lv_iload_n hx hb dX10_number_22 rfl (lv_at hl 5 rfl) ?_
  refine lv_if_lt (tgt := 56) hx hb dX10_number_23 (by decide) (fun c9 => absurd c9 (by decide)) (fun _ => ?_)
  refine lv_iload_n hx hb dX10_number_26 rfl (lv_at hl 5 rfl) ?_
  refine lv_iload hx hb dX10_number_27 (lv_at hl 1 rfl) ?_
  refine lv_iadd hx hb dX10_number_29 ?_
  refine lv_topi (fun v8 ev8 => ?_)
  have ev8 : v8 = 45 := ev8.trans (by decide +kernel)
  subst ev8
  refine lv_aload_n hx hb dX10_number_30 rfl (lv_at hl 4 rfl) ?_
  refine va_get (D := D) (ci := 4) (v := .int 0) (C := RX0) (T := TX0) (N := 3) hx hb hts (by decide +kernel) hown hK hP 0 rfl rfl 2 (by decide) (hts (.fieldLink RX10 17 "SignetRing$Span" "size" "I") (by decide +kernel)) (fun _ h9 => h9) rfl dX10_number_31 ?_
  refine lv_icmp_ge (tgt := 56) hx hb dX10_number_34 (by decide) (fun _ => ?_) (fun c9 => absurd (by decide) c9)
  refine lv_iconst (v := 0) hx hb dX10_number_56 (by decide) ?_
  refine lv_istore (lv' := [(7, .int 0), (6, .int 45), (5, .int 1), (3, .long 0), (0, .ref h0), (1, .int 44), (2, .int 4)]) hx hb dX10_number_57 hl (by decide) rfl (fun ls hl => ?_)
  refine lv_lload_n hx hb dX10_number_59 rfl (lv_at hl 3 rfl) ?_
  refine lv_bipush (v := 8) hx hb dX10_number_60 (by decide) ?_
  refine lv_lshl hx hb dX10_number_62 rfl ?_
  refine lv_topl (fun v9 ev9 => ?_)
  have ev9 : v9 = 0 := ev9.trans (by decide +kernel)
  subst ev9
  refine lv_iload hx hb dX10_number_63 (lv_at hl 0 rfl) ?_
  refine lv_if_eq (tgt := 82) hx hb dX10_number_65 (by decide) (fun _ => ?_) (fun c9 => absurd (by decide) c9)
  refine lv_iconst (v := 0) hx hb dX10_number_82 (by decide) ?_
  refine lv_i2l (v := 0) hx hb dX10_number_83 (by decide +kernel) ?_
  refine lv_lor hx hb dX10_number_84 ?_
  refine lv_topl (fun v10 ev10 => ?_)
  have ev10 : v10 = 0 := ev10.trans (by decide +kernel)
  subst ev10
  refine lv_lstore_n (lv' := [(3, .long 0), (7, .int 0), (6, .int 45), (5, .int 1), (0, .ref h0), (1, .int 44), (2, .int 4)]) hx hb dX10_number_85 rfl hl (by decide) rfl (fun ls hl => ?_)
  refine lv_iinc (v := 2) (lv' := [(5, .int 2), (3, .long 0), (7, .int 0), (6, .int 45), (0, .ref h0), (1, .int 44), (2, .int 4)]) hx hb dX10_number_86 hl (k := 3) rfl (by decide) (by decide) rfl (fun ls hl => ?_)
  refine lv_goto (tgt := 5) hx hb dX10_number_89 (by decide) ?_
  refine lv_iload hx hb dX10_number_5 (lv_at hl 0 rfl) ?_
  refine lv_iload_n hx hb dX10_number_7 rfl (lv_at hl 6 rfl) ?_
  refine lv_icmp_ge (tgt := 92) hx hb dX10_number_8 (by decide) (fun c9 => absurd c9 (by decide)) (fun _ => ?_)
  refine lv_aload_n hx hb dX10_number_11 rfl (lv_at hl 4 rfl) ?_
  refine va_get (D := D) (ci := 4) (v := .int 0) (C := RX0) (T := TX0) (N := 3) hx hb hts (by decide +kernel) hown hK hP 0 rfl rfl 1 (by decide) (hts (.fieldLink RX10 13 "SignetRing$Span" "from" "I") (by decide +kernel)) (fun _ h9 => h9) rfl dX10_number_12 ?_
  refine lv_iload_n hx hb dX10_number_15 rfl (lv_at hl 5 rfl) ?_
  refine lv_iadd hx hb dX10_number_16 ?_
  refine lv_topi (fun v11 ev11 => ?_)
  have ev11 : v11 = 44 := ev11.trans (by decide +kernel)
  subst ev11
  refine lv_iload hx hb dX10_number_17 (lv_at hl 0 rfl) ?_
  refine lv_iadd hx hb dX10_number_19 ?_
  refine lv_topi (fun v12 ev12 => ?_)
  have ev12 : v12 = 46 := ev12.trans (by decide +kernel)
  subst ev12
  refine lv_istore (lv' := [(6, .int 46), (5, .int 2), (3, .long 0), (7, .int 0), (0, .ref h0), (1, .int 44), (2, .int 4)]) hx hb dX10_number_20 hl (by decide) rfl (fun ls hl => ?_)
  refine lv_iload_n hx hb dX10_number_22 rfl (lv_at hl 5 rfl) ?_
  refine lv_if_lt (tgt := 56) hx hb dX10_number_23 (by decide) (fun c9 => absurd c9 (by decide)) (fun _ => ?_)
  refine lv_iload_n hx hb dX10_number_26 rfl (lv_at hl 5 rfl) ?_
  refine lv_iload hx hb dX10_number_27 (lv_at hl 1 rfl) ?_
  refine lv_iadd hx hb dX10_number_29 ?_
  refine lv_topi (fun v13 ev13 => ?_)
  have ev13 : v13 = 46 := ev13.trans (by decide +kernel)
  subst ev13
  refine lv_aload_n hx hb dX10_number_30 rfl (lv_at hl 4 rfl) ?_
  refine va_get (D := D) (ci := 4) (v := .int 0) (C := RX0) (T := TX0) (N := 3) hx hb hts (by decide +kernel) hown hK hP 0 rfl rfl 2 (by decide) (hts (.fieldLink RX10 17 "SignetRing$Span" "size" "I") (by decide +kernel)) (fun _ h9 => h9) rfl dX10_number_31 ?_
  refine lv_icmp_ge (tgt := 56) hx hb dX10_number_34 (by decide) (fun _ => ?_) (fun c9 => absurd (by decide) c9)
  refine lv_iconst (v := 0) hx hb dX10_number_56 (by decide) ?_
  refine lv_istore (lv' := [(7, .int 0), (6, .int 46), (5, .int 2), (3, .long 0), (0, .ref h0), (1, .int 44), (2, .int 4)]) hx hb dX10_number_57 hl (by decide) rfl (fun ls hl => ?_)
  refine lv_lload_n hx hb dX10_number_59 rfl (lv_at hl 3 rfl) ?_
  refine lv_bipush (v := 8) hx hb dX10_number_60 (by decide) ?_
  refine lv_lshl hx hb dX10_number_62 rfl ?_
  refine lv_topl (fun v14 ev14 => ?_)
  have ev14 : v14 = 0 := ev14.trans (by decide +kernel)
  subst ev14
  refine lv_iload hx hb dX10_number_63 (lv_at hl 0 rfl) ?_
  refine lv_if_eq (tgt := 82) hx hb dX10_number_65 (by decide) (fun _ => ?_) (fun c9 => absurd (by decide) c9)
  refine lv_iconst (v := 0) hx hb dX10_number_82 (by decide) ?_
  refine lv_i2l (v := 0) hx hb dX10_number_83 (by decide +kernel) ?_
  refine lv_lor hx hb dX10_number_84 ?_
  refine lv_topl (fun v15 ev15 => ?_)
  have ev15 : v15 = 0 := ev15.trans (by decide +kernel)
  subst ev15
  refine lv_lstore_n (lv' := [(3, .long 0), (7, .int 0), (6, .int 46), (5, .int 2), (0, .ref h0), (1, .int 44), (2, .int 4)]) hx hb dX10_number_85 rfl hl (by decide) rfl (fun ls hl => ?_)
  refine lv_iinc (v := 3) (lv' := [(5, .int 3), (3, .long 0), (7, .int 0), (6, .int 46), (0, .ref h0), (1, .int 44), (2, .int 4)]) hx hb dX10_number_86 hl (k := 3) rfl (by decide) (by decide) rfl (fun ls hl => ?_)
  refine lv_goto (tgt := 5) hx hb dX10_number_89 (by decide) ?_
  refine lv_iload hx hb dX10_number_5 (lv_at hl 0 rfl) ?_
  refine lv_iload_n hx hb dX10_number_7 rfl (lv_at hl 6 rfl) ?_
  refine lv_icmp_ge (tgt := 92) hx hb dX10_number_8 (by decide) (fun c9 => absurd c9 (by decide)) (fun _ => ?_)
  refine lv_aload_n hx hb dX10_number_11 rfl (lv_at hl 4 rfl) ?_
  refine va_get (D := D) (ci := 4) (v := .int 0) (C := RX0) (T := TX0) (N := 3) hx hb hts (by decide +kernel) hown hK hP 0 rfl rfl 1 (by decide) (hts (.fieldLink RX10 13 "SignetRing$Span" "from" "I") (by decide +kernel)) (fun _ h9 => h9) rfl dX10_number_12 ?_
  refine lv_iload_n hx hb dX10_number_15 rfl (lv_at hl 5 rfl) ?_
  refine lv_iadd hx hb dX10_number_16 ?_
  refine lv_topi (fun v16 ev16 => ?_)
  have ev16 : v16 = 44 := ev16.trans (by decide +kernel)
  subst ev16
  refine lv_iload hx hb dX10_number_17 (lv_at hl 0 rfl) ?_
  refine lv_iadd hx hb dX10_number_19 ?_
  refine lv_topi (fun v17 ev17 => ?_)
  have ev17 : v17 = 47 := ev17.trans (by decide +kernel)
  subst ev17
  refine lv_istore (lv' := [(6, .int 47), (5, .int 3), (3, .long 0), (7, .int 0), (0, .ref h0), (1, .int 44), (2, .int 4)]) hx hb dX10_number_20 hl (by decide) rfl (fun ls hl => ?_)
  refine lv_iload_n hx hb dX10_number_22 rfl (lv_at hl 5 rfl) ?_
  refine lv_if_lt (tgt := 56) hx hb dX10_number_23 (by decide) (fun c9 => absurd c9 (by decide)) (fun _ => ?_)
  refine lv_iload_n hx hb dX10_number_26 rfl (lv_at hl 5 rfl) ?_
  refine lv_iload hx hb dX10_number_27 (lv_at hl 1 rfl) ?_
  refine lv_iadd hx hb dX10_number_29 ?_
  refine lv_topi (fun v18 ev18 => ?_)
  have ev18 : v18 = 47 := ev18.trans (by decide +kernel)
  subst ev18
  refine lv_aload_n hx hb dX10_number_30 rfl (lv_at hl 4 rfl) ?_
  refine va_get (D := D) (ci := 4) (v := .int 0) (C := RX0) (T := TX0) (N := 3) hx hb hts (by decide +kernel) hown hK hP 0 rfl rfl 2 (by decide) (hts (.fieldLink RX10 17 "SignetRing$Span" "size" "I") (by decide +kernel)) (fun _ h9 => h9) rfl dX10_number_31 ?_
  refine lv_icmp_ge (tgt := 56) hx hb dX10_number_34 (by decide) (fun _ => ?_) (fun c9 => absurd (by decide) c9)
  refine lv_iconst (v := 0) hx hb dX10_number_56 (by decide) ?_
  refine lv_istore (lv' := [(7, .int 0), (6, .int 47), (5, .int 3), (3, .long 0), (0, .ref h0), (1, .int 44), (2, .int 4)]) hx hb dX10_number_57 hl (by decide) rfl (fun ls hl => ?_)
  refine lv_lload_n hx hb dX10_number_59 rfl (lv_at hl 3 rfl) ?_
  refine lv_bipush (v := 8) hx hb dX10_number_60 (by decide) ?_
  refine lv_lshl hx hb dX10_number_62 rfl ?_
  refine lv_topl (fun v19 ev19 => ?_)
  have ev19 : v19 = 0 := ev19.trans (by decide +kernel)
  subst ev19
  refine lv_iload hx hb dX10_number_63 (lv_at hl 0 rfl) ?_
  refine lv_if_eq (tgt := 82) hx hb dX10_number_65 (by decide) (fun _ => ?_) (fun c9 => absurd (by decide) c9)
  refine lv_iconst (v := 0) hx hb dX10_number_82 (by decide) ?_
  refine lv_i2l (v := 0) hx hb dX10_number_83 (by decide +kernel) ?_
  refine lv_lor hx hb dX10_number_84 ?_
  refine lv_topl (fun v20 ev20 => ?_)
  have ev20 : v20 = 0 := ev20.trans (by decide +kernel)
  subst ev20
  refine lv_lstore_n (lv' := [(3, .long 0), (7, .int 0), (6, .int 47), (5, .int 3), (0, .ref h0), (1, .int 44), (2, .int 4)]) hx hb dX10_number_85 rfl hl (by decide) rfl (fun ls hl => ?_)
  refine lv_iinc (v := 4) (lv' := [(5, .int 4), (3, .long 0), (7, .int 0), (6, .int 47), (0, .ref h0), (1, .int 44), (2, .int 4)]) hx hb dX10_number_86 hl (k := 3) rfl (by decide) (by decide) rfl (fun ls hl => ?_)
  refine lv_goto (tgt := 5) hx hb dX10_number_89 (by decide) ?_
  refine lv_iload hx hb dX10_number_5 (lv_at hl 0 rfl) ?_
  refine lv_iload_n hx hb dX10_number_7 rfl (lv_at hl 6 rfl) ?_
  refine lv_icmp_ge (tgt := 92) hx hb dX10_number_8 (by decide) (fun _ => ?_) (fun c9 => absurd (by decide) c9)
  refine lv_lload_n hx hb dX10_number_92 rfl (lv_at hl 1 rfl) ?_
  have hP9 := hP.sub (ws' := [(h0, .inr (4, [w1, .int 0, .int 0]))]) [0] rfl
  have hD9 := hD.sub (ws' := [(h0, .inr (4, [w1, .int 0, .int 0]))]) [0] (by decide) rfl
  refine W.widen (k := 0) (n := 0) (Nat.le_of_ble_eq_true rfl) (Nat.le_of_ble_eq_true rfl) ?_
  exact W.lret (v := 0) hx hb hr (fun t ht hW => ⟨⟨0, (), rfl, rfl, by rw [ht]; exact hP9, hD9⟩, hS.F ht⟩) hS.2.2 dX10_number_93
def wz_c_X1_wordOf_44 : List Cond := .code yX1_wordOf cX1_wordOf 4 (some .int) :: ([.methodLink RX1 44 ⟨"SignetRing$Span", "number", "(II)J"⟩, .sameMethod "SignetRing$Span" "SignetRing$Span" "number" "(II)J", .selects RX0 ⟨"SignetRing$Span", "number", "(II)J"⟩ yX10_number, .instanceMethod yX10_number, .initialized RX10, .fieldLink RX1 28 "SignetRing$Span" "size" "I"] ++ (wsX00 ++ (wz_c_num4_44 ++ ([]))))
set_option maxRecDepth 100000 in
theorem gz_c_X1_wordOf_44_c_num4_44 : GoodIn wz_c_X1_wordOf_44 wz_c_num4_44 := goodIn_sub (fun w h => List.mem_cons_of_mem _ (List.mem_append_right _ (List.mem_append_right _ (List.mem_append_left _ h)))) (by decide +kernel)
set_option maxRecDepth 100000 in
theorem gv_c_X1_wordOf_44_c_num4_44_44 : GoodIn wz_c_X1_wordOf_44 (va_wsU RX1 44 RX0 "SignetRing$Span" ⟨"SignetRing$Span", "number", "(II)J"⟩ yX10_number wz_c_num4_44) := goodIn_app (goodIn_of _ (by decide +kernel)) gz_c_X1_wordOf_44_c_num4_44
set_option maxHeartbeats 4000000 in
set_option maxRecDepth 100000 in
theorem c_X1_wordOf_44 (l : Launch) (D : va_G) (y : Nat → ClassId) (sz : Nat) (h0 : Nat) (w1 : Value) : Met l yX1_wordOf wz_c_X1_wordOf_44 ({ frames := 1, cells := 0, slots := 0, locals := 27 }) (va_Pc [.ref h0, .int 44] (zB D y [(h0, .inr (4, [w1, .int 0, .int 0]))] sz [] [] [] [])) (va_Qi (fun (r : Int32) (_ : Unit) => r = 0) (fun _ t => va_P D vwCl [(h0, .inr (4, [w1, .int 0, .int 0]))] t.heap ∧ va_D (va_A [(h0, .inr (4, [w1, .int 0, .int 0]))] sz) [(h0, .inr (4, [w1, .int 0, .int 0]))]) (va_A [(h0, .inr (4, [w1, .int 0, .int 0]))] sz)) 0 0 (va_A [(h0, .inr (4, [w1, .int 0, .int 0]))] sz) := by
  refine Met.ofW (cc := cX1_wordOf) (maxL := 4) (ret := (some .int)) (by decide) rfl ?_
  intro p e s m args below meth c s₁ B hml hv
  obtain ⟨rfl, hsz, hP, hK, hD0, hN, hE, hO, hT, hG⟩ := hv
  have hx := B.exec
  have hb := B.bytes
  have hr := B.returns
  have hts := atoms_spec (ws := wz_c_X1_wordOf_44) B.pre
  have hown : s.vm.findClass RX1 = some m.cls := findClass_of_methodNamed B.named
  have hlocks := B.notSynchronized
  subst hsz
  have hD := hD0.self (sz := s.heap.size)
  generalize hAe : va_A [(h0, .inr (4, [w1, .int 0, .int 0]))] s.heap.size = A at hD hE hT hG ⊢
  have hA : ∀ q : Nat, s.heap.size ≤ q → A q := fun q h => by rw [← hAe]; exact Or.inr h
  have hS : va_S A s.heap s.heap [] := va_S.rf
  have hl := lv_entry ([.ref h0, .int 44]) (n := 4) (Nat.le_of_ble_eq_true rfl)
  rw [lg_entry_eq]
  generalize (lg_sl ([.ref h0, .int 44]) ++ List.replicate (4 - (lg_sl ([.ref h0, .int 44])).length) Slot.unset).toArray = ls at hl ⊢
  have hl : lv_has ls 4 [(0, .ref h0), (1, .int 44)] := hl
  refine lv_aload_n hx hb dX1_wordOf_0 rfl (lv_at hl 0 rfl) ?_
  refine lv_iload_n hx hb dX1_wordOf_1 rfl (lv_at hl 1 rfl) ?_
  refine lv_iconst (v := 4) hx hb dX1_wordOf_2 (by decide) ?_
  have hPc := hP.sub (ws' := [(h0, .inr (4, [w1, .int 0, .int 0]))]) [0] rfl
  have hDc := hD.sub (ws' := [(h0, .inr (4, [w1, .int 0, .int 0]))]) [0] (by decide) rfl
  have hFc := va_free (wc := [(h0, .inr (4, [w1, .int 0, .int 0]))]) hD hS hA [0] rfl
  refine va_calll (va_runU (As := [.int 44, .int 4]) (rest := []) ⟨hx, hb, hml, hown, hts⟩ (c_num4_44 l D y s.heap.size h0 w1) (va_cwU 2 hts gv_c_X1_wordOf_44_c_num4_44_44 rfl rfl rfl rfl (by decide +kernel) ⟨(Nat.le_of_ble_eq_true rfl), (Nat.le_of_ble_eq_true rfl)⟩) (zB.preV hPc hDc hK hN hE hO hT hG hS hFc (fun _ h => nomatch h) (fun _ h => nomatch h) (fun _ h => nomatch h) (fun _ h => nomatch h) (va_recv hK hPc (ci := 4) (q0 := 0) rfl rfl)) rfl rfl hl.1 rfl (lv_room (Nat.le_of_ble_eq_true rfl)) dX1_wordOf_3 ⟨(Nat.le_of_ble_eq_true rfl), (Nat.le_of_ble_eq_true rfl)⟩) hS (fun q _ h => hFc q h) hFc (fun r1 u t H1 locs ht hvm hw hB hz1 hk1 hS => ?_)
  obtain ⟨hP1, hD1⟩ := hB
  rw [ht] at hP1
  obtain ⟨hP, hD⟩ := va_join (wr := []) (w1 := [(h0, .inr (4, [w1, .int 0, .int 0]))]) hP hD [0] [] rfl rfl (by decide) (by decide) hk1 hFc hP1 hD1
  generalize H1 = H at hP hS ⊢
  have hP : va_P D vwCl [(h0, .inr (4, [w1, .int 0, .int 0]))] H := hP
  have hD : va_D A [(h0, .inr (4, [w1, .int 0, .int 0]))] := hD
  have hw : r1 = 0 := hw
  subst hw
  refine lv_l2i (v := 0) hx hb dX1_wordOf_6 (by decide +kernel) ?_
  refine lv_istore_n (lv' := [(2, .int 0), (0, .ref h0), (1, .int 44)]) hx hb dX1_wordOf_7 rfl hl (by decide) rfl (fun ls hl => ?_)
  refine lv_aload_n hx hb dX1_wordOf_8 rfl (lv_at hl 1 rfl) ?_
  refine va_get (D := D) (ci := 4) (v := .int 0) (C := RX0) (T := TX0) (N := 3) hx hb hts (by decide +kernel) hown hK hP 0 rfl rfl 2 (by decide) (hts (.fieldLink RX1 28 "SignetRing$Span" "size" "I") (by decide +kernel)) (fun _ h9 => h9) rfl dX1_wordOf_9 ?_
  refine lv_iload_n hx hb dX1_wordOf_12 rfl (lv_at hl 2 rfl) ?_
  refine lv_isub hx hb dX1_wordOf_13 ?_
  refine lv_topi (fun v2 ev2 => ?_)
  have ev2 : v2 = -44 := ev2.trans (by decide +kernel)
  subst ev2
  refine lv_istore_n (lv' := [(3, .int (-44)), (2, .int 0), (0, .ref h0), (1, .int 44)]) hx hb dX1_wordOf_14 rfl hl (by decide) rfl (fun ls hl => ?_)
  refine lv_iload_n hx hb dX1_wordOf_15 rfl (lv_at hl 0 rfl) ?_
  refine lv_if_lt (tgt := 40) hx hb dX1_wordOf_16 (by decide) (fun _ => ?_) (fun c9 => absurd (by decide) c9)
  refine lv_iload_n hx hb dX1_wordOf_40 rfl (lv_at hl 1 rfl) ?_
  have hP9 := hP.sub (ws' := [(h0, .inr (4, [w1, .int 0, .int 0]))]) [0] rfl
  have hD9 := hD.sub (ws' := [(h0, .inr (4, [w1, .int 0, .int 0]))]) [0] (by decide) rfl
  refine W.widen (k := 0) (n := 0) (Nat.le_of_ble_eq_true rfl) (Nat.le_of_ble_eq_true rfl) ?_
  exact W.iret (v := 0) hx hb hr (fun t ht hW => ⟨⟨0, (), rfl, rfl, by rw [ht]; exact hP9, hD9⟩, hS.F ht⟩) hS.2.2 dX1_wordOf_41
def wz_c_num4_48 : List Cond := .code yX10_number cX10_number 8 (some .long) :: ([.fieldLink RX10 13 "SignetRing$Span" "from" "I", .fieldLink RX10 17 "SignetRing$Span" "size" "I"] ++ (wsX00 ++ ([])))
set_option maxHeartbeats 4000000 in
set_option maxRecDepth 100000 in
theorem c_num4_48 (l : Launch) (D : va_G) (y : Nat → ClassId) (sz : Nat) (h0 : Nat) (w1 : Value) : Met l yX10_number wz_c_num4_48 ({ frames := 0, cells := 0, slots := 0, locals := 0 }) (va_Pc [.ref h0, .int 48, .int 4] (zB D y [(h0, .inr (4, [w1, .int 0, .int 0]))] sz [] [] [] [])) (va_Ql (fun (r : Int64) (_ : Unit) => r = 0) (fun _ t => va_P D vwCl [(h0, .inr (4, [w1, .int 0, .int 0]))] t.heap ∧ va_D (va_A [(h0, .inr (4, [w1, .int 0, .int 0]))] sz) [(h0, .inr (4, [w1, .int 0, .int 0]))]) (va_A [(h0, .inr (4, [w1, .int 0, .int 0]))] sz)) 0 0 (va_A [(h0, .inr (4, [w1, .int 0, .int 0]))] sz) := by
  refine Met.ofW (cc := cX10_number) (maxL := 8) (ret := (some .long)) (by decide) rfl ?_
  intro p e s m args below meth c s₁ B hml hv
  obtain ⟨rfl, hsz, hP, hK, hD0, hN, hE, hO, hT, hG⟩ := hv
  have hx := B.exec
  have hb := B.bytes
  have hr := B.returns
  have hts := atoms_spec (ws := wz_c_num4_48) B.pre
  have hown : s.vm.findClass RX10 = some m.cls := findClass_of_methodNamed B.named
  have hlocks := B.notSynchronized
  subst hsz
  have hD := hD0.self (sz := s.heap.size)
  generalize hAe : va_A [(h0, .inr (4, [w1, .int 0, .int 0]))] s.heap.size = A at hD hE hT hG ⊢
  have hA : ∀ q : Nat, s.heap.size ≤ q → A q := fun q h => by rw [← hAe]; exact Or.inr h
  have hS : va_S A s.heap s.heap [] := va_S.rf
  have hl := lv_entry ([.ref h0, .int 48, .int 4]) (n := 8) (Nat.le_of_ble_eq_true rfl)
  rw [lg_entry_eq]
  generalize (lg_sl ([.ref h0, .int 48, .int 4]) ++ List.replicate (8 - (lg_sl ([.ref h0, .int 48, .int 4])).length) Slot.unset).toArray = ls at hl ⊢
  have hl : lv_has ls 8 [(0, .ref h0), (1, .int 48), (2, .int 4)] := hl
  refine lv_lconst (v := 0) hx hb dX10_number_0 (by decide) ?_
  refine lv_lstore_n (lv' := [(3, .long 0), (0, .ref h0), (1, .int 48), (2, .int 4)]) hx hb dX10_number_1 rfl hl (by decide) rfl (fun ls hl => ?_)
  refine lv_iconst (v := 0) hx hb dX10_number_2 (by decide) ?_
  refine lv_istore (lv' := [(5, .int 0), (3, .long 0), (0, .ref h0), (1, .int 48), (2, .int 4)]) hx hb dX10_number_3 hl (by decide) rfl (fun ls hl => ?_)
  refine lv_iload hx hb dX10_number_5 (lv_at hl 0 rfl) ?_
  refine lv_iload_n hx hb dX10_number_7 rfl (lv_at hl 4 rfl) ?_
  refine lv_icmp_ge (tgt := 92) hx hb dX10_number_8 (by decide) (fun c9 => absurd c9 (by decide)) (fun _ => ?_)
  refine lv_aload_n hx hb dX10_number_11 rfl (lv_at hl 2 rfl) ?_
  refine va_get (D := D) (ci := 4) (v := .int 0) (C := RX0) (T := TX0) (N := 3) hx hb hts (by decide +kernel) hown hK hP 0 rfl rfl 1 (by decide) (hts (.fieldLink RX10 13 "SignetRing$Span" "from" "I") (by decide +kernel)) (fun _ h9 => h9) rfl dX10_number_12 ?_
  refine lv_iload_n hx hb dX10_number_15 rfl (lv_at hl 3 rfl) ?_
  refine lv_iadd hx hb dX10_number_16 ?_
  refine lv_topi (fun v1 ev1 => ?_)
  have ev1 : v1 = 48 := ev1.trans (by decide +kernel)
  subst ev1
  refine lv_iload hx hb dX10_number_17 (lv_at hl 0 rfl) ?_
  refine lv_iadd hx hb dX10_number_19 ?_
  refine lv_topi (fun v2 ev2 => ?_)
  have ev2 : v2 = 48 := ev2.trans (by decide +kernel)
  subst ev2
  refine lv_istore (lv' := [(6, .int 48), (5, .int 0), (3, .long 0), (0, .ref h0), (1, .int 48), (2, .int 4)]) hx hb dX10_number_20 hl (by decide) rfl (fun ls hl => ?_)
  refine lv_iload_n hx hb dX10_number_22 rfl (lv_at hl 4 rfl) ?_
  refine lv_if_lt (tgt := 56) hx hb dX10_number_23 (by decide) (fun c9 => absurd c9 (by decide)) (fun _ => ?_)
  refine lv_iload_n hx hb dX10_number_26 rfl (lv_at hl 4 rfl) ?_
  refine lv_iload hx hb dX10_number_27 (lv_at hl 1 rfl) ?_
  refine lv_iadd hx hb dX10_number_29 ?_
  refine lv_topi (fun v3 ev3 => ?_)
  have ev3 : v3 = 48 := ev3.trans (by decide +kernel)
  subst ev3
  refine lv_aload_n hx hb dX10_number_30 rfl (lv_at hl 3 rfl) ?_
  refine va_get (D := D) (ci := 4) (v := .int 0) (C := RX0) (T := TX0) (N := 3) hx hb hts (by decide +kernel) hown hK hP 0 rfl rfl 2 (by decide) (hts (.fieldLink RX10 17 "SignetRing$Span" "size" "I") (by decide +kernel)) (fun _ h9 => h9) rfl dX10_number_31 ?_
  refine lv_icmp_ge (tgt := 56) hx hb dX10_number_34 (by decide) (fun _ => ?_) (fun c9 => absurd (by decide) c9)
  refine lv_iconst (v := 0) hx hb dX10_number_56 (by decide) ?_
  refine lv_istore (lv' := [(7, .int 0), (6, .int 48), (5, .int 0), (3, .long 0), (0, .ref h0), (1, .int 48), (2, .int 4)]) hx hb dX10_number_57 hl (by decide) rfl (fun ls hl => ?_)
  refine lv_lload_n hx hb dX10_number_59 rfl (lv_at hl 3 rfl) ?_
  refine lv_bipush (v := 8) hx hb dX10_number_60 (by decide) ?_
  refine lv_lshl hx hb dX10_number_62 rfl ?_
  refine lv_topl (fun v4 ev4 => ?_)
  have ev4 : v4 = 0 := ev4.trans (by decide +kernel)
  subst ev4
  refine lv_iload hx hb dX10_number_63 (lv_at hl 0 rfl) ?_
  refine lv_if_eq (tgt := 82) hx hb dX10_number_65 (by decide) (fun _ => ?_) (fun c9 => absurd (by decide) c9)
  refine lv_iconst (v := 0) hx hb dX10_number_82 (by decide) ?_
  refine lv_i2l (v := 0) hx hb dX10_number_83 (by decide +kernel) ?_
  refine lv_lor hx hb dX10_number_84 ?_
  refine lv_topl (fun v5 ev5 => ?_)
  have ev5 : v5 = 0 := ev5.trans (by decide +kernel)
  subst ev5
  refine lv_lstore_n (lv' := [(3, .long 0), (7, .int 0), (6, .int 48), (5, .int 0), (0, .ref h0), (1, .int 48), (2, .int 4)]) hx hb dX10_number_85 rfl hl (by decide) rfl (fun ls hl => ?_)
  refine lv_iinc (v := 1) (lv' := [(5, .int 1), (3, .long 0), (7, .int 0), (6, .int 48), (0, .ref h0), (1, .int 48), (2, .int 4)]) hx hb dX10_number_86 hl (k := 3) rfl (by decide) (by decide) rfl (fun ls hl => ?_)
  refine lv_goto (tgt := 5) hx hb dX10_number_89 (by decide) ?_
  refine lv_iload hx hb dX10_number_5 (lv_at hl 0 rfl) ?_
  refine lv_iload_n hx hb dX10_number_7 rfl (lv_at hl 6 rfl) ?_
  refine lv_icmp_ge (tgt := 92) hx hb dX10_number_8 (by decide) (fun c9 => absurd c9 (by decide)) (fun _ => ?_)
  refine lv_aload_n hx hb dX10_number_11 rfl (lv_at hl 4 rfl) ?_
  refine va_get (D := D) (ci := 4) (v := .int 0) (C := RX0) (T := TX0) (N := 3) hx hb hts (by decide +kernel) hown hK hP 0 rfl rfl 1 (by decide) (hts (.fieldLink RX10 13 "SignetRing$Span" "from" "I") (by decide +kernel)) (fun _ h9 => h9) rfl dX10_number_12 ?_
  refine lv_iload_n hx hb dX10_number_15 rfl (lv_at hl 5 rfl) ?_
  refine lv_iadd hx hb dX10_number_16 ?_
  refine lv_topi (fun v6 ev6 => ?_)
  have ev6 : v6 = 48 := ev6.trans (by decide +kernel)
  subst ev6
  refine lv_iload hx hb dX10_number_17 (lv_at hl 0 rfl) ?_
  refine lv_iadd hx hb dX10_number_19 ?_
  refine lv_topi (fun v7 ev7 => ?_)
  have ev7 : v7 = 49 := ev7.trans (by decide +kernel)
  subst ev7
  refine lv_istore (lv' := [(6, .int 49), (5, .int 1), (3, .long 0), (7, .int 0), (0, .ref h0), (1, .int 48), (2, .int 4)]) hx hb dX10_number_20 hl (by decide) rfl (fun ls hl => ?_)
  refine lv_iload_n hx hb dX10_number_22 rfl (lv_at hl 5 rfl) ?_
  refine lv_if_lt (tgt := 56) hx hb dX10_number_23 (by decide) (fun c9 => absurd c9 (by decide)) (fun _ => ?_)
  refine lv_iload_n hx hb dX10_number_26 rfl (lv_at hl 5 rfl) ?_
  refine lv_iload hx hb dX10_number_27 (lv_at hl 1 rfl) ?_
  refine lv_iadd hx hb dX10_number_29 ?_
  refine lv_topi (fun v8 ev8 => ?_)
  have ev8 : v8 = 49 := ev8.trans (by decide +kernel)
  subst ev8
  refine lv_aload_n hx hb dX10_number_30 rfl (lv_at hl 4 rfl) ?_
  refine va_get (D := D) (ci := 4) (v := .int 0) (C := RX0) (T := TX0) (N := 3) hx hb hts (by decide +kernel) hown hK hP 0 rfl rfl 2 (by decide) (hts (.fieldLink RX10 17 "SignetRing$Span" "size" "I") (by decide +kernel)) (fun _ h9 => h9) rfl dX10_number_31 ?_
  refine lv_icmp_ge (tgt := 56) hx hb dX10_number_34 (by decide) (fun _ => ?_) (fun c9 => absurd (by decide) c9)
  refine lv_iconst (v := 0) hx hb dX10_number_56 (by decide) ?_
  refine lv_istore (lv' := [(7, .int 0), (6, .int 49), (5, .int 1), (3, .long 0), (0, .ref h0), (1, .int 48), (2, .int 4)]) hx hb dX10_number_57 hl (by decide) rfl (fun ls hl => ?_)
  refine lv_lload_n hx hb dX10_number_59 rfl (lv_at hl 3 rfl) ?_
  refine lv_bipush (v := 8) hx hb dX10_number_60 (by decide) ?_
  refine lv_lshl hx hb dX10_number_62 rfl ?_
  refine lv_topl (fun v9 ev9 => ?_)
  have ev9 : v9 = 0 := ev9.trans (by decide +kernel)
  subst ev9
  refine lv_iload hx hb dX10_number_63 (lv_at hl 0 rfl) ?_
  refine lv_if_eq (tgt := 82) hx hb dX10_number_65 (by decide) (fun _ => ?_) (fun c9 => absurd (by decide) c9)
  refine lv_iconst (v := 0) hx hb dX10_number_82 (by decide) ?_
  refine lv_i2l (v := 0) hx hb dX10_number_83 (by decide +kernel) ?_
  refine lv_lor hx hb dX10_number_84 ?_
  refine lv_topl (fun v10 ev10 => ?_)
  have ev10 : v10 = 0 := ev10.trans (by decide +kernel)
  subst ev10
  refine lv_lstore_n (lv' := [(3, .long 0), (7, .int 0), (6, .int 49), (5, .int 1), (0, .ref h0), (1, .int 48), (2, .int 4)]) hx hb dX10_number_85 rfl hl (by decide) rfl (fun ls hl => ?_)
  refine lv_iinc (v := 2) (lv' := [(5, .int 2), (3, .long 0), (7, .int 0), (6, .int 49), (0, .ref h0), (1, .int 48), (2, .int 4)]) hx hb dX10_number_86 hl (k := 3) rfl (by decide) (by decide) rfl (fun ls hl => ?_)
  refine lv_goto (tgt := 5) hx hb dX10_number_89 (by decide) ?_
  refine lv_iload hx hb dX10_number_5 (lv_at hl 0 rfl) ?_
  refine lv_iload_n hx hb dX10_number_7 rfl (lv_at hl 6 rfl) ?_
  refine lv_icmp_ge (tgt := 92) hx hb dX10_number_8 (by decide) (fun c9 => absurd c9 (by decide)) (fun _ => ?_)
  refine lv_aload_n hx hb dX10_number_11 rfl (lv_at hl 4 rfl) ?_
  refine va_get (D := D) (ci := 4) (v := .int 0) (C := RX0) (T := TX0) (N := 3) hx hb hts (by decide +kernel) hown hK hP 0 rfl rfl 1 (by decide) (hts (.fieldLink RX10 13 "SignetRing$Span" "from" "I") (by decide +kernel)) (fun _ h9 => h9) rfl dX10_number_12 ?_
  refine lv_iload_n hx hb dX10_number_15 rfl (lv_at hl 5 rfl) ?_
  refine lv_iadd hx hb dX10_number_16 ?_
  refine lv_topi (fun v11 ev11 => ?_)
  have ev11 : v11 = 48 := ev11.trans (by decide +kernel)
  subst ev11
  refine lv_iload hx hb dX10_number_17 (lv_at hl 0 rfl) ?_
  refine lv_iadd hx hb dX10_number_19 ?_
  refine lv_topi (fun v12 ev12 => ?_)
  have ev12 : v12 = 50 := ev12.trans (by decide +kernel)
  subst ev12
  refine lv_istore (lv' := [(6, .int 50), (5, .int 2), (3, .long 0), (7, .int 0), (0, .ref h0), (1, .int 48), (2, .int 4)]) hx hb dX10_number_20 hl (by decide) rfl (fun ls hl => ?_)
  refine lv_iload_n hx hb dX10_number_22 rfl (lv_at hl 5 rfl) ?_
  refine lv_if_lt (tgt := 56) hx hb dX10_number_23 (by decide) (fun c9 => absurd c9 (by decide)) (fun _ => ?_)
  refine lv_iload_n hx hb dX10_number_26 rfl (lv_at hl 5 rfl) ?_
  refine lv_iload hx hb dX10_number_27 (lv_at hl 1 rfl) ?_
  refine lv_iadd hx hb dX10_number_29 ?_
  refine lv_topi (fun v13 ev13 => ?_)
  have ev13 : v13 = 50 := ev13.trans (by decide +kernel)
  subst ev13
  refine lv_aload_n hx hb dX10_number_30 rfl (lv_at hl 4 rfl) ?_
  refine va_get (D := D) (ci := 4) (v := .int 0) (C := RX0) (T := TX0) (N := 3) hx hb hts (by decide +kernel) hown hK hP 0 rfl rfl 2 (by decide) (hts (.fieldLink RX10 17 "SignetRing$Span" "size" "I") (by decide +kernel)) (fun _ h9 => h9) rfl dX10_number_31 ?_
  refine lv_icmp_ge (tgt := 56) hx hb dX10_number_34 (by decide) (fun _ => ?_) (fun c9 => absurd (by decide) c9)
  refine lv_iconst (v := 0) hx hb dX10_number_56 (by decide) ?_
  refine lv_istore (lv' := [(7, .int 0), (6, .int 50), (5, .int 2), (3, .long 0), (0, .ref h0), (1, .int 48), (2, .int 4)]) hx hb dX10_number_57 hl (by decide) rfl (fun ls hl => ?_)
  refine lv_lload_n hx hb dX10_number_59 rfl (lv_at hl 3 rfl) ?_
  refine lv_bipush (v := 8) hx hb dX10_number_60 (by decide) ?_
  refine lv_lshl hx hb dX10_number_62 rfl ?_
  refine lv_topl (fun v14 ev14 => ?_)
  have ev14 : v14 = 0 := ev14.trans (by decide +kernel)
  subst ev14
  refine lv_iload hx hb dX10_number_63 (lv_at hl 0 rfl) ?_
  refine lv_if_eq (tgt := 82) hx hb dX10_number_65 (by decide) (fun _ => ?_) (fun c9 => absurd (by decide) c9)
  refine lv_iconst (v := 0) hx hb dX10_number_82 (by decide) ?_
  refine lv_i2l (v := 0) hx hb dX10_number_83 (by decide +kernel) ?_
  refine lv_lor hx hb dX10_number_84 ?_
  refine lv_topl (fun v15 ev15 => ?_)
  have ev15 : v15 = 0 := ev15.trans (by decide +kernel)
  subst ev15
  refine lv_lstore_n (lv' := [(3, .long 0), (7, .int 0), (6, .int 50), (5, .int 2), (0, .ref h0), (1, .int 48), (2, .int 4)]) hx hb dX10_number_85 rfl hl (by decide) rfl (fun ls hl => ?_)
  refine lv_iinc (v := 3) (lv' := [(5, .int 3), (3, .long 0), (7, .int 0), (6, .int 50), (0, .ref h0), (1, .int 48), (2, .int 4)]) hx hb dX10_number_86 hl (k := 3) rfl (by decide) (by decide) rfl (fun ls hl => ?_)
  refine lv_goto (tgt := 5) hx hb dX10_number_89 (by decide) ?_
  refine lv_iload hx hb dX10_number_5 (lv_at hl 0 rfl) ?_
  refine lv_iload_n hx hb dX10_number_7 rfl (lv_at hl 6 rfl) ?_
  refine lv_icmp_ge (tgt := 92) hx hb dX10_number_8 (by decide) (fun c9 => absurd c9 (by decide)) (fun _ => ?_)
  refine lv_aload_n hx hb dX10_number_11 rfl (lv_at hl 4 rfl) ?_
  refine va_get (D := D) (ci := 4) (v := .int 0) (C := RX0) (T := TX0) (N := 3) hx hb hts (by decide +kernel) hown hK hP 0 rfl rfl 1 (by decide) (hts (.fieldLink RX10 13 "SignetRing$Span" "from" "I") (by decide +kernel)) (fun _ h9 => h9) rfl dX10_number_12 ?_
  refine lv_iload_n hx hb dX10_number_15 rfl (lv_at hl 5 rfl) ?_
  refine lv_iadd hx hb dX10_number_16 ?_
  refine lv_topi (fun v16 ev16 => ?_)
  have ev16 : v16 = 48 := ev16.trans (by decide +kernel)
  subst ev16
  refine lv_iload hx hb dX10_number_17 (lv_at hl 0 rfl) ?_
  refine lv_iadd hx hb dX10_number_19 ?_
  refine lv_topi (fun v17 ev17 => ?_)
  have ev17 : v17 = 51 := ev17.trans (by decide +kernel)
  subst ev17
  refine lv_istore (lv' := [(6, .int 51), (5, .int 3), (3, .long 0), (7, .int 0), (0, .ref h0), (1, .int 48), (2, .int 4)]) hx hb dX10_number_20 hl (by decide) rfl (fun ls hl => ?_)
  refine lv_iload_n hx hb dX10_number_22 rfl (lv_at hl 5 rfl) ?_
  refine lv_if_lt (tgt := 56) hx hb dX10_number_23 (by decide) (fun c9 => absurd c9 (by decide)) (fun _ => ?_)
  refine lv_iload_n hx hb dX10_number_26 rfl (lv_at hl 5 rfl) ?_
  refine lv_iload hx hb dX10_number_27 (lv_at hl 1 rfl) ?_
  refine lv_iadd hx hb dX10_number_29 ?_
  refine lv_topi (fun v18 ev18 => ?_)
  have ev18 : v18 = 51 := ev18.trans (by decide +kernel)
  subst ev18
  refine lv_aload_n hx hb dX10_number_30 rfl (lv_at hl 4 rfl) ?_
  refine va_get (D := D) (ci := 4) (v := .int 0) (C := RX0) (T := TX0) (N := 3) hx hb hts (by decide +kernel) hown hK hP 0 rfl rfl 2 (by decide) (hts (.fieldLink RX10 17 "SignetRing$Span" "size" "I") (by decide +kernel)) (fun _ h9 => h9) rfl dX10_number_31 ?_
  refine lv_icmp_ge (tgt := 56) hx hb dX10_number_34 (by decide) (fun _ => ?_) (fun c9 => absurd (by decide) c9)
  refine lv_iconst (v := 0) hx hb dX10_number_56 (by decide) ?_
  refine lv_istore (lv' := [(7, .int 0), (6, .int 51), (5, .int 3), (3, .long 0), (0, .ref h0), (1, .int 48), (2, .int 4)]) hx hb dX10_number_57 hl (by decide) rfl (fun ls hl => ?_)
  refine lv_lload_n hx hb dX10_number_59 rfl (lv_at hl 3 rfl) ?_
  refine lv_bipush (v := 8) hx hb dX10_number_60 (by decide) ?_
  refine lv_lshl hx hb dX10_number_62 rfl ?_
  refine lv_topl (fun v19 ev19 => ?_)
  have ev19 : v19 = 0 := ev19.trans (by decide +kernel)
  subst ev19
  refine lv_iload hx hb dX10_number_63 (lv_at hl 0 rfl) ?_
  refine lv_if_eq (tgt := 82) hx hb dX10_number_65 (by decide) (fun _ => ?_) (fun c9 => absurd (by decide) c9)
  refine lv_iconst (v := 0) hx hb dX10_number_82 (by decide) ?_
  refine lv_i2l (v := 0) hx hb dX10_number_83 (by decide +kernel) ?_
  refine lv_lor hx hb dX10_number_84 ?_
  refine lv_topl (fun v20 ev20 => ?_)
  have ev20 : v20 = 0 := ev20.trans (by decide +kernel)
  subst ev20
  refine lv_lstore_n (lv' := [(3, .long 0), (7, .int 0), (6, .int 51), (5, .int 3), (0, .ref h0), (1, .int 48), (2, .int 4)]) hx hb dX10_number_85 rfl hl (by decide) rfl (fun ls hl => ?_)
  refine lv_iinc (v := 4) (lv' := [(5, .int 4), (3, .long 0), (7, .int 0), (6, .int 51), (0, .ref h0), (1, .int 48), (2, .int 4)]) hx hb dX10_number_86 hl (k := 3) rfl (by decide) (by decide) rfl (fun ls hl => ?_)
  refine lv_goto (tgt := 5) hx hb dX10_number_89 (by decide) ?_
  refine lv_iload hx hb dX10_number_5 (lv_at hl 0 rfl) ?_
  refine lv_iload_n hx hb dX10_number_7 rfl (lv_at hl 6 rfl) ?_
  refine lv_icmp_ge (tgt := 92) hx hb dX10_number_8 (by decide) (fun _ => ?_) (fun c9 => absurd (by decide) c9)
  refine lv_lload_n hx hb dX10_number_92 rfl (lv_at hl 1 rfl) ?_
  have hP9 := hP.sub (ws' := [(h0, .inr (4, [w1, .int 0, .int 0]))]) [0] rfl
  have hD9 := hD.sub (ws' := [(h0, .inr (4, [w1, .int 0, .int 0]))]) [0] (by decide) rfl
  refine W.widen (k := 0) (n := 0) (Nat.le_of_ble_eq_true rfl) (Nat.le_of_ble_eq_true rfl) ?_
  exact W.lret (v := 0) hx hb hr (fun t ht hW => ⟨⟨0, (), rfl, rfl, by rw [ht]; exact hP9, hD9⟩, hS.F ht⟩) hS.2.2 dX10_number_93
def wz_c_X1_wordOf_48 : List Cond := .code yX1_wordOf cX1_wordOf 4 (some .int) :: ([.methodLink RX1 44 ⟨"SignetRing$Span", "number", "(II)J"⟩, .sameMethod "SignetRing$Span" "SignetRing$Span" "number" "(II)J", .selects RX0 ⟨"SignetRing$Span", "number", "(II)J"⟩ yX10_number, .instanceMethod yX10_number, .initialized RX10, .fieldLink RX1 28 "SignetRing$Span" "size" "I"] ++ (wsX00 ++ (wz_c_num4_48 ++ ([]))))
set_option maxRecDepth 100000 in
theorem gz_c_X1_wordOf_48_c_num4_48 : GoodIn wz_c_X1_wordOf_48 wz_c_num4_48 := goodIn_sub (fun w h => List.mem_cons_of_mem _ (List.mem_append_right _ (List.mem_append_right _ (List.mem_append_left _ h)))) (by decide +kernel)
set_option maxRecDepth 100000 in
theorem gv_c_X1_wordOf_48_c_num4_48_44 : GoodIn wz_c_X1_wordOf_48 (va_wsU RX1 44 RX0 "SignetRing$Span" ⟨"SignetRing$Span", "number", "(II)J"⟩ yX10_number wz_c_num4_48) := goodIn_app (goodIn_of _ (by decide +kernel)) gz_c_X1_wordOf_48_c_num4_48
set_option maxHeartbeats 4000000 in
set_option maxRecDepth 100000 in
theorem c_X1_wordOf_48 (l : Launch) (D : va_G) (y : Nat → ClassId) (sz : Nat) (h0 : Nat) (w1 : Value) : Met l yX1_wordOf wz_c_X1_wordOf_48 ({ frames := 1, cells := 0, slots := 0, locals := 27 }) (va_Pc [.ref h0, .int 48] (zB D y [(h0, .inr (4, [w1, .int 0, .int 0]))] sz [] [] [] [])) (va_Qi (fun (r : Int32) (_ : Unit) => r = 0) (fun _ t => va_P D vwCl [(h0, .inr (4, [w1, .int 0, .int 0]))] t.heap ∧ va_D (va_A [(h0, .inr (4, [w1, .int 0, .int 0]))] sz) [(h0, .inr (4, [w1, .int 0, .int 0]))]) (va_A [(h0, .inr (4, [w1, .int 0, .int 0]))] sz)) 0 0 (va_A [(h0, .inr (4, [w1, .int 0, .int 0]))] sz) := by
  refine Met.ofW (cc := cX1_wordOf) (maxL := 4) (ret := (some .int)) (by decide) rfl ?_
  intro p e s m args below meth c s₁ B hml hv
  obtain ⟨rfl, hsz, hP, hK, hD0, hN, hE, hO, hT, hG⟩ := hv
  have hx := B.exec
  have hb := B.bytes
  have hr := B.returns
  have hts := atoms_spec (ws := wz_c_X1_wordOf_48) B.pre
  have hown : s.vm.findClass RX1 = some m.cls := findClass_of_methodNamed B.named
  have hlocks := B.notSynchronized
  subst hsz
  have hD := hD0.self (sz := s.heap.size)
  generalize hAe : va_A [(h0, .inr (4, [w1, .int 0, .int 0]))] s.heap.size = A at hD hE hT hG ⊢
  have hA : ∀ q : Nat, s.heap.size ≤ q → A q := fun q h => by rw [← hAe]; exact Or.inr h
  have hS : va_S A s.heap s.heap [] := va_S.rf
  have hl := lv_entry ([.ref h0, .int 48]) (n := 4) (Nat.le_of_ble_eq_true rfl)
  rw [lg_entry_eq]
  generalize (lg_sl ([.ref h0, .int 48]) ++ List.replicate (4 - (lg_sl ([.ref h0, .int 48])).length) Slot.unset).toArray = ls at hl ⊢
  have hl : lv_has ls 4 [(0, .ref h0), (1, .int 48)] := hl
  refine lv_aload_n hx hb dX1_wordOf_0 rfl (lv_at hl 0 rfl) ?_
  refine lv_iload_n hx hb dX1_wordOf_1 rfl (lv_at hl 1 rfl) ?_
  refine lv_iconst (v := 4) hx hb dX1_wordOf_2 (by decide) ?_
  have hPc := hP.sub (ws' := [(h0, .inr (4, [w1, .int 0, .int 0]))]) [0] rfl
  have hDc := hD.sub (ws' := [(h0, .inr (4, [w1, .int 0, .int 0]))]) [0] (by decide) rfl
  have hFc := va_free (wc := [(h0, .inr (4, [w1, .int 0, .int 0]))]) hD hS hA [0] rfl
  refine va_calll (va_runU (As := [.int 48, .int 4]) (rest := []) ⟨hx, hb, hml, hown, hts⟩ (c_num4_48 l D y s.heap.size h0 w1) (va_cwU 2 hts gv_c_X1_wordOf_48_c_num4_48_44 rfl rfl rfl rfl (by decide +kernel) ⟨(Nat.le_of_ble_eq_true rfl), (Nat.le_of_ble_eq_true rfl)⟩) (zB.preV hPc hDc hK hN hE hO hT hG hS hFc (fun _ h => nomatch h) (fun _ h => nomatch h) (fun _ h => nomatch h) (fun _ h => nomatch h) (va_recv hK hPc (ci := 4) (q0 := 0) rfl rfl)) rfl rfl hl.1 rfl (lv_room (Nat.le_of_ble_eq_true rfl)) dX1_wordOf_3 ⟨(Nat.le_of_ble_eq_true rfl), (Nat.le_of_ble_eq_true rfl)⟩) hS (fun q _ h => hFc q h) hFc (fun r1 u t H1 locs ht hvm hw hB hz1 hk1 hS => ?_)
  obtain ⟨hP1, hD1⟩ := hB
  rw [ht] at hP1
  obtain ⟨hP, hD⟩ := va_join (wr := []) (w1 := [(h0, .inr (4, [w1, .int 0, .int 0]))]) hP hD [0] [] rfl rfl (by decide) (by decide) hk1 hFc hP1 hD1
  generalize H1 = H at hP hS ⊢
  have hP : va_P D vwCl [(h0, .inr (4, [w1, .int 0, .int 0]))] H := hP
  have hD : va_D A [(h0, .inr (4, [w1, .int 0, .int 0]))] := hD
  have hw : r1 = 0 := hw
  subst hw
  refine lv_l2i (v := 0) hx hb dX1_wordOf_6 (by decide +kernel) ?_
  refine lv_istore_n (lv' := [(2, .int 0), (0, .ref h0), (1, .int 48)]) hx hb dX1_wordOf_7 rfl hl (by decide) rfl (fun ls hl => ?_)
  refine lv_aload_n hx hb dX1_wordOf_8 rfl (lv_at hl 1 rfl) ?_
  refine va_get (D := D) (ci := 4) (v := .int 0) (C := RX0) (T := TX0) (N := 3) hx hb hts (by decide +kernel) hown hK hP 0 rfl rfl 2 (by decide) (hts (.fieldLink RX1 28 "SignetRing$Span" "size" "I") (by decide +kernel)) (fun _ h9 => h9) rfl dX1_wordOf_9 ?_
  refine lv_iload_n hx hb dX1_wordOf_12 rfl (lv_at hl 2 rfl) ?_
  refine lv_isub hx hb dX1_wordOf_13 ?_
  refine lv_topi (fun v2 ev2 => ?_)
  have ev2 : v2 = -48 := ev2.trans (by decide +kernel)
  subst ev2
  refine lv_istore_n (lv' := [(3, .int (-48)), (2, .int 0), (0, .ref h0), (1, .int 48)]) hx hb dX1_wordOf_14 rfl hl (by decide) rfl (fun ls hl => ?_)
  refine lv_iload_n hx hb dX1_wordOf_15 rfl (lv_at hl 0 rfl) ?_
  refine lv_if_lt (tgt := 40) hx hb dX1_wordOf_16 (by decide) (fun _ => ?_) (fun c9 => absurd (by decide) c9)
  refine lv_iload_n hx hb dX1_wordOf_40 rfl (lv_at hl 1 rfl) ?_
  have hP9 := hP.sub (ws' := [(h0, .inr (4, [w1, .int 0, .int 0]))]) [0] rfl
  have hD9 := hD.sub (ws' := [(h0, .inr (4, [w1, .int 0, .int 0]))]) [0] (by decide) rfl
  refine W.widen (k := 0) (n := 0) (Nat.le_of_ble_eq_true rfl) (Nat.le_of_ble_eq_true rfl) ?_
  exact W.iret (v := 0) hx hb hr (fun t ht hW => ⟨⟨0, (), rfl, rfl, by rw [ht]; exact hP9, hD9⟩, hS.F ht⟩) hS.2.2 dX1_wordOf_41
def wz_c_num4_52 : List Cond := .code yX10_number cX10_number 8 (some .long) :: ([.fieldLink RX10 13 "SignetRing$Span" "from" "I", .fieldLink RX10 17 "SignetRing$Span" "size" "I"] ++ (wsX00 ++ ([])))
set_option maxHeartbeats 4000000 in
set_option maxRecDepth 100000 in
theorem c_num4_52 (l : Launch) (D : va_G) (y : Nat → ClassId) (sz : Nat) (h0 : Nat) (w1 : Value) : Met l yX10_number wz_c_num4_52 ({ frames := 0, cells := 0, slots := 0, locals := 0 }) (va_Pc [.ref h0, .int 52, .int 4] (zB D y [(h0, .inr (4, [w1, .int 0, .int 0]))] sz [] [] [] [])) (va_Ql (fun (r : Int64) (_ : Unit) => r = 0) (fun _ t => va_P D vwCl [(h0, .inr (4, [w1, .int 0, .int 0]))] t.heap ∧ va_D (va_A [(h0, .inr (4, [w1, .int 0, .int 0]))] sz) [(h0, .inr (4, [w1, .int 0, .int 0]))]) (va_A [(h0, .inr (4, [w1, .int 0, .int 0]))] sz)) 0 0 (va_A [(h0, .inr (4, [w1, .int 0, .int 0]))] sz) := by
  refine Met.ofW (cc := cX10_number) (maxL := 8) (ret := (some .long)) (by decide) rfl ?_
  intro p e s m args below meth c s₁ B hml hv
  obtain ⟨rfl, hsz, hP, hK, hD0, hN, hE, hO, hT, hG⟩ := hv
  have hx := B.exec
  have hb := B.bytes
  have hr := B.returns
  have hts := atoms_spec (ws := wz_c_num4_52) B.pre
  have hown : s.vm.findClass RX10 = some m.cls := findClass_of_methodNamed B.named
  have hlocks := B.notSynchronized
  subst hsz
  have hD := hD0.self (sz := s.heap.size)
  generalize hAe : va_A [(h0, .inr (4, [w1, .int 0, .int 0]))] s.heap.size = A at hD hE hT hG ⊢
  have hA : ∀ q : Nat, s.heap.size ≤ q → A q := fun q h => by rw [← hAe]; exact Or.inr h
  have hS : va_S A s.heap s.heap [] := va_S.rf
  have hl := lv_entry ([.ref h0, .int 52, .int 4]) (n := 8) (Nat.le_of_ble_eq_true rfl)
  rw [lg_entry_eq]
  generalize (lg_sl ([.ref h0, .int 52, .int 4]) ++ List.replicate (8 - (lg_sl ([.ref h0, .int 52, .int 4])).length) Slot.unset).toArray = ls at hl ⊢
  have hl : lv_has ls 8 [(0, .ref h0), (1, .int 52), (2, .int 4)] := hl
  refine lv_lconst (v := 0) hx hb dX10_number_0 (by decide) ?_
  refine lv_lstore_n (lv' := [(3, .long 0), (0, .ref h0), (1, .int 52), (2, .int 4)]) hx hb dX10_number_1 rfl hl (by decide) rfl (fun ls hl => ?_)
  refine lv_iconst (v := 0) hx hb dX10_number_2 (by decide) ?_
  refine lv_istore (lv' := [(5, .int 0), (3, .long 0), (0, .ref h0), (1, .int 52), (2, .int 4)]) hx hb dX10_number_3 hl (by decide) rfl (fun ls hl => ?_)
  refine lv_iload hx hb dX10_number_5 (lv_at hl 0 rfl) ?_
  refine lv_iload_n hx hb dX10_number_7 rfl (lv_at hl 4 rfl) ?_
  refine lv_icmp_ge (tgt := 92) hx hb dX10_number_8 (by decide) (fun c9 => absurd c9 (by decide)) (fun _ => ?_)
  refine lv_aload_n hx hb dX10_number_11 rfl (lv_at hl 2 rfl) ?_
  refine va_get (D := D) (ci := 4) (v := .int 0) (C := RX0) (T := TX0) (N := 3) hx hb hts (by decide +kernel) hown hK hP 0 rfl rfl 1 (by decide) (hts (.fieldLink RX10 13 "SignetRing$Span" "from" "I") (by decide +kernel)) (fun _ h9 => h9) rfl dX10_number_12 ?_
  refine lv_iload_n hx hb dX10_number_15 rfl (lv_at hl 3 rfl) ?_
  refine lv_iadd hx hb dX10_number_16 ?_
  refine lv_topi (fun v1 ev1 => ?_)
  have ev1 : v1 = 52 := ev1.trans (by decide +kernel)
  subst ev1
  refine lv_iload hx hb dX10_number_17 (lv_at hl 0 rfl) ?_
  refine lv_iadd hx hb dX10_number_19 ?_
  refine lv_topi (fun v2 ev2 => ?_)
  have ev2 : v2 = 52 := ev2.trans (by decide +kernel)
  subst ev2
  refine lv_istore (lv' := [(6, .int 52), (5, .int 0), (3, .long 0), (0, .ref h0), (1, .int 52), (2, .int 4)]) hx hb dX10_number_20 hl (by decide) rfl (fun ls hl => ?_)
  refine lv_iload_n hx hb dX10_number_22 rfl (lv_at hl 4 rfl) ?_
  refine lv_if_lt (tgt := 56) hx hb dX10_number_23 (by decide) (fun c9 => absurd c9 (by decide)) (fun _ => ?_)
  refine lv_iload_n hx hb dX10_number_26 rfl (lv_at hl 4 rfl) ?_
  refine lv_iload hx hb dX10_number_27 (lv_at hl 1 rfl) ?_
  refine lv_iadd hx hb dX10_number_29 ?_
  refine lv_topi (fun v3 ev3 => ?_)
  have ev3 : v3 = 52 := ev3.trans (by decide +kernel)
  subst ev3
  refine lv_aload_n hx hb dX10_number_30 rfl (lv_at hl 3 rfl) ?_
  refine va_get (D := D) (ci := 4) (v := .int 0) (C := RX0) (T := TX0) (N := 3) hx hb hts (by decide +kernel) hown hK hP 0 rfl rfl 2 (by decide) (hts (.fieldLink RX10 17 "SignetRing$Span" "size" "I") (by decide +kernel)) (fun _ h9 => h9) rfl dX10_number_31 ?_
  refine lv_icmp_ge (tgt := 56) hx hb dX10_number_34 (by decide) (fun _ => ?_) (fun c9 => absurd (by decide) c9)
  refine lv_iconst (v := 0) hx hb dX10_number_56 (by decide) ?_
  refine lv_istore (lv' := [(7, .int 0), (6, .int 52), (5, .int 0), (3, .long 0), (0, .ref h0), (1, .int 52), (2, .int 4)]) hx hb dX10_number_57 hl (by decide) rfl (fun ls hl => ?_)
  refine lv_lload_n hx hb dX10_number_59 rfl (lv_at hl 3 rfl) ?_
  refine lv_bipush (v := 8) hx hb dX10_number_60 (by decide) ?_
  refine lv_lshl hx hb dX10_number_62 rfl ?_
  refine lv_topl (fun v4 ev4 => ?_)
  have ev4 : v4 = 0 := ev4.trans (by decide +kernel)
  subst ev4
  refine lv_iload hx hb dX10_number_63 (lv_at hl 0 rfl) ?_
  refine lv_if_eq (tgt := 82) hx hb dX10_number_65 (by decide) (fun _ => ?_) (fun c9 => absurd (by decide) c9)
  refine lv_iconst (v := 0) hx hb dX10_number_82 (by decide) ?_
  refine lv_i2l (v := 0) hx hb dX10_number_83 (by decide +kernel) ?_
  refine lv_lor hx hb dX10_number_84 ?_
  refine lv_topl (fun v5 ev5 => ?_)
  have ev5 : v5 = 0 := ev5.trans (by decide +kernel)
  subst ev5
  refine lv_lstore_n (lv' := [(3, .long 0), (7, .int 0), (6, .int 52), (5, .int 0), (0, .ref h0), (1, .int 52), (2, .int 4)]) hx hb dX10_number_85 rfl hl (by decide) rfl (fun ls hl => ?_)
  refine lv_iinc (v := 1) (lv' := [(5, .int 1), (3, .long 0), (7, .int 0), (6, .int 52), (0, .ref h0), (1, .int 52), (2, .int 4)]) hx hb dX10_number_86 hl (k := 3) rfl (by decide) (by decide) rfl (fun ls hl => ?_)
  refine lv_goto (tgt := 5) hx hb dX10_number_89 (by decide) ?_
  refine lv_iload hx hb dX10_number_5 (lv_at hl 0 rfl) ?_
  refine lv_iload_n hx hb dX10_number_7 rfl (lv_at hl 6 rfl) ?_
  refine lv_icmp_ge (tgt := 92) hx hb dX10_number_8 (by decide) (fun c9 => absurd c9 (by decide)) (fun _ => ?_)
  refine lv_aload_n hx hb dX10_number_11 rfl (lv_at hl 4 rfl) ?_
  refine va_get (D := D) (ci := 4) (v := .int 0) (C := RX0) (T := TX0) (N := 3) hx hb hts (by decide +kernel) hown hK hP 0 rfl rfl 1 (by decide) (hts (.fieldLink RX10 13 "SignetRing$Span" "from" "I") (by decide +kernel)) (fun _ h9 => h9) rfl dX10_number_12 ?_
  refine lv_iload_n hx hb dX10_number_15 rfl (lv_at hl 5 rfl) ?_
  refine lv_iadd hx hb dX10_number_16 ?_
  refine lv_topi (fun v6 ev6 => ?_)
  have ev6 : v6 = 52 := ev6.trans (by decide +kernel)
  subst ev6
  refine lv_iload hx hb dX10_number_17 (lv_at hl 0 rfl) ?_
  refine lv_iadd hx hb dX10_number_19 ?_
  refine lv_topi (fun v7 ev7 => ?_)
  have ev7 : v7 = 53 := ev7.trans (by decide +kernel)
  subst ev7
  refine lv_istore (lv' := [(6, .int 53), (5, .int 1), (3, .long 0), (7, .int 0), (0, .ref h0), (1, .int 52), (2, .int 4)]) hx hb dX10_number_20 hl (by decide) rfl (fun ls hl => ?_)
  refine lv_iload_n hx hb dX10_number_22 rfl (lv_at hl 5 rfl) ?_
  refine lv_if_lt (tgt := 56) hx hb dX10_number_23 (by decide) (fun c9 => absurd c9 (by decide)) (fun _ => ?_)
  refine lv_iload_n hx hb dX10_number_26 rfl (lv_at hl 5 rfl) ?_
  refine lv_iload hx hb dX10_number_27 (lv_at hl 1 rfl) ?_
  refine lv_iadd hx hb dX10_number_29 ?_
  refine lv_topi (fun v8 ev8 => ?_)
  have ev8 : v8 = 53 := ev8.trans (by decide +kernel)
  subst ev8
  refine lv_aload_n hx hb dX10_number_30 rfl (lv_at hl 4 rfl) ?_
  refine va_get (D := D) (ci := 4) (v := .int 0) (C := RX0) (T := TX0) (N := 3) hx hb hts (by decide +kernel) hown hK hP 0 rfl rfl 2 (by decide) (hts (.fieldLink RX10 17 "SignetRing$Span" "size" "I") (by decide +kernel)) (fun _ h9 => h9) rfl dX10_number_31 ?_
  refine lv_icmp_ge (tgt := 56) hx hb dX10_number_34 (by decide) (fun _ => ?_) (fun c9 => absurd (by decide) c9)
  refine lv_iconst (v := 0) hx hb dX10_number_56 (by decide) ?_
  refine lv_istore (lv' := [(7, .int 0), (6, .int 53), (5, .int 1), (3, .long 0), (0, .ref h0), (1, .int 52), (2, .int 4)]) hx hb dX10_number_57 hl (by decide) rfl (fun ls hl => ?_)
  refine lv_lload_n hx hb dX10_number_59 rfl (lv_at hl 3 rfl) ?_
  refine lv_bipush (v := 8) hx hb dX10_number_60 (by decide) ?_
  refine lv_lshl hx hb dX10_number_62 rfl ?_
  refine lv_topl (fun v9 ev9 => ?_)
  have ev9 : v9 = 0 := ev9.trans (by decide +kernel)
  subst ev9
  refine lv_iload hx hb dX10_number_63 (lv_at hl 0 rfl) ?_
  refine lv_if_eq (tgt := 82) hx hb dX10_number_65 (by decide) (fun _ => ?_) (fun c9 => absurd (by decide) c9)
  refine lv_iconst (v := 0) hx hb dX10_number_82 (by decide) ?_
  refine lv_i2l (v := 0) hx hb dX10_number_83 (by decide +kernel) ?_
  refine lv_lor hx hb dX10_number_84 ?_
  refine lv_topl (fun v10 ev10 => ?_)
  have ev10 : v10 = 0 := ev10.trans (by decide +kernel)
  subst ev10
  refine lv_lstore_n (lv' := [(3, .long 0), (7, .int 0), (6, .int 53), (5, .int 1), (0, .ref h0), (1, .int 52), (2, .int 4)]) hx hb dX10_number_85 rfl hl (by decide) rfl (fun ls hl => ?_)
  refine lv_iinc (v := 2) (lv' := [(5, .int 2), (3, .long 0), (7, .int 0), (6, .int 53), (0, .ref h0), (1, .int 52), (2, .int 4)]) hx hb dX10_number_86 hl (k := 3) rfl (by decide) (by decide) rfl (fun ls hl => ?_)
  refine lv_goto (tgt := 5) hx hb dX10_number_89 (by decide) ?_
  refine lv_iload hx hb dX10_number_5 (lv_at hl 0 rfl) ?_
  refine lv_iload_n hx hb dX10_number_7 rfl (lv_at hl 6 rfl) ?_
  refine lv_icmp_ge (tgt := 92) hx hb dX10_number_8 (by decide) (fun c9 => absurd c9 (by decide)) (fun _ => ?_)
  refine lv_aload_n hx hb dX10_number_11 rfl (lv_at hl 4 rfl) ?_
  refine va_get (D := D) (ci := 4) (v := .int 0) (C := RX0) (T := TX0) (N := 3) hx hb hts (by decide +kernel) hown hK hP 0 rfl rfl 1 (by decide) (hts (.fieldLink RX10 13 "SignetRing$Span" "from" "I") (by decide +kernel)) (fun _ h9 => h9) rfl dX10_number_12 ?_
  refine lv_iload_n hx hb dX10_number_15 rfl (lv_at hl 5 rfl) ?_
  refine lv_iadd hx hb dX10_number_16 ?_
  refine lv_topi (fun v11 ev11 => ?_)
  have ev11 : v11 = 52 := ev11.trans (by decide +kernel)
  subst ev11
  refine lv_iload hx hb dX10_number_17 (lv_at hl 0 rfl) ?_
  refine lv_iadd hx hb dX10_number_19 ?_
  refine lv_topi (fun v12 ev12 => ?_)
  have ev12 : v12 = 54 := ev12.trans (by decide +kernel)
  subst ev12
  refine lv_istore (lv' := [(6, .int 54), (5, .int 2), (3, .long 0), (7, .int 0), (0, .ref h0), (1, .int 52), (2, .int 4)]) hx hb dX10_number_20 hl (by decide) rfl (fun ls hl => ?_)
  refine lv_iload_n hx hb dX10_number_22 rfl (lv_at hl 5 rfl) ?_
  refine lv_if_lt (tgt := 56) hx hb dX10_number_23 (by decide) (fun c9 => absurd c9 (by decide)) (fun _ => ?_)
  refine lv_iload_n hx hb dX10_number_26 rfl (lv_at hl 5 rfl) ?_
  refine lv_iload hx hb dX10_number_27 (lv_at hl 1 rfl) ?_
  refine lv_iadd hx hb dX10_number_29 ?_
  refine lv_topi (fun v13 ev13 => ?_)
  have ev13 : v13 = 54 := ev13.trans (by decide +kernel)
  subst ev13
  refine lv_aload_n hx hb dX10_number_30 rfl (lv_at hl 4 rfl) ?_
  refine va_get (D := D) (ci := 4) (v := .int 0) (C := RX0) (T := TX0) (N := 3) hx hb hts (by decide +kernel) hown hK hP 0 rfl rfl 2 (by decide) (hts (.fieldLink RX10 17 "SignetRing$Span" "size" "I") (by decide +kernel)) (fun _ h9 => h9) rfl dX10_number_31 ?_
  refine lv_icmp_ge (tgt := 56) hx hb dX10_number_34 (by decide) (fun _ => ?_) (fun c9 => absurd (by decide) c9)
  refine lv_iconst (v := 0) hx hb dX10_number_56 (by decide) ?_
  refine lv_istore (lv' := [(7, .int 0), (6, .int 54), (5, .int 2), (3, .long 0), (0, .ref h0), (1, .int 52), (2, .int 4)]) hx hb dX10_number_57 hl (by decide) rfl (fun ls hl => ?_)
  refine lv_lload_n hx hb dX10_number_59 rfl (lv_at hl 3 rfl) ?_
  refine lv_bipush (v := 8) hx hb dX10_number_60 (by decide) ?_
  refine lv_lshl hx hb dX10_number_62 rfl ?_
  refine lv_topl (fun v14 ev14 => ?_)
  have ev14 : v14 = 0 := ev14.trans (by decide +kernel)
  subst ev14
  refine lv_iload hx hb dX10_number_63 (lv_at hl 0 rfl) ?_
  refine lv_if_eq (tgt := 82) hx hb dX10_number_65 (by decide) (fun _ => ?_) (fun c9 => absurd (by decide) c9)
  refine lv_iconst (v := 0) hx hb dX10_number_82 (by decide) ?_
  refine lv_i2l (v := 0) hx hb dX10_number_83 (by decide +kernel) ?_
  refine lv_lor hx hb dX10_number_84 ?_
  refine lv_topl (fun v15 ev15 => ?_)
  have ev15 : v15 = 0 := ev15.trans (by decide +kernel)
  subst ev15
  refine lv_lstore_n (lv' := [(3, .long 0), (7, .int 0), (6, .int 54), (5, .int 2), (0, .ref h0), (1, .int 52), (2, .int 4)]) hx hb dX10_number_85 rfl hl (by decide) rfl (fun ls hl => ?_)
  refine lv_iinc (v := 3) (lv' := [(5, .int 3), (3, .long 0), (7, .int 0), (6, .int 54), (0, .ref h0), (1, .int 52), (2, .int 4)]) hx hb dX10_number_86 hl (k := 3) rfl (by decide) (by decide) rfl (fun ls hl => ?_)
  refine lv_goto (tgt := 5) hx hb dX10_number_89 (by decide) ?_
  refine lv_iload hx hb dX10_number_5 (lv_at hl 0 rfl) ?_
  refine lv_iload_n hx hb dX10_number_7 rfl (lv_at hl 6 rfl) ?_
  refine lv_icmp_ge (tgt := 92) hx hb dX10_number_8 (by decide) (fun c9 => absurd c9 (by decide)) (fun _ => ?_)
  refine lv_aload_n hx hb dX10_number_11 rfl (lv_at hl 4 rfl) ?_
  refine va_get (D := D) (ci := 4) (v := .int 0) (C := RX0) (T := TX0) (N := 3) hx hb hts (by decide +kernel) hown hK hP 0 rfl rfl 1 (by decide) (hts (.fieldLink RX10 13 "SignetRing$Span" "from" "I") (by decide +kernel)) (fun _ h9 => h9) rfl dX10_number_12 ?_
  refine lv_iload_n hx hb dX10_number_15 rfl (lv_at hl 5 rfl) ?_
  refine lv_iadd hx hb dX10_number_16 ?_
  refine lv_topi (fun v16 ev16 => ?_)
  have ev16 : v16 = 52 := ev16.trans (by decide +kernel)
  subst ev16
  refine lv_iload hx hb dX10_number_17 (lv_at hl 0 rfl) ?_
  refine lv_iadd hx hb dX10_number_19 ?_
  refine lv_topi (fun v17 ev17 => ?_)
  have ev17 : v17 = 55 := ev17.trans (by decide +kernel)
  subst ev17
  refine lv_istore (lv' := [(6, .int 55), (5, .int 3), (3, .long 0), (7, .int 0), (0, .ref h0), (1, .int 52), (2, .int 4)]) hx hb dX10_number_20 hl (by decide) rfl (fun ls hl => ?_)
  refine lv_iload_n hx hb dX10_number_22 rfl (lv_at hl 5 rfl) ?_
  refine lv_if_lt (tgt := 56) hx hb dX10_number_23 (by decide) (fun c9 => absurd c9 (by decide)) (fun _ => ?_)
  refine lv_iload_n hx hb dX10_number_26 rfl (lv_at hl 5 rfl) ?_
  refine lv_iload hx hb dX10_number_27 (lv_at hl 1 rfl) ?_
  refine lv_iadd hx hb dX10_number_29 ?_
  refine lv_topi (fun v18 ev18 => ?_)
  have ev18 : v18 = 55 := ev18.trans (by decide +kernel)
  subst ev18
  refine lv_aload_n hx hb dX10_number_30 rfl (lv_at hl 4 rfl) ?_
  refine va_get (D := D) (ci := 4) (v := .int 0) (C := RX0) (T := TX0) (N := 3) hx hb hts (by decide +kernel) hown hK hP 0 rfl rfl 2 (by decide) (hts (.fieldLink RX10 17 "SignetRing$Span" "size" "I") (by decide +kernel)) (fun _ h9 => h9) rfl dX10_number_31 ?_
  refine lv_icmp_ge (tgt := 56) hx hb dX10_number_34 (by decide) (fun _ => ?_) (fun c9 => absurd (by decide) c9)
  refine lv_iconst (v := 0) hx hb dX10_number_56 (by decide) ?_
  refine lv_istore (lv' := [(7, .int 0), (6, .int 55), (5, .int 3), (3, .long 0), (0, .ref h0), (1, .int 52), (2, .int 4)]) hx hb dX10_number_57 hl (by decide) rfl (fun ls hl => ?_)
  refine lv_lload_n hx hb dX10_number_59 rfl (lv_at hl 3 rfl) ?_
  refine lv_bipush (v := 8) hx hb dX10_number_60 (by decide) ?_
  refine lv_lshl hx hb dX10_number_62 rfl ?_
  refine lv_topl (fun v19 ev19 => ?_)
  have ev19 : v19 = 0 := ev19.trans (by decide +kernel)
  subst ev19
  refine lv_iload hx hb dX10_number_63 (lv_at hl 0 rfl) ?_
  refine lv_if_eq (tgt := 82) hx hb dX10_number_65 (by decide) (fun _ => ?_) (fun c9 => absurd (by decide) c9)
  refine lv_iconst (v := 0) hx hb dX10_number_82 (by decide) ?_
  refine lv_i2l (v := 0) hx hb dX10_number_83 (by decide +kernel) ?_
  refine lv_lor hx hb dX10_number_84 ?_
  refine lv_topl (fun v20 ev20 => ?_)
  have ev20 : v20 = 0 := ev20.trans (by decide +kernel)
  subst ev20
  refine lv_lstore_n (lv' := [(3, .long 0), (7, .int 0), (6, .int 55), (5, .int 3), (0, .ref h0), (1, .int 52), (2, .int 4)]) hx hb dX10_number_85 rfl hl (by decide) rfl (fun ls hl => ?_)
  refine lv_iinc (v := 4) (lv' := [(5, .int 4), (3, .long 0), (7, .int 0), (6, .int 55), (0, .ref h0), (1, .int 52), (2, .int 4)]) hx hb dX10_number_86 hl (k := 3) rfl (by decide) (by decide) rfl (fun ls hl => ?_)
  refine lv_goto (tgt := 5) hx hb dX10_number_89 (by decide) ?_
  refine lv_iload hx hb dX10_number_5 (lv_at hl 0 rfl) ?_
  refine lv_iload_n hx hb dX10_number_7 rfl (lv_at hl 6 rfl) ?_
  refine lv_icmp_ge (tgt := 92) hx hb dX10_number_8 (by decide) (fun _ => ?_) (fun c9 => absurd (by decide) c9)
  refine lv_lload_n hx hb dX10_number_92 rfl (lv_at hl 1 rfl) ?_
  have hP9 := hP.sub (ws' := [(h0, .inr (4, [w1, .int 0, .int 0]))]) [0] rfl
  have hD9 := hD.sub (ws' := [(h0, .inr (4, [w1, .int 0, .int 0]))]) [0] (by decide) rfl
  refine W.widen (k := 0) (n := 0) (Nat.le_of_ble_eq_true rfl) (Nat.le_of_ble_eq_true rfl) ?_
  exact W.lret (v := 0) hx hb hr (fun t ht hW => ⟨⟨0, (), rfl, rfl, by rw [ht]; exact hP9, hD9⟩, hS.F ht⟩) hS.2.2 dX10_number_93
def wz_c_X1_wordOf_52 : List Cond := .code yX1_wordOf cX1_wordOf 4 (some .int) :: ([.methodLink RX1 44 ⟨"SignetRing$Span", "number", "(II)J"⟩, .sameMethod "SignetRing$Span" "SignetRing$Span" "number" "(II)J", .selects RX0 ⟨"SignetRing$Span", "number", "(II)J"⟩ yX10_number, .instanceMethod yX10_number, .initialized RX10, .fieldLink RX1 28 "SignetRing$Span" "size" "I"] ++ (wsX00 ++ (wz_c_num4_52 ++ ([]))))
set_option maxRecDepth 100000 in
theorem gz_c_X1_wordOf_52_c_num4_52 : GoodIn wz_c_X1_wordOf_52 wz_c_num4_52 := goodIn_sub (fun w h => List.mem_cons_of_mem _ (List.mem_append_right _ (List.mem_append_right _ (List.mem_append_left _ h)))) (by decide +kernel)
set_option maxRecDepth 100000 in
theorem gv_c_X1_wordOf_52_c_num4_52_44 : GoodIn wz_c_X1_wordOf_52 (va_wsU RX1 44 RX0 "SignetRing$Span" ⟨"SignetRing$Span", "number", "(II)J"⟩ yX10_number wz_c_num4_52) := goodIn_app (goodIn_of _ (by decide +kernel)) gz_c_X1_wordOf_52_c_num4_52
set_option maxHeartbeats 4000000 in
set_option maxRecDepth 100000 in
theorem c_X1_wordOf_52 (l : Launch) (D : va_G) (y : Nat → ClassId) (sz : Nat) (h0 : Nat) (w1 : Value) : Met l yX1_wordOf wz_c_X1_wordOf_52 ({ frames := 1, cells := 0, slots := 0, locals := 27 }) (va_Pc [.ref h0, .int 52] (zB D y [(h0, .inr (4, [w1, .int 0, .int 0]))] sz [] [] [] [])) (va_Qi (fun (r : Int32) (_ : Unit) => r = 0) (fun _ t => va_P D vwCl [(h0, .inr (4, [w1, .int 0, .int 0]))] t.heap ∧ va_D (va_A [(h0, .inr (4, [w1, .int 0, .int 0]))] sz) [(h0, .inr (4, [w1, .int 0, .int 0]))]) (va_A [(h0, .inr (4, [w1, .int 0, .int 0]))] sz)) 0 0 (va_A [(h0, .inr (4, [w1, .int 0, .int 0]))] sz) := by
  refine Met.ofW (cc := cX1_wordOf) (maxL := 4) (ret := (some .int)) (by decide) rfl ?_
  intro p e s m args below meth c s₁ B hml hv
  obtain ⟨rfl, hsz, hP, hK, hD0, hN, hE, hO, hT, hG⟩ := hv
  have hx := B.exec
  have hb := B.bytes
  have hr := B.returns
  have hts := atoms_spec (ws := wz_c_X1_wordOf_52) B.pre
  have hown : s.vm.findClass RX1 = some m.cls := findClass_of_methodNamed B.named
  have hlocks := B.notSynchronized
  subst hsz
  have hD := hD0.self (sz := s.heap.size)
  generalize hAe : va_A [(h0, .inr (4, [w1, .int 0, .int 0]))] s.heap.size = A at hD hE hT hG ⊢
  have hA : ∀ q : Nat, s.heap.size ≤ q → A q := fun q h => by rw [← hAe]; exact Or.inr h
  have hS : va_S A s.heap s.heap [] := va_S.rf
  have hl := lv_entry ([.ref h0, .int 52]) (n := 4) (Nat.le_of_ble_eq_true rfl)
  rw [lg_entry_eq]
  generalize (lg_sl ([.ref h0, .int 52]) ++ List.replicate (4 - (lg_sl ([.ref h0, .int 52])).length) Slot.unset).toArray = ls at hl ⊢
  have hl : lv_has ls 4 [(0, .ref h0), (1, .int 52)] := hl
  refine lv_aload_n hx hb dX1_wordOf_0 rfl (lv_at hl 0 rfl) ?_
  refine lv_iload_n hx hb dX1_wordOf_1 rfl (lv_at hl 1 rfl) ?_
  refine lv_iconst (v := 4) hx hb dX1_wordOf_2 (by decide) ?_
  have hPc := hP.sub (ws' := [(h0, .inr (4, [w1, .int 0, .int 0]))]) [0] rfl
  have hDc := hD.sub (ws' := [(h0, .inr (4, [w1, .int 0, .int 0]))]) [0] (by decide) rfl
  have hFc := va_free (wc := [(h0, .inr (4, [w1, .int 0, .int 0]))]) hD hS hA [0] rfl
  refine va_calll (va_runU (As := [.int 52, .int 4]) (rest := []) ⟨hx, hb, hml, hown, hts⟩ (c_num4_52 l D y s.heap.size h0 w1) (va_cwU 2 hts gv_c_X1_wordOf_52_c_num4_52_44 rfl rfl rfl rfl (by decide +kernel) ⟨(Nat.le_of_ble_eq_true rfl), (Nat.le_of_ble_eq_true rfl)⟩) (zB.preV hPc hDc hK hN hE hO hT hG hS hFc (fun _ h => nomatch h) (fun _ h => nomatch h) (fun _ h => nomatch h) (fun _ h => nomatch h) (va_recv hK hPc (ci := 4) (q0 := 0) rfl rfl)) rfl rfl hl.1 rfl (lv_room (Nat.le_of_ble_eq_true rfl)) dX1_wordOf_3 ⟨(Nat.le_of_ble_eq_true rfl), (Nat.le_of_ble_eq_true rfl)⟩) hS (fun q _ h => hFc q h) hFc (fun r1 u t H1 locs ht hvm hw hB hz1 hk1 hS => ?_)
  obtain ⟨hP1, hD1⟩ := hB
  rw [ht] at hP1
  obtain ⟨hP, hD⟩ := va_join (wr := []) (w1 := [(h0, .inr (4, [w1, .int 0, .int 0]))]) hP hD [0] [] rfl rfl (by decide) (by decide) hk1 hFc hP1 hD1
  generalize H1 = H at hP hS ⊢
  have hP : va_P D vwCl [(h0, .inr (4, [w1, .int 0, .int 0]))] H := hP
  have hD : va_D A [(h0, .inr (4, [w1, .int 0, .int 0]))] := hD
  have hw : r1 = 0 := hw
  subst hw
  refine lv_l2i (v := 0) hx hb dX1_wordOf_6 (by decide +kernel) ?_
  refine lv_istore_n (lv' := [(2, .int 0), (0, .ref h0), (1, .int 52)]) hx hb dX1_wordOf_7 rfl hl (by decide) rfl (fun ls hl => ?_)
  refine lv_aload_n hx hb dX1_wordOf_8 rfl (lv_at hl 1 rfl) ?_
  refine va_get (D := D) (ci := 4) (v := .int 0) (C := RX0) (T := TX0) (N := 3) hx hb hts (by decide +kernel) hown hK hP 0 rfl rfl 2 (by decide) (hts (.fieldLink RX1 28 "SignetRing$Span" "size" "I") (by decide +kernel)) (fun _ h9 => h9) rfl dX1_wordOf_9 ?_
  refine lv_iload_n hx hb dX1_wordOf_12 rfl (lv_at hl 2 rfl) ?_
  refine lv_isub hx hb dX1_wordOf_13 ?_
  refine lv_topi (fun v2 ev2 => ?_)
  have ev2 : v2 = -52 := ev2.trans (by decide +kernel)
  subst ev2
  refine lv_istore_n (lv' := [(3, .int (-52)), (2, .int 0), (0, .ref h0), (1, .int 52)]) hx hb dX1_wordOf_14 rfl hl (by decide) rfl (fun ls hl => ?_)
  refine lv_iload_n hx hb dX1_wordOf_15 rfl (lv_at hl 0 rfl) ?_
  refine lv_if_lt (tgt := 40) hx hb dX1_wordOf_16 (by decide) (fun _ => ?_) (fun c9 => absurd (by decide) c9)
  refine lv_iload_n hx hb dX1_wordOf_40 rfl (lv_at hl 1 rfl) ?_
  have hP9 := hP.sub (ws' := [(h0, .inr (4, [w1, .int 0, .int 0]))]) [0] rfl
  have hD9 := hD.sub (ws' := [(h0, .inr (4, [w1, .int 0, .int 0]))]) [0] (by decide) rfl
  refine W.widen (k := 0) (n := 0) (Nat.le_of_ble_eq_true rfl) (Nat.le_of_ble_eq_true rfl) ?_
  exact W.iret (v := 0) hx hb hr (fun t ht hW => ⟨⟨0, (), rfl, rfl, by rw [ht]; exact hP9, hD9⟩, hS.F ht⟩) hS.2.2 dX1_wordOf_41
def wz_c_num4_56 : List Cond := .code yX10_number cX10_number 8 (some .long) :: ([.fieldLink RX10 13 "SignetRing$Span" "from" "I", .fieldLink RX10 17 "SignetRing$Span" "size" "I"] ++ (wsX00 ++ ([])))
set_option maxHeartbeats 4000000 in
set_option maxRecDepth 100000 in
theorem c_num4_56 (l : Launch) (D : va_G) (y : Nat → ClassId) (sz : Nat) (h0 : Nat) (w1 : Value) : Met l yX10_number wz_c_num4_56 ({ frames := 0, cells := 0, slots := 0, locals := 0 }) (va_Pc [.ref h0, .int 56, .int 4] (zB D y [(h0, .inr (4, [w1, .int 0, .int 0]))] sz [] [] [] [])) (va_Ql (fun (r : Int64) (_ : Unit) => r = 0) (fun _ t => va_P D vwCl [(h0, .inr (4, [w1, .int 0, .int 0]))] t.heap ∧ va_D (va_A [(h0, .inr (4, [w1, .int 0, .int 0]))] sz) [(h0, .inr (4, [w1, .int 0, .int 0]))]) (va_A [(h0, .inr (4, [w1, .int 0, .int 0]))] sz)) 0 0 (va_A [(h0, .inr (4, [w1, .int 0, .int 0]))] sz) := by
  refine Met.ofW (cc := cX10_number) (maxL := 8) (ret := (some .long)) (by decide) rfl ?_
  intro p e s m args below meth c s₁ B hml hv
  obtain ⟨rfl, hsz, hP, hK, hD0, hN, hE, hO, hT, hG⟩ := hv
  have hx := B.exec
  have hb := B.bytes
  have hr := B.returns
  have hts := atoms_spec (ws := wz_c_num4_56) B.pre
  have hown : s.vm.findClass RX10 = some m.cls := findClass_of_methodNamed B.named
  have hlocks := B.notSynchronized
  subst hsz
  have hD := hD0.self (sz := s.heap.size)
  generalize hAe : va_A [(h0, .inr (4, [w1, .int 0, .int 0]))] s.heap.size = A at hD hE hT hG ⊢
  have hA : ∀ q : Nat, s.heap.size ≤ q → A q := fun q h => by rw [← hAe]; exact Or.inr h
  have hS : va_S A s.heap s.heap [] := va_S.rf
  have hl := lv_entry ([.ref h0, .int 56, .int 4]) (n := 8) (Nat.le_of_ble_eq_true rfl)
  rw [lg_entry_eq]
  generalize (lg_sl ([.ref h0, .int 56, .int 4]) ++ List.replicate (8 - (lg_sl ([.ref h0, .int 56, .int 4])).length) Slot.unset).toArray = ls at hl ⊢
  have hl : lv_has ls 8 [(0, .ref h0), (1, .int 56), (2, .int 4)] := hl
  refine lv_lconst (v := 0) hx hb dX10_number_0 (by decide) ?_
  refine lv_lstore_n (lv' := [(3, .long 0), (0, .ref h0), (1, .int 56), (2, .int 4)]) hx hb dX10_number_1 rfl hl (by decide) rfl (fun ls hl => ?_)
  refine lv_iconst (v := 0) hx hb dX10_number_2 (by decide) ?_
  refine lv_istore (lv' := [(5, .int 0), (3, .long 0), (0, .ref h0), (1, .int 56), (2, .int 4)]) hx hb dX10_number_3 hl (by decide) rfl (fun ls hl => ?_)
  refine lv_iload hx hb dX10_number_5 (lv_at hl 0 rfl) ?_
  refine lv_iload_n hx hb dX10_number_7 rfl (lv_at hl 4 rfl) ?_
  refine lv_icmp_ge (tgt := 92) hx hb dX10_number_8 (by decide) (fun c9 => absurd c9 (by decide)) (fun _ => ?_)
  refine lv_aload_n hx hb dX10_number_11 rfl (lv_at hl 2 rfl) ?_
  refine va_get (D := D) (ci := 4) (v := .int 0) (C := RX0) (T := TX0) (N := 3) hx hb hts (by decide +kernel) hown hK hP 0 rfl rfl 1 (by decide) (hts (.fieldLink RX10 13 "SignetRing$Span" "from" "I") (by decide +kernel)) (fun _ h9 => h9) rfl dX10_number_12 ?_
  refine lv_iload_n hx hb dX10_number_15 rfl (lv_at hl 3 rfl) ?_
  refine lv_iadd hx hb dX10_number_16 ?_
  refine lv_topi (fun v1 ev1 => ?_)
  have ev1 : v1 = 56 := ev1.trans (by decide +kernel)
  subst ev1
  refine lv_iload hx hb dX10_number_17 (lv_at hl 0 rfl) ?_
  refine lv_iadd hx hb dX10_number_19 ?_
  refine lv_topi (fun v2 ev2 => ?_)
  have ev2 : v2 = 56 := ev2.trans (by decide +kernel)
  subst ev2
  refine lv_istore (lv' := [(6, .int 56), (5, .int 0), (3, .long 0), (0, .ref h0), (1, .int 56), (2, .int 4)]) hx hb dX10_number_20 hl (by decide) rfl (fun ls hl => ?_)
  refine lv_iload_n hx hb dX10_number_22 rfl (lv_at hl 4 rfl) ?_
  refine lv_if_lt (tgt := 56) hx hb dX10_number_23 (by decide) (fun c9 => absurd c9 (by decide)) (fun _ => ?_)
  refine lv_iload_n hx hb dX10_number_26 rfl (lv_at hl 4 rfl) ?_
  refine lv_iload hx hb dX10_number_27 (lv_at hl 1 rfl) ?_
  refine lv_iadd hx hb dX10_number_29 ?_
  refine lv_topi (fun v3 ev3 => ?_)
  have ev3 : v3 = 56 := ev3.trans (by decide +kernel)
  subst ev3
  refine lv_aload_n hx hb dX10_number_30 rfl (lv_at hl 3 rfl) ?_
  refine va_get (D := D) (ci := 4) (v := .int 0) (C := RX0) (T := TX0) (N := 3) hx hb hts (by decide +kernel) hown hK hP 0 rfl rfl 2 (by decide) (hts (.fieldLink RX10 17 "SignetRing$Span" "size" "I") (by decide +kernel)) (fun _ h9 => h9) rfl dX10_number_31 ?_
  refine lv_icmp_ge (tgt := 56) hx hb dX10_number_34 (by decide) (fun _ => ?_) (fun c9 => absurd (by decide) c9)
  refine lv_iconst (v := 0) hx hb dX10_number_56 (by decide) ?_
  refine lv_istore (lv' := [(7, .int 0), (6, .int 56), (5, .int 0), (3, .long 0), (0, .ref h0), (1, .int 56), (2, .int 4)]) hx hb dX10_number_57 hl (by decide) rfl (fun ls hl => ?_)
  refine lv_lload_n hx hb dX10_number_59 rfl (lv_at hl 3 rfl) ?_
  refine lv_bipush (v := 8) hx hb dX10_number_60 (by decide) ?_
  refine lv_lshl hx hb dX10_number_62 rfl ?_
  refine lv_topl (fun v4 ev4 => ?_)
  have ev4 : v4 = 0 := ev4.trans (by decide +kernel)
  subst ev4
  refine lv_iload hx hb dX10_number_63 (lv_at hl 0 rfl) ?_
  refine lv_if_eq (tgt := 82) hx hb dX10_number_65 (by decide) (fun _ => ?_) (fun c9 => absurd (by decide) c9)
  refine lv_iconst (v := 0) hx hb dX10_number_82 (by decide) ?_
  refine lv_i2l (v := 0) hx hb dX10_number_83 (by decide +kernel) ?_
  refine lv_lor hx hb dX10_number_84 ?_
  refine lv_topl (fun v5 ev5 => ?_)
  have ev5 : v5 = 0 := ev5.trans (by decide +kernel)
  subst ev5
  refine lv_lstore_n (lv' := [(3, .long 0), (7, .int 0), (6, .int 56), (5, .int 0), (0, .ref h0), (1, .int 56), (2, .int 4)]) hx hb dX10_number_85 rfl hl (by decide) rfl (fun ls hl => ?_)
  refine lv_iinc (v := 1) (lv' := [(5, .int 1), (3, .long 0), (7, .int 0), (6, .int 56), (0, .ref h0), (1, .int 56), (2, .int 4)]) hx hb dX10_number_86 hl (k := 3) rfl (by decide) (by decide) rfl (fun ls hl => ?_)
  refine lv_goto (tgt := 5) hx hb dX10_number_89 (by decide) ?_
  refine lv_iload hx hb dX10_number_5 (lv_at hl 0 rfl) ?_
  refine lv_iload_n hx hb dX10_number_7 rfl (lv_at hl 6 rfl) ?_
  refine lv_icmp_ge (tgt := 92) hx hb dX10_number_8 (by decide) (fun c9 => absurd c9 (by decide)) (fun _ => ?_)
  refine lv_aload_n hx hb dX10_number_11 rfl (lv_at hl 4 rfl) ?_
  refine va_get (D := D) (ci := 4) (v := .int 0) (C := RX0) (T := TX0) (N := 3) hx hb hts (by decide +kernel) hown hK hP 0 rfl rfl 1 (by decide) (hts (.fieldLink RX10 13 "SignetRing$Span" "from" "I") (by decide +kernel)) (fun _ h9 => h9) rfl dX10_number_12 ?_
  refine lv_iload_n hx hb dX10_number_15 rfl (lv_at hl 5 rfl) ?_
  refine lv_iadd hx hb dX10_number_16 ?_
  refine lv_topi (fun v6 ev6 => ?_)
  have ev6 : v6 = 56 := ev6.trans (by decide +kernel)
  subst ev6
  refine lv_iload hx hb dX10_number_17 (lv_at hl 0 rfl) ?_
  refine lv_iadd hx hb dX10_number_19 ?_
  refine lv_topi (fun v7 ev7 => ?_)
  have ev7 : v7 = 57 := ev7.trans (by decide +kernel)
  subst ev7
  refine lv_istore (lv' := [(6, .int 57), (5, .int 1), (3, .long 0), (7, .int 0), (0, .ref h0), (1, .int 56), (2, .int 4)]) hx hb dX10_number_20 hl (by decide) rfl (fun ls hl => ?_)
  refine lv_iload_n hx hb dX10_number_22 rfl (lv_at hl 5 rfl) ?_
  refine lv_if_lt (tgt := 56) hx hb dX10_number_23 (by decide) (fun c9 => absurd c9 (by decide)) (fun _ => ?_)
  refine lv_iload_n hx hb dX10_number_26 rfl (lv_at hl 5 rfl) ?_
  refine lv_iload hx hb dX10_number_27 (lv_at hl 1 rfl) ?_
  refine lv_iadd hx hb dX10_number_29 ?_
  refine lv_topi (fun v8 ev8 => ?_)
  have ev8 : v8 = 57 := ev8.trans (by decide +kernel)
  subst ev8
  refine lv_aload_n hx hb dX10_number_30 rfl (lv_at hl 4 rfl) ?_
  refine va_get (D := D) (ci := 4) (v := .int 0) (C := RX0) (T := TX0) (N := 3) hx hb hts (by decide +kernel) hown hK hP 0 rfl rfl 2 (by decide) (hts (.fieldLink RX10 17 "SignetRing$Span" "size" "I") (by decide +kernel)) (fun _ h9 => h9) rfl dX10_number_31 ?_
  refine lv_icmp_ge (tgt := 56) hx hb dX10_number_34 (by decide) (fun _ => ?_) (fun c9 => absurd (by decide) c9)
  refine lv_iconst (v := 0) hx hb dX10_number_56 (by decide) ?_
  refine lv_istore (lv' := [(7, .int 0), (6, .int 57), (5, .int 1), (3, .long 0), (0, .ref h0), (1, .int 56), (2, .int 4)]) hx hb dX10_number_57 hl (by decide) rfl (fun ls hl => ?_)
  refine lv_lload_n hx hb dX10_number_59 rfl (lv_at hl 3 rfl) ?_
  refine lv_bipush (v := 8) hx hb dX10_number_60 (by decide) ?_
  refine lv_lshl hx hb dX10_number_62 rfl ?_
  refine lv_topl (fun v9 ev9 => ?_)
  have ev9 : v9 = 0 := ev9.trans (by decide +kernel)
  subst ev9
  refine lv_iload hx hb dX10_number_63 (lv_at hl 0 rfl) ?_
  refine lv_if_eq (tgt := 82) hx hb dX10_number_65 (by decide) (fun _ => ?_) (fun c9 => absurd (by decide) c9)
  refine lv_iconst (v := 0) hx hb dX10_number_82 (by decide) ?_
  refine lv_i2l (v := 0) hx hb dX10_number_83 (by decide +kernel) ?_
  refine lv_lor hx hb dX10_number_84 ?_
  refine lv_topl (fun v10 ev10 => ?_)
  have ev10 : v10 = 0 := ev10.trans (by decide +kernel)
  subst ev10
  refine lv_lstore_n (lv' := [(3, .long 0), (7, .int 0), (6, .int 57), (5, .int 1), (0, .ref h0), (1, .int 56), (2, .int 4)]) hx hb dX10_number_85 rfl hl (by decide) rfl (fun ls hl => ?_)
  refine lv_iinc (v := 2) (lv' := [(5, .int 2), (3, .long 0), (7, .int 0), (6, .int 57), (0, .ref h0), (1, .int 56), (2, .int 4)]) hx hb dX10_number_86 hl (k := 3) rfl (by decide) (by decide) rfl (fun ls hl => ?_)
  refine lv_goto (tgt := 5) hx hb dX10_number_89 (by decide) ?_
  refine lv_iload hx hb dX10_number_5 (lv_at hl 0 rfl) ?_
  refine lv_iload_n hx hb dX10_number_7 rfl (lv_at hl 6 rfl) ?_
  refine lv_icmp_ge (tgt := 92) hx hb dX10_number_8 (by decide) (fun c9 => absurd c9 (by decide)) (fun _ => ?_)
  refine lv_aload_n hx hb dX10_number_11 rfl (lv_at hl 4 rfl) ?_
  refine va_get (D := D) (ci := 4) (v := .int 0) (C := RX0) (T := TX0) (N := 3) hx hb hts (by decide +kernel) hown hK hP 0 rfl rfl 1 (by decide) (hts (.fieldLink RX10 13 "SignetRing$Span" "from" "I") (by decide +kernel)) (fun _ h9 => h9) rfl dX10_number_12 ?_
  refine lv_iload_n hx hb dX10_number_15 rfl (lv_at hl 5 rfl) ?_
  refine lv_iadd hx hb dX10_number_16 ?_
  refine lv_topi (fun v11 ev11 => ?_)
  have ev11 : v11 = 56 := ev11.trans (by decide +kernel)
  subst ev11
  refine lv_iload hx hb dX10_number_17 (lv_at hl 0 rfl) ?_
  refine lv_iadd hx hb dX10_number_19 ?_
  refine lv_topi (fun v12 ev12 => ?_)
  have ev12 : v12 = 58 := ev12.trans (by decide +kernel)
  subst ev12
  refine lv_istore (lv' := [(6, .int 58), (5, .int 2), (3, .long 0), (7, .int 0), (0, .ref h0), (1, .int 56), (2, .int 4)]) hx hb dX10_number_20 hl (by decide) rfl (fun ls hl => ?_)
  refine lv_iload_n hx hb dX10_number_22 rfl (lv_at hl 5 rfl) ?_
  refine lv_if_lt (tgt := 56) hx hb dX10_number_23 (by decide) (fun c9 => absurd c9 (by decide)) (fun _ => ?_)
  refine lv_iload_n hx hb dX10_number_26 rfl (lv_at hl 5 rfl) ?_
  refine lv_iload hx hb dX10_number_27 (lv_at hl 1 rfl) ?_
  refine lv_iadd hx hb dX10_number_29 ?_
  refine lv_topi (fun v13 ev13 => ?_)
  have ev13 : v13 = 58 := ev13.trans (by decide +kernel)
  subst ev13
  refine lv_aload_n hx hb dX10_number_30 rfl (lv_at hl 4 rfl) ?_
  refine va_get (D := D) (ci := 4) (v := .int 0) (C := RX0) (T := TX0) (N := 3) hx hb hts (by decide +kernel) hown hK hP 0 rfl rfl 2 (by decide) (hts (.fieldLink RX10 17 "SignetRing$Span" "size" "I") (by decide +kernel)) (fun _ h9 => h9) rfl dX10_number_31 ?_
  refine lv_icmp_ge (tgt := 56) hx hb dX10_number_34 (by decide) (fun _ => ?_) (fun c9 => absurd (by decide) c9)
  refine lv_iconst (v := 0) hx hb dX10_number_56 (by decide) ?_
  refine lv_istore (lv' := [(7, .int 0), (6, .int 58), (5, .int 2), (3, .long 0), (0, .ref h0), (1, .int 56), (2, .int 4)]) hx hb dX10_number_57 hl (by decide) rfl (fun ls hl => ?_)
  refine lv_lload_n hx hb dX10_number_59 rfl (lv_at hl 3 rfl) ?_
  refine lv_bipush (v := 8) hx hb dX10_number_60 (by decide) ?_
  refine lv_lshl hx hb dX10_number_62 rfl ?_
  refine lv_topl (fun v14 ev14 => ?_)
  have ev14 : v14 = 0 := ev14.trans (by decide +kernel)
  subst ev14
  refine lv_iload hx hb dX10_number_63 (lv_at hl 0 rfl) ?_
  refine lv_if_eq (tgt := 82) hx hb dX10_number_65 (by decide) (fun _ => ?_) (fun c9 => absurd (by decide) c9)
  refine lv_iconst (v := 0) hx hb dX10_number_82 (by decide) ?_
  refine lv_i2l (v := 0) hx hb dX10_number_83 (by decide +kernel) ?_
  refine lv_lor hx hb dX10_number_84 ?_
  refine lv_topl (fun v15 ev15 => ?_)
  have ev15 : v15 = 0 := ev15.trans (by decide +kernel)
  subst ev15
  refine lv_lstore_n (lv' := [(3, .long 0), (7, .int 0), (6, .int 58), (5, .int 2), (0, .ref h0), (1, .int 56), (2, .int 4)]) hx hb dX10_number_85 rfl hl (by decide) rfl (fun ls hl => ?_)
  refine lv_iinc (v := 3) (lv' := [(5, .int 3), (3, .long 0), (7, .int 0), (6, .int 58), (0, .ref h0), (1, .int 56), (2, .int 4)]) hx hb dX10_number_86 hl (k := 3) rfl (by decide) (by decide) rfl (fun ls hl => ?_)
  refine lv_goto (tgt := 5) hx hb dX10_number_89 (by decide) ?_
  refine lv_iload hx hb dX10_number_5 (lv_at hl 0 rfl) ?_
  refine lv_iload_n hx hb dX10_number_7 rfl (lv_at hl 6 rfl) ?_
  refine lv_icmp_ge (tgt := 92) hx hb dX10_number_8 (by decide) (fun c9 => absurd c9 (by decide)) (fun _ => ?_)
  refine lv_aload_n hx hb dX10_number_11 rfl (lv_at hl 4 rfl) ?_
  refine va_get (D := D) (ci := 4) (v := .int 0) (C := RX0) (T := TX0) (N := 3) hx hb hts (by decide +kernel) hown hK hP 0 rfl rfl 1 (by decide) (hts (.fieldLink RX10 13 "SignetRing$Span" "from" "I") (by decide +kernel)) (fun _ h9 => h9) rfl dX10_number_12 ?_
  refine lv_iload_n hx hb dX10_number_15 rfl (lv_at hl 5 rfl) ?_
  refine lv_iadd hx hb dX10_number_16 ?_
  refine lv_topi (fun v16 ev16 => ?_)
  have ev16 : v16 = 56 := ev16.trans (by decide +kernel)
  subst ev16
  refine lv_iload hx hb dX10_number_17 (lv_at hl 0 rfl) ?_
  refine lv_iadd hx hb dX10_number_19 ?_
  refine lv_topi (fun v17 ev17 => ?_)
  have ev17 : v17 = 59 := ev17.trans (by decide +kernel)
  subst ev17
  refine lv_istore (lv' := [(6, .int 59), (5, .int 3), (3, .long 0), (7, .int 0), (0, .ref h0), (1, .int 56), (2, .int 4)]) hx hb dX10_number_20 hl (by decide) rfl (fun ls hl => ?_)
  refine lv_iload_n hx hb dX10_number_22 rfl (lv_at hl 5 rfl) ?_
  refine lv_if_lt (tgt := 56) hx hb dX10_number_23 (by decide) (fun c9 => absurd c9 (by decide)) (fun _ => ?_)
  refine lv_iload_n hx hb dX10_number_26 rfl (lv_at hl 5 rfl) ?_
  refine lv_iload hx hb dX10_number_27 (lv_at hl 1 rfl) ?_
  refine lv_iadd hx hb dX10_number_29 ?_
  refine lv_topi (fun v18 ev18 => ?_)
  have ev18 : v18 = 59 := ev18.trans (by decide +kernel)
  subst ev18
  refine lv_aload_n hx hb dX10_number_30 rfl (lv_at hl 4 rfl) ?_
  refine va_get (D := D) (ci := 4) (v := .int 0) (C := RX0) (T := TX0) (N := 3) hx hb hts (by decide +kernel) hown hK hP 0 rfl rfl 2 (by decide) (hts (.fieldLink RX10 17 "SignetRing$Span" "size" "I") (by decide +kernel)) (fun _ h9 => h9) rfl dX10_number_31 ?_
  refine lv_icmp_ge (tgt := 56) hx hb dX10_number_34 (by decide) (fun _ => ?_) (fun c9 => absurd (by decide) c9)
  refine lv_iconst (v := 0) hx hb dX10_number_56 (by decide) ?_
  refine lv_istore (lv' := [(7, .int 0), (6, .int 59), (5, .int 3), (3, .long 0), (0, .ref h0), (1, .int 56), (2, .int 4)]) hx hb dX10_number_57 hl (by decide) rfl (fun ls hl => ?_)
  refine lv_lload_n hx hb dX10_number_59 rfl (lv_at hl 3 rfl) ?_
  refine lv_bipush (v := 8) hx hb dX10_number_60 (by decide) ?_
  refine lv_lshl hx hb dX10_number_62 rfl ?_
  refine lv_topl (fun v19 ev19 => ?_)
  have ev19 : v19 = 0 := ev19.trans (by decide +kernel)
  subst ev19
  refine lv_iload hx hb dX10_number_63 (lv_at hl 0 rfl) ?_
  refine lv_if_eq (tgt := 82) hx hb dX10_number_65 (by decide) (fun _ => ?_) (fun c9 => absurd (by decide) c9)
  refine lv_iconst (v := 0) hx hb dX10_number_82 (by decide) ?_
  refine lv_i2l (v := 0) hx hb dX10_number_83 (by decide +kernel) ?_
  refine lv_lor hx hb dX10_number_84 ?_
  refine lv_topl (fun v20 ev20 => ?_)
  have ev20 : v20 = 0 := ev20.trans (by decide +kernel)
  subst ev20
  refine lv_lstore_n (lv' := [(3, .long 0), (7, .int 0), (6, .int 59), (5, .int 3), (0, .ref h0), (1, .int 56), (2, .int 4)]) hx hb dX10_number_85 rfl hl (by decide) rfl (fun ls hl => ?_)
  refine lv_iinc (v := 4) (lv' := [(5, .int 4), (3, .long 0), (7, .int 0), (6, .int 59), (0, .ref h0), (1, .int 56), (2, .int 4)]) hx hb dX10_number_86 hl (k := 3) rfl (by decide) (by decide) rfl (fun ls hl => ?_)
  refine lv_goto (tgt := 5) hx hb dX10_number_89 (by decide) ?_
  refine lv_iload hx hb dX10_number_5 (lv_at hl 0 rfl) ?_
  refine lv_iload_n hx hb dX10_number_7 rfl (lv_at hl 6 rfl) ?_
  refine lv_icmp_ge (tgt := 92) hx hb dX10_number_8 (by decide) (fun _ => ?_) (fun c9 => absurd (by decide) c9)
  refine lv_lload_n hx hb dX10_number_92 rfl (lv_at hl 1 rfl) ?_
  have hP9 := hP.sub (ws' := [(h0, .inr (4, [w1, .int 0, .int 0]))]) [0] rfl
  have hD9 := hD.sub (ws' := [(h0, .inr (4, [w1, .int 0, .int 0]))]) [0] (by decide) rfl
  refine W.widen (k := 0) (n := 0) (Nat.le_of_ble_eq_true rfl) (Nat.le_of_ble_eq_true rfl) ?_
  exact W.lret (v := 0) hx hb hr (fun t ht hW => ⟨⟨0, (), rfl, rfl, by rw [ht]; exact hP9, hD9⟩, hS.F ht⟩) hS.2.2 dX10_number_93
def wz_c_X1_wordOf_56 : List Cond := .code yX1_wordOf cX1_wordOf 4 (some .int) :: ([.methodLink RX1 44 ⟨"SignetRing$Span", "number", "(II)J"⟩, .sameMethod "SignetRing$Span" "SignetRing$Span" "number" "(II)J", .selects RX0 ⟨"SignetRing$Span", "number", "(II)J"⟩ yX10_number, .instanceMethod yX10_number, .initialized RX10, .fieldLink RX1 28 "SignetRing$Span" "size" "I"] ++ (wsX00 ++ (wz_c_num4_56 ++ ([]))))
set_option maxRecDepth 100000 in
theorem gz_c_X1_wordOf_56_c_num4_56 : GoodIn wz_c_X1_wordOf_56 wz_c_num4_56 := goodIn_sub (fun w h => List.mem_cons_of_mem _ (List.mem_append_right _ (List.mem_append_right _ (List.mem_append_left _ h)))) (by decide +kernel)
set_option maxRecDepth 100000 in
theorem gv_c_X1_wordOf_56_c_num4_56_44 : GoodIn wz_c_X1_wordOf_56 (va_wsU RX1 44 RX0 "SignetRing$Span" ⟨"SignetRing$Span", "number", "(II)J"⟩ yX10_number wz_c_num4_56) := goodIn_app (goodIn_of _ (by decide +kernel)) gz_c_X1_wordOf_56_c_num4_56
set_option maxHeartbeats 4000000 in
set_option maxRecDepth 100000 in
theorem c_X1_wordOf_56 (l : Launch) (D : va_G) (y : Nat → ClassId) (sz : Nat) (h0 : Nat) (w1 : Value) : Met l yX1_wordOf wz_c_X1_wordOf_56 ({ frames := 1, cells := 0, slots := 0, locals := 27 }) (va_Pc [.ref h0, .int 56] (zB D y [(h0, .inr (4, [w1, .int 0, .int 0]))] sz [] [] [] [])) (va_Qi (fun (r : Int32) (_ : Unit) => r = 0) (fun _ t => va_P D vwCl [(h0, .inr (4, [w1, .int 0, .int 0]))] t.heap ∧ va_D (va_A [(h0, .inr (4, [w1, .int 0, .int 0]))] sz) [(h0, .inr (4, [w1, .int 0, .int 0]))]) (va_A [(h0, .inr (4, [w1, .int 0, .int 0]))] sz)) 0 0 (va_A [(h0, .inr (4, [w1, .int 0, .int 0]))] sz) := by
  refine Met.ofW (cc := cX1_wordOf) (maxL := 4) (ret := (some .int)) (by decide) rfl ?_
  intro p e s m args below meth c s₁ B hml hv
  obtain ⟨rfl, hsz, hP, hK, hD0, hN, hE, hO, hT, hG⟩ := hv
  have hx := B.exec
  have hb := B.bytes
  have hr := B.returns
  have hts := atoms_spec (ws := wz_c_X1_wordOf_56) B.pre
  have hown : s.vm.findClass RX1 = some m.cls := findClass_of_methodNamed B.named
  have hlocks := B.notSynchronized
  subst hsz
  have hD := hD0.self (sz := s.heap.size)
  generalize hAe : va_A [(h0, .inr (4, [w1, .int 0, .int 0]))] s.heap.size = A at hD hE hT hG ⊢
  have hA : ∀ q : Nat, s.heap.size ≤ q → A q := fun q h => by rw [← hAe]; exact Or.inr h
  have hS : va_S A s.heap s.heap [] := va_S.rf
  have hl := lv_entry ([.ref h0, .int 56]) (n := 4) (Nat.le_of_ble_eq_true rfl)
  rw [lg_entry_eq]
  generalize (lg_sl ([.ref h0, .int 56]) ++ List.replicate (4 - (lg_sl ([.ref h0, .int 56])).length) Slot.unset).toArray = ls at hl ⊢
  have hl : lv_has ls 4 [(0, .ref h0), (1, .int 56)] := hl
  refine lv_aload_n hx hb dX1_wordOf_0 rfl (lv_at hl 0 rfl) ?_
  refine lv_iload_n hx hb dX1_wordOf_1 rfl (lv_at hl 1 rfl) ?_
  refine lv_iconst (v := 4) hx hb dX1_wordOf_2 (by decide) ?_
  have hPc := hP.sub (ws' := [(h0, .inr (4, [w1, .int 0, .int 0]))]) [0] rfl
  have hDc := hD.sub (ws' := [(h0, .inr (4, [w1, .int 0, .int 0]))]) [0] (by decide) rfl
  have hFc := va_free (wc := [(h0, .inr (4, [w1, .int 0, .int 0]))]) hD hS hA [0] rfl
  refine va_calll (va_runU (As := [.int 56, .int 4]) (rest := []) ⟨hx, hb, hml, hown, hts⟩ (c_num4_56 l D y s.heap.size h0 w1) (va_cwU 2 hts gv_c_X1_wordOf_56_c_num4_56_44 rfl rfl rfl rfl (by decide +kernel) ⟨(Nat.le_of_ble_eq_true rfl), (Nat.le_of_ble_eq_true rfl)⟩) (zB.preV hPc hDc hK hN hE hO hT hG hS hFc (fun _ h => nomatch h) (fun _ h => nomatch h) (fun _ h => nomatch h) (fun _ h => nomatch h) (va_recv hK hPc (ci := 4) (q0 := 0) rfl rfl)) rfl rfl hl.1 rfl (lv_room (Nat.le_of_ble_eq_true rfl)) dX1_wordOf_3 ⟨(Nat.le_of_ble_eq_true rfl), (Nat.le_of_ble_eq_true rfl)⟩) hS (fun q _ h => hFc q h) hFc (fun r1 u t H1 locs ht hvm hw hB hz1 hk1 hS => ?_)
  obtain ⟨hP1, hD1⟩ := hB
  rw [ht] at hP1
  obtain ⟨hP, hD⟩ := va_join (wr := []) (w1 := [(h0, .inr (4, [w1, .int 0, .int 0]))]) hP hD [0] [] rfl rfl (by decide) (by decide) hk1 hFc hP1 hD1
  generalize H1 = H at hP hS ⊢
  have hP : va_P D vwCl [(h0, .inr (4, [w1, .int 0, .int 0]))] H := hP
  have hD : va_D A [(h0, .inr (4, [w1, .int 0, .int 0]))] := hD
  have hw : r1 = 0 := hw
  subst hw
  refine lv_l2i (v := 0) hx hb dX1_wordOf_6 (by decide +kernel) ?_
  refine lv_istore_n (lv' := [(2, .int 0), (0, .ref h0), (1, .int 56)]) hx hb dX1_wordOf_7 rfl hl (by decide) rfl (fun ls hl => ?_)
  refine lv_aload_n hx hb dX1_wordOf_8 rfl (lv_at hl 1 rfl) ?_
  refine va_get (D := D) (ci := 4) (v := .int 0) (C := RX0) (T := TX0) (N := 3) hx hb hts (by decide +kernel) hown hK hP 0 rfl rfl 2 (by decide) (hts (.fieldLink RX1 28 "SignetRing$Span" "size" "I") (by decide +kernel)) (fun _ h9 => h9) rfl dX1_wordOf_9 ?_
  refine lv_iload_n hx hb dX1_wordOf_12 rfl (lv_at hl 2 rfl) ?_
  refine lv_isub hx hb dX1_wordOf_13 ?_
  refine lv_topi (fun v2 ev2 => ?_)
  have ev2 : v2 = -56 := ev2.trans (by decide +kernel)
  subst ev2
  refine lv_istore_n (lv' := [(3, .int (-56)), (2, .int 0), (0, .ref h0), (1, .int 56)]) hx hb dX1_wordOf_14 rfl hl (by decide) rfl (fun ls hl => ?_)
  refine lv_iload_n hx hb dX1_wordOf_15 rfl (lv_at hl 0 rfl) ?_
  refine lv_if_lt (tgt := 40) hx hb dX1_wordOf_16 (by decide) (fun _ => ?_) (fun c9 => absurd (by decide) c9)
  refine lv_iload_n hx hb dX1_wordOf_40 rfl (lv_at hl 1 rfl) ?_
  have hP9 := hP.sub (ws' := [(h0, .inr (4, [w1, .int 0, .int 0]))]) [0] rfl
  have hD9 := hD.sub (ws' := [(h0, .inr (4, [w1, .int 0, .int 0]))]) [0] (by decide) rfl
  refine W.widen (k := 0) (n := 0) (Nat.le_of_ble_eq_true rfl) (Nat.le_of_ble_eq_true rfl) ?_
  exact W.iret (v := 0) hx hb hr (fun t ht hW => ⟨⟨0, (), rfl, rfl, by rw [ht]; exact hP9, hD9⟩, hS.F ht⟩) hS.2.2 dX1_wordOf_41
def wz_c_num4_60 : List Cond := .code yX10_number cX10_number 8 (some .long) :: ([.fieldLink RX10 13 "SignetRing$Span" "from" "I", .fieldLink RX10 17 "SignetRing$Span" "size" "I"] ++ (wsX00 ++ ([])))
set_option maxHeartbeats 4000000 in
set_option maxRecDepth 100000 in
theorem c_num4_60 (l : Launch) (D : va_G) (y : Nat → ClassId) (sz : Nat) (h0 : Nat) (w1 : Value) : Met l yX10_number wz_c_num4_60 ({ frames := 0, cells := 0, slots := 0, locals := 0 }) (va_Pc [.ref h0, .int 60, .int 4] (zB D y [(h0, .inr (4, [w1, .int 0, .int 0]))] sz [] [] [] [])) (va_Ql (fun (r : Int64) (_ : Unit) => r = 0) (fun _ t => va_P D vwCl [(h0, .inr (4, [w1, .int 0, .int 0]))] t.heap ∧ va_D (va_A [(h0, .inr (4, [w1, .int 0, .int 0]))] sz) [(h0, .inr (4, [w1, .int 0, .int 0]))]) (va_A [(h0, .inr (4, [w1, .int 0, .int 0]))] sz)) 0 0 (va_A [(h0, .inr (4, [w1, .int 0, .int 0]))] sz) := by
  refine Met.ofW (cc := cX10_number) (maxL := 8) (ret := (some .long)) (by decide) rfl ?_
  intro p e s m args below meth c s₁ B hml hv
  obtain ⟨rfl, hsz, hP, hK, hD0, hN, hE, hO, hT, hG⟩ := hv
  have hx := B.exec
  have hb := B.bytes
  have hr := B.returns
  have hts := atoms_spec (ws := wz_c_num4_60) B.pre
  have hown : s.vm.findClass RX10 = some m.cls := findClass_of_methodNamed B.named
  have hlocks := B.notSynchronized
  subst hsz
  have hD := hD0.self (sz := s.heap.size)
  generalize hAe : va_A [(h0, .inr (4, [w1, .int 0, .int 0]))] s.heap.size = A at hD hE hT hG ⊢
  have hA : ∀ q : Nat, s.heap.size ≤ q → A q := fun q h => by rw [← hAe]; exact Or.inr h
  have hS : va_S A s.heap s.heap [] := va_S.rf
  have hl := lv_entry ([.ref h0, .int 60, .int 4]) (n := 8) (Nat.le_of_ble_eq_true rfl)
  rw [lg_entry_eq]
  generalize (lg_sl ([.ref h0, .int 60, .int 4]) ++ List.replicate (8 - (lg_sl ([.ref h0, .int 60, .int 4])).length) Slot.unset).toArray = ls at hl ⊢
  have hl : lv_has ls 8 [(0, .ref h0), (1, .int 60), (2, .int 4)] := hl
  refine lv_lconst (v := 0) hx hb dX10_number_0 (by decide) ?_
  refine lv_lstore_n (lv' := [(3, .long 0), (0, .ref h0), (1, .int 60), (2, .int 4)]) hx hb dX10_number_1 rfl hl (by decide) rfl (fun ls hl => ?_)
  refine lv_iconst (v := 0) hx hb dX10_number_2 (by decide) ?_
  refine lv_istore (lv' := [(5, .int 0), (3, .long 0), (0, .ref h0), (1, .int 60), (2, .int 4)]) hx hb dX10_number_3 hl (by decide) rfl (fun ls hl => ?_)
  refine lv_iload hx hb dX10_number_5 (lv_at hl 0 rfl) ?_
  refine lv_iload_n hx hb dX10_number_7 rfl (lv_at hl 4 rfl) ?_
  refine lv_icmp_ge (tgt := 92) hx hb dX10_number_8 (by decide) (fun c9 => absurd c9 (by decide)) (fun _ => ?_)
  refine lv_aload_n hx hb dX10_number_11 rfl (lv_at hl 2 rfl) ?_
  refine va_get (D := D) (ci := 4) (v := .int 0) (C := RX0) (T := TX0) (N := 3) hx hb hts (by decide +kernel) hown hK hP 0 rfl rfl 1 (by decide) (hts (.fieldLink RX10 13 "SignetRing$Span" "from" "I") (by decide +kernel)) (fun _ h9 => h9) rfl dX10_number_12 ?_
  refine lv_iload_n hx hb dX10_number_15 rfl (lv_at hl 3 rfl) ?_
  refine lv_iadd hx hb dX10_number_16 ?_
  refine lv_topi (fun v1 ev1 => ?_)
  have ev1 : v1 = 60 := ev1.trans (by decide +kernel)
  subst ev1
  refine lv_iload hx hb dX10_number_17 (lv_at hl 0 rfl) ?_
  refine lv_iadd hx hb dX10_number_19 ?_
  refine lv_topi (fun v2 ev2 => ?_)
  have ev2 : v2 = 60 := ev2.trans (by decide +kernel)
  subst ev2
  refine lv_istore (lv' := [(6, .int 60), (5, .int 0), (3, .long 0), (0, .ref h0), (1, .int 60), (2, .int 4)]) hx hb dX10_number_20 hl (by decide) rfl (fun ls hl => ?_)
  refine lv_iload_n hx hb dX10_number_22 rfl (lv_at hl 4 rfl) ?_
  refine lv_if_lt (tgt := 56) hx hb dX10_number_23 (by decide) (fun c9 => absurd c9 (by decide)) (fun _ => ?_)
  refine lv_iload_n hx hb dX10_number_26 rfl (lv_at hl 4 rfl) ?_
  refine lv_iload hx hb dX10_number_27 (lv_at hl 1 rfl) ?_
  refine lv_iadd hx hb dX10_number_29 ?_
  refine lv_topi (fun v3 ev3 => ?_)
  have ev3 : v3 = 60 := ev3.trans (by decide +kernel)
  subst ev3
  refine lv_aload_n hx hb dX10_number_30 rfl (lv_at hl 3 rfl) ?_
  refine va_get (D := D) (ci := 4) (v := .int 0) (C := RX0) (T := TX0) (N := 3) hx hb hts (by decide +kernel) hown hK hP 0 rfl rfl 2 (by decide) (hts (.fieldLink RX10 17 "SignetRing$Span" "size" "I") (by decide +kernel)) (fun _ h9 => h9) rfl dX10_number_31 ?_
  refine lv_icmp_ge (tgt := 56) hx hb dX10_number_34 (by decide) (fun _ => ?_) (fun c9 => absurd (by decide) c9)
  refine lv_iconst (v := 0) hx hb dX10_number_56 (by decide) ?_
  refine lv_istore (lv' := [(7, .int 0), (6, .int 60), (5, .int 0), (3, .long 0), (0, .ref h0), (1, .int 60), (2, .int 4)]) hx hb dX10_number_57 hl (by decide) rfl (fun ls hl => ?_)
  refine lv_lload_n hx hb dX10_number_59 rfl (lv_at hl 3 rfl) ?_
  refine lv_bipush (v := 8) hx hb dX10_number_60 (by decide) ?_
  refine lv_lshl hx hb dX10_number_62 rfl ?_
  refine lv_topl (fun v4 ev4 => ?_)
  have ev4 : v4 = 0 := ev4.trans (by decide +kernel)
  subst ev4
  refine lv_iload hx hb dX10_number_63 (lv_at hl 0 rfl) ?_
  refine lv_if_eq (tgt := 82) hx hb dX10_number_65 (by decide) (fun _ => ?_) (fun c9 => absurd (by decide) c9)
  refine lv_iconst (v := 0) hx hb dX10_number_82 (by decide) ?_
  refine lv_i2l (v := 0) hx hb dX10_number_83 (by decide +kernel) ?_
  refine lv_lor hx hb dX10_number_84 ?_
  refine lv_topl (fun v5 ev5 => ?_)
  have ev5 : v5 = 0 := ev5.trans (by decide +kernel)
  subst ev5
  refine lv_lstore_n (lv' := [(3, .long 0), (7, .int 0), (6, .int 60), (5, .int 0), (0, .ref h0), (1, .int 60), (2, .int 4)]) hx hb dX10_number_85 rfl hl (by decide) rfl (fun ls hl => ?_)
  refine lv_iinc (v := 1) (lv' := [(5, .int 1), (3, .long 0), (7, .int 0), (6, .int 60), (0, .ref h0), (1, .int 60), (2, .int 4)]) hx hb dX10_number_86 hl (k := 3) rfl (by decide) (by decide) rfl (fun ls hl => ?_)
  refine lv_goto (tgt := 5) hx hb dX10_number_89 (by decide) ?_
  refine lv_iload hx hb dX10_number_5 (lv_at hl 0 rfl) ?_
  refine lv_iload_n hx hb dX10_number_7 rfl (lv_at hl 6 rfl) ?_
  refine lv_icmp_ge (tgt := 92) hx hb dX10_number_8 (by decide) (fun c9 => absurd c9 (by decide)) (fun _ => ?_)
  refine lv_aload_n hx hb dX10_number_11 rfl (lv_at hl 4 rfl) ?_
  refine va_get (D := D) (ci := 4) (v := .int 0) (C := RX0) (T := TX0) (N := 3) hx hb hts (by decide +kernel) hown hK hP 0 rfl rfl 1 (by decide) (hts (.fieldLink RX10 13 "SignetRing$Span" "from" "I") (by decide +kernel)) (fun _ h9 => h9) rfl dX10_number_12 ?_
  refine lv_iload_n hx hb dX10_number_15 rfl (lv_at hl 5 rfl) ?_
  refine lv_iadd hx hb dX10_number_16 ?_
  refine lv_topi (fun v6 ev6 => ?_)
  have ev6 : v6 = 60 := ev6.trans (by decide +kernel)
  subst ev6
  refine lv_iload hx hb dX10_number_17 (lv_at hl 0 rfl) ?_
  refine lv_iadd hx hb dX10_number_19 ?_
  refine lv_topi (fun v7 ev7 => ?_)
  have ev7 : v7 = 61 := ev7.trans (by decide +kernel)
  subst ev7
  refine lv_istore (lv' := [(6, .int 61), (5, .int 1), (3, .long 0), (7, .int 0), (0, .ref h0), (1, .int 60), (2, .int 4)]) hx hb dX10_number_20 hl (by decide) rfl (fun ls hl => ?_)
  refine lv_iload_n hx hb dX10_number_22 rfl (lv_at hl 5 rfl) ?_
  refine lv_if_lt (tgt := 56) hx hb dX10_number_23 (by decide) (fun c9 => absurd c9 (by decide)) (fun _ => ?_)
  refine lv_iload_n hx hb dX10_number_26 rfl (lv_at hl 5 rfl) ?_
  refine lv_iload hx hb dX10_number_27 (lv_at hl 1 rfl) ?_
  refine lv_iadd hx hb dX10_number_29 ?_
  refine lv_topi (fun v8 ev8 => ?_)
  have ev8 : v8 = 61 := ev8.trans (by decide +kernel)
  subst ev8
  refine lv_aload_n hx hb dX10_number_30 rfl (lv_at hl 4 rfl) ?_
  refine va_get (D := D) (ci := 4) (v := .int 0) (C := RX0) (T := TX0) (N := 3) hx hb hts (by decide +kernel) hown hK hP 0 rfl rfl 2 (by decide) (hts (.fieldLink RX10 17 "SignetRing$Span" "size" "I") (by decide +kernel)) (fun _ h9 => h9) rfl dX10_number_31 ?_
  refine lv_icmp_ge (tgt := 56) hx hb dX10_number_34 (by decide) (fun _ => ?_) (fun c9 => absurd (by decide) c9)
  refine lv_iconst (v := 0) hx hb dX10_number_56 (by decide) ?_
  refine lv_istore (lv' := [(7, .int 0), (6, .int 61), (5, .int 1), (3, .long 0), (0, .ref h0), (1, .int 60), (2, .int 4)]) hx hb dX10_number_57 hl (by decide) rfl (fun ls hl => ?_)
  refine lv_lload_n hx hb dX10_number_59 rfl (lv_at hl 3 rfl) ?_
  refine lv_bipush (v := 8) hx hb dX10_number_60 (by decide) ?_
  refine lv_lshl hx hb dX10_number_62 rfl ?_
  refine lv_topl (fun v9 ev9 => ?_)
  have ev9 : v9 = 0 := ev9.trans (by decide +kernel)
  subst ev9
  refine lv_iload hx hb dX10_number_63 (lv_at hl 0 rfl) ?_
  refine lv_if_eq (tgt := 82) hx hb dX10_number_65 (by decide) (fun _ => ?_) (fun c9 => absurd (by decide) c9)
  refine lv_iconst (v := 0) hx hb dX10_number_82 (by decide) ?_
  refine lv_i2l (v := 0) hx hb dX10_number_83 (by decide +kernel) ?_
  refine lv_lor hx hb dX10_number_84 ?_
  refine lv_topl (fun v10 ev10 => ?_)
  have ev10 : v10 = 0 := ev10.trans (by decide +kernel)
  subst ev10
  refine lv_lstore_n (lv' := [(3, .long 0), (7, .int 0), (6, .int 61), (5, .int 1), (0, .ref h0), (1, .int 60), (2, .int 4)]) hx hb dX10_number_85 rfl hl (by decide) rfl (fun ls hl => ?_)
  refine lv_iinc (v := 2) (lv' := [(5, .int 2), (3, .long 0), (7, .int 0), (6, .int 61), (0, .ref h0), (1, .int 60), (2, .int 4)]) hx hb dX10_number_86 hl (k := 3) rfl (by decide) (by decide) rfl (fun ls hl => ?_)
  refine lv_goto (tgt := 5) hx hb dX10_number_89 (by decide) ?_
  refine lv_iload hx hb dX10_number_5 (lv_at hl 0 rfl) ?_
  refine lv_iload_n hx hb dX10_number_7 rfl (lv_at hl 6 rfl) ?_
  refine lv_icmp_ge (tgt := 92) hx hb dX10_number_8 (by decide) (fun c9 => absurd c9 (by decide)) (fun _ => ?_)
  refine lv_aload_n hx hb dX10_number_11 rfl (lv_at hl 4 rfl) ?_
  refine va_get (D := D) (ci := 4) (v := .int 0) (C := RX0) (T := TX0) (N := 3) hx hb hts (by decide +kernel) hown hK hP 0 rfl rfl 1 (by decide) (hts (.fieldLink RX10 13 "SignetRing$Span" "from" "I") (by decide +kernel)) (fun _ h9 => h9) rfl dX10_number_12 ?_
  refine lv_iload_n hx hb dX10_number_15 rfl (lv_at hl 5 rfl) ?_
  refine lv_iadd hx hb dX10_number_16 ?_
  refine lv_topi (fun v11 ev11 => ?_)
  have ev11 : v11 = 60 := ev11.trans (by decide +kernel)
  subst ev11
  refine lv_iload hx hb dX10_number_17 (lv_at hl 0 rfl) ?_
  refine lv_iadd hx hb dX10_number_19 ?_
  refine lv_topi (fun v12 ev12 => ?_)
  have ev12 : v12 = 62 := ev12.trans (by decide +kernel)
  subst ev12
  refine lv_istore (lv' := [(6, .int 62), (5, .int 2), (3, .long 0), (7, .int 0), (0, .ref h0), (1, .int 60), (2, .int 4)]) hx hb dX10_number_20 hl (by decide) rfl (fun ls hl => ?_)
  refine lv_iload_n hx hb dX10_number_22 rfl (lv_at hl 5 rfl) ?_
  refine lv_if_lt (tgt := 56) hx hb dX10_number_23 (by decide) (fun c9 => absurd c9 (by decide)) (fun _ => ?_)
  refine lv_iload_n hx hb dX10_number_26 rfl (lv_at hl 5 rfl) ?_
  refine lv_iload hx hb dX10_number_27 (lv_at hl 1 rfl) ?_
  refine lv_iadd hx hb dX10_number_29 ?_
  refine lv_topi (fun v13 ev13 => ?_)
  have ev13 : v13 = 62 := ev13.trans (by decide +kernel)
  subst ev13
  refine lv_aload_n hx hb dX10_number_30 rfl (lv_at hl 4 rfl) ?_
  refine va_get (D := D) (ci := 4) (v := .int 0) (C := RX0) (T := TX0) (N := 3) hx hb hts (by decide +kernel) hown hK hP 0 rfl rfl 2 (by decide) (hts (.fieldLink RX10 17 "SignetRing$Span" "size" "I") (by decide +kernel)) (fun _ h9 => h9) rfl dX10_number_31 ?_
  refine lv_icmp_ge (tgt := 56) hx hb dX10_number_34 (by decide) (fun _ => ?_) (fun c9 => absurd (by decide) c9)
  refine lv_iconst (v := 0) hx hb dX10_number_56 (by decide) ?_
  refine lv_istore (lv' := [(7, .int 0), (6, .int 62), (5, .int 2), (3, .long 0), (0, .ref h0), (1, .int 60), (2, .int 4)]) hx hb dX10_number_57 hl (by decide) rfl (fun ls hl => ?_)
  refine lv_lload_n hx hb dX10_number_59 rfl (lv_at hl 3 rfl) ?_
  refine lv_bipush (v := 8) hx hb dX10_number_60 (by decide) ?_
  refine lv_lshl hx hb dX10_number_62 rfl ?_
  refine lv_topl (fun v14 ev14 => ?_)
  have ev14 : v14 = 0 := ev14.trans (by decide +kernel)
  subst ev14
  refine lv_iload hx hb dX10_number_63 (lv_at hl 0 rfl) ?_
  refine lv_if_eq (tgt := 82) hx hb dX10_number_65 (by decide) (fun _ => ?_) (fun c9 => absurd (by decide) c9)
  refine lv_iconst (v := 0) hx hb dX10_number_82 (by decide) ?_
  refine lv_i2l (v := 0) hx hb dX10_number_83 (by decide +kernel) ?_
  refine lv_lor hx hb dX10_number_84 ?_
  refine lv_topl (fun v15 ev15 => ?_)
  have ev15 : v15 = 0 := ev15.trans (by decide +kernel)
  subst ev15
  refine lv_lstore_n (lv' := [(3, .long 0), (7, .int 0), (6, .int 62), (5, .int 2), (0, .ref h0), (1, .int 60), (2, .int 4)]) hx hb dX10_number_85 rfl hl (by decide) rfl (fun ls hl => ?_)
  refine lv_iinc (v := 3) (lv' := [(5, .int 3), (3, .long 0), (7, .int 0), (6, .int 62), (0, .ref h0), (1, .int 60), (2, .int 4)]) hx hb dX10_number_86 hl (k := 3) rfl (by decide) (by decide) rfl (fun ls hl => ?_)
  refine lv_goto (tgt := 5) hx hb dX10_number_89 (by decide) ?_
  refine lv_iload hx hb dX10_number_5 (lv_at hl 0 rfl) ?_
  refine lv_iload_n hx hb dX10_number_7 rfl (lv_at hl 6 rfl) ?_
  refine lv_icmp_ge (tgt := 92) hx hb dX10_number_8 (by decide) (fun c9 => absurd c9 (by decide)) (fun _ => ?_)
  refine lv_aload_n hx hb dX10_number_11 rfl (lv_at hl 4 rfl) ?_
  refine va_get (D := D) (ci := 4) (v := .int 0) (C := RX0) (T := TX0) (N := 3) hx hb hts (by decide +kernel) hown hK hP 0 rfl rfl 1 (by decide) (hts (.fieldLink RX10 13 "SignetRing$Span" "from" "I") (by decide +kernel)) (fun _ h9 => h9) rfl dX10_number_12 ?_
  refine lv_iload_n hx hb dX10_number_15 rfl (lv_at hl 5 rfl) ?_
  refine lv_iadd hx hb dX10_number_16 ?_
  refine lv_topi (fun v16 ev16 => ?_)
  have ev16 : v16 = 60 := ev16.trans (by decide +kernel)
  subst ev16
  refine lv_iload hx hb dX10_number_17 (lv_at hl 0 rfl) ?_
  refine lv_iadd hx hb dX10_number_19 ?_
  refine lv_topi (fun v17 ev17 => ?_)
  have ev17 : v17 = 63 := ev17.trans (by decide +kernel)
  subst ev17
  refine lv_istore (lv' := [(6, .int 63), (5, .int 3), (3, .long 0), (7, .int 0), (0, .ref h0), (1, .int 60), (2, .int 4)]) hx hb dX10_number_20 hl (by decide) rfl (fun ls hl => ?_)
  refine lv_iload_n hx hb dX10_number_22 rfl (lv_at hl 5 rfl) ?_
  refine lv_if_lt (tgt := 56) hx hb dX10_number_23 (by decide) (fun c9 => absurd c9 (by decide)) (fun _ => ?_)
  refine lv_iload_n hx hb dX10_number_26 rfl (lv_at hl 5 rfl) ?_
  refine lv_iload hx hb dX10_number_27 (lv_at hl 1 rfl) ?_
  refine lv_iadd hx hb dX10_number_29 ?_
  refine lv_topi (fun v18 ev18 => ?_)
  have ev18 : v18 = 63 := ev18.trans (by decide +kernel)
  subst ev18
  refine lv_aload_n hx hb dX10_number_30 rfl (lv_at hl 4 rfl) ?_
  refine va_get (D := D) (ci := 4) (v := .int 0) (C := RX0) (T := TX0) (N := 3) hx hb hts (by decide +kernel) hown hK hP 0 rfl rfl 2 (by decide) (hts (.fieldLink RX10 17 "SignetRing$Span" "size" "I") (by decide +kernel)) (fun _ h9 => h9) rfl dX10_number_31 ?_
  refine lv_icmp_ge (tgt := 56) hx hb dX10_number_34 (by decide) (fun _ => ?_) (fun c9 => absurd (by decide) c9)
  refine lv_iconst (v := 0) hx hb dX10_number_56 (by decide) ?_
  refine lv_istore (lv' := [(7, .int 0), (6, .int 63), (5, .int 3), (3, .long 0), (0, .ref h0), (1, .int 60), (2, .int 4)]) hx hb dX10_number_57 hl (by decide) rfl (fun ls hl => ?_)
  refine lv_lload_n hx hb dX10_number_59 rfl (lv_at hl 3 rfl) ?_
  refine lv_bipush (v := 8) hx hb dX10_number_60 (by decide) ?_
  refine lv_lshl hx hb dX10_number_62 rfl ?_
  refine lv_topl (fun v19 ev19 => ?_)
  have ev19 : v19 = 0 := ev19.trans (by decide +kernel)
  subst ev19
  refine lv_iload hx hb dX10_number_63 (lv_at hl 0 rfl) ?_
  refine lv_if_eq (tgt := 82) hx hb dX10_number_65 (by decide) (fun _ => ?_) (fun c9 => absurd (by decide) c9)
  refine lv_iconst (v := 0) hx hb dX10_number_82 (by decide) ?_
  refine lv_i2l (v := 0) hx hb dX10_number_83 (by decide +kernel) ?_
  refine lv_lor hx hb dX10_number_84 ?_
  refine lv_topl (fun v20 ev20 => ?_)
  have ev20 : v20 = 0 := ev20.trans (by decide +kernel)
  subst ev20
  refine lv_lstore_n (lv' := [(3, .long 0), (7, .int 0), (6, .int 63), (5, .int 3), (0, .ref h0), (1, .int 60), (2, .int 4)]) hx hb dX10_number_85 rfl hl (by decide) rfl (fun ls hl => ?_)
  refine lv_iinc (v := 4) (lv' := [(5, .int 4), (3, .long 0), (7, .int 0), (6, .int 63), (0, .ref h0), (1, .int 60), (2, .int 4)]) hx hb dX10_number_86 hl (k := 3) rfl (by decide) (by decide) rfl (fun ls hl => ?_)
  refine lv_goto (tgt := 5) hx hb dX10_number_89 (by decide) ?_
  refine lv_iload hx hb dX10_number_5 (lv_at hl 0 rfl) ?_
  refine lv_iload_n hx hb dX10_number_7 rfl (lv_at hl 6 rfl) ?_
  refine lv_icmp_ge (tgt := 92) hx hb dX10_number_8 (by decide) (fun _ => ?_) (fun c9 => absurd (by decide) c9)
  refine lv_lload_n hx hb dX10_number_92 rfl (lv_at hl 1 rfl) ?_
  have hP9 := hP.sub (ws' := [(h0, .inr (4, [w1, .int 0, .int 0]))]) [0] rfl
  have hD9 := hD.sub (ws' := [(h0, .inr (4, [w1, .int 0, .int 0]))]) [0] (by decide) rfl
  refine W.widen (k := 0) (n := 0) (Nat.le_of_ble_eq_true rfl) (Nat.le_of_ble_eq_true rfl) ?_
  exact W.lret (v := 0) hx hb hr (fun t ht hW => ⟨⟨0, (), rfl, rfl, by rw [ht]; exact hP9, hD9⟩, hS.F ht⟩) hS.2.2 dX10_number_93
def wz_c_X1_wordOf_60 : List Cond := .code yX1_wordOf cX1_wordOf 4 (some .int) :: ([.methodLink RX1 44 ⟨"SignetRing$Span", "number", "(II)J"⟩, .sameMethod "SignetRing$Span" "SignetRing$Span" "number" "(II)J", .selects RX0 ⟨"SignetRing$Span", "number", "(II)J"⟩ yX10_number, .instanceMethod yX10_number, .initialized RX10, .fieldLink RX1 28 "SignetRing$Span" "size" "I"] ++ (wsX00 ++ (wz_c_num4_60 ++ ([]))))
set_option maxRecDepth 100000 in
theorem gz_c_X1_wordOf_60_c_num4_60 : GoodIn wz_c_X1_wordOf_60 wz_c_num4_60 := goodIn_sub (fun w h => List.mem_cons_of_mem _ (List.mem_append_right _ (List.mem_append_right _ (List.mem_append_left _ h)))) (by decide +kernel)
set_option maxRecDepth 100000 in
theorem gv_c_X1_wordOf_60_c_num4_60_44 : GoodIn wz_c_X1_wordOf_60 (va_wsU RX1 44 RX0 "SignetRing$Span" ⟨"SignetRing$Span", "number", "(II)J"⟩ yX10_number wz_c_num4_60) := goodIn_app (goodIn_of _ (by decide +kernel)) gz_c_X1_wordOf_60_c_num4_60
set_option maxHeartbeats 4000000 in
set_option maxRecDepth 100000 in
theorem c_X1_wordOf_60 (l : Launch) (D : va_G) (y : Nat → ClassId) (sz : Nat) (h0 : Nat) (w1 : Value) : Met l yX1_wordOf wz_c_X1_wordOf_60 ({ frames := 1, cells := 0, slots := 0, locals := 27 }) (va_Pc [.ref h0, .int 60] (zB D y [(h0, .inr (4, [w1, .int 0, .int 0]))] sz [] [] [] [])) (va_Qi (fun (r : Int32) (_ : Unit) => r = 0) (fun _ t => va_P D vwCl [(h0, .inr (4, [w1, .int 0, .int 0]))] t.heap ∧ va_D (va_A [(h0, .inr (4, [w1, .int 0, .int 0]))] sz) [(h0, .inr (4, [w1, .int 0, .int 0]))]) (va_A [(h0, .inr (4, [w1, .int 0, .int 0]))] sz)) 0 0 (va_A [(h0, .inr (4, [w1, .int 0, .int 0]))] sz) := by
  refine Met.ofW (cc := cX1_wordOf) (maxL := 4) (ret := (some .int)) (by decide) rfl ?_
  intro p e s m args below meth c s₁ B hml hv
  obtain ⟨rfl, hsz, hP, hK, hD0, hN, hE, hO, hT, hG⟩ := hv
  have hx := B.exec
  have hb := B.bytes
  have hr := B.returns
  have hts := atoms_spec (ws := wz_c_X1_wordOf_60) B.pre
  have hown : s.vm.findClass RX1 = some m.cls := findClass_of_methodNamed B.named
  have hlocks := B.notSynchronized
  subst hsz
  have hD := hD0.self (sz := s.heap.size)
  generalize hAe : va_A [(h0, .inr (4, [w1, .int 0, .int 0]))] s.heap.size = A at hD hE hT hG ⊢
  have hA : ∀ q : Nat, s.heap.size ≤ q → A q := fun q h => by rw [← hAe]; exact Or.inr h
  have hS : va_S A s.heap s.heap [] := va_S.rf
  have hl := lv_entry ([.ref h0, .int 60]) (n := 4) (Nat.le_of_ble_eq_true rfl)
  rw [lg_entry_eq]
  generalize (lg_sl ([.ref h0, .int 60]) ++ List.replicate (4 - (lg_sl ([.ref h0, .int 60])).length) Slot.unset).toArray = ls at hl ⊢
  have hl : lv_has ls 4 [(0, .ref h0), (1, .int 60)] := hl
  refine lv_aload_n hx hb dX1_wordOf_0 rfl (lv_at hl 0 rfl) ?_
  refine lv_iload_n hx hb dX1_wordOf_1 rfl (lv_at hl 1 rfl) ?_
  refine lv_iconst (v := 4) hx hb dX1_wordOf_2 (by decide) ?_
  have hPc := hP.sub (ws' := [(h0, .inr (4, [w1, .int 0, .int 0]))]) [0] rfl
  have hDc := hD.sub (ws' := [(h0, .inr (4, [w1, .int 0, .int 0]))]) [0] (by decide) rfl
  have hFc := va_free (wc := [(h0, .inr (4, [w1, .int 0, .int 0]))]) hD hS hA [0] rfl
  refine va_calll (va_runU (As := [.int 60, .int 4]) (rest := []) ⟨hx, hb, hml, hown, hts⟩ (c_num4_60 l D y s.heap.size h0 w1) (va_cwU 2 hts gv_c_X1_wordOf_60_c_num4_60_44 rfl rfl rfl rfl (by decide +kernel) ⟨(Nat.le_of_ble_eq_true rfl), (Nat.le_of_ble_eq_true rfl)⟩) (zB.preV hPc hDc hK hN hE hO hT hG hS hFc (fun _ h => nomatch h) (fun _ h => nomatch h) (fun _ h => nomatch h) (fun _ h => nomatch h) (va_recv hK hPc (ci := 4) (q0 := 0) rfl rfl)) rfl rfl hl.1 rfl (lv_room (Nat.le_of_ble_eq_true rfl)) dX1_wordOf_3 ⟨(Nat.le_of_ble_eq_true rfl), (Nat.le_of_ble_eq_true rfl)⟩) hS (fun q _ h => hFc q h) hFc (fun r1 u t H1 locs ht hvm hw hB hz1 hk1 hS => ?_)
  obtain ⟨hP1, hD1⟩ := hB
  rw [ht] at hP1
  obtain ⟨hP, hD⟩ := va_join (wr := []) (w1 := [(h0, .inr (4, [w1, .int 0, .int 0]))]) hP hD [0] [] rfl rfl (by decide) (by decide) hk1 hFc hP1 hD1
  generalize H1 = H at hP hS ⊢
  have hP : va_P D vwCl [(h0, .inr (4, [w1, .int 0, .int 0]))] H := hP
  have hD : va_D A [(h0, .inr (4, [w1, .int 0, .int 0]))] := hD
  have hw : r1 = 0 := hw
  subst hw
  refine lv_l2i (v := 0) hx hb dX1_wordOf_6 (by decide +kernel) ?_
  refine lv_istore_n (lv' := [(2, .int 0), (0, .ref h0), (1, .int 60)]) hx hb dX1_wordOf_7 rfl hl (by decide) rfl (fun ls hl => ?_)
  refine lv_aload_n hx hb dX1_wordOf_8 rfl (lv_at hl 1 rfl) ?_
  refine va_get (D := D) (ci := 4) (v := .int 0) (C := RX0) (T := TX0) (N := 3) hx hb hts (by decide +kernel) hown hK hP 0 rfl rfl 2 (by decide) (hts (.fieldLink RX1 28 "SignetRing$Span" "size" "I") (by decide +kernel)) (fun _ h9 => h9) rfl dX1_wordOf_9 ?_
  refine lv_iload_n hx hb dX1_wordOf_12 rfl (lv_at hl 2 rfl) ?_
  refine lv_isub hx hb dX1_wordOf_13 ?_
  refine lv_topi (fun v2 ev2 => ?_)
  have ev2 : v2 = -60 := ev2.trans (by decide +kernel)
  subst ev2
  refine lv_istore_n (lv' := [(3, .int (-60)), (2, .int 0), (0, .ref h0), (1, .int 60)]) hx hb dX1_wordOf_14 rfl hl (by decide) rfl (fun ls hl => ?_)
  refine lv_iload_n hx hb dX1_wordOf_15 rfl (lv_at hl 0 rfl) ?_
  refine lv_if_lt (tgt := 40) hx hb dX1_wordOf_16 (by decide) (fun _ => ?_) (fun c9 => absurd (by decide) c9)
  refine lv_iload_n hx hb dX1_wordOf_40 rfl (lv_at hl 1 rfl) ?_
  have hP9 := hP.sub (ws' := [(h0, .inr (4, [w1, .int 0, .int 0]))]) [0] rfl
  have hD9 := hD.sub (ws' := [(h0, .inr (4, [w1, .int 0, .int 0]))]) [0] (by decide) rfl
  refine W.widen (k := 0) (n := 0) (Nat.le_of_ble_eq_true rfl) (Nat.le_of_ble_eq_true rfl) ?_
  exact W.iret (v := 0) hx hb hr (fun t ht hW => ⟨⟨0, (), rfl, rfl, by rw [ht]; exact hP9, hD9⟩, hS.F ht⟩) hS.2.2 dX1_wordOf_41

def wz_c_X1_mixSecond : List Cond := .code yX1_mixSecond cX1_mixSecond 12 none :: ([.fieldLink RX1 15 "SignetRing$Digest" "words" "[I", .fieldLink RX1 9 "SignetRing$Digest" "state" "[I", .fieldLink RX1 52 "SignetRing$Digest" "ROUNDS" "[I"] ++ (wsX10 ++ ([])))
set_option maxHeartbeats 4000000 in
set_option maxRecDepth 100000 in
theorem ax_c_X1_mixSecond_0 : ∀ k1 : Nat, k1 < 64 → 16 ≤ k1 → ¬ (64 : Int32) ≤ (nI k1) := by decide +kernel
set_option maxHeartbeats 4000000 in
set_option maxRecDepth 100000 in
theorem ax_c_X1_mixSecond_1 : ∀ k1 : Nat, k1 < 64 → 16 ≤ k1 → (nI k1) - (15 : Int32) = nI (k1 - 15) := by decide +kernel
set_option maxHeartbeats 4000000 in
set_option maxRecDepth 100000 in
theorem ax_c_X1_mixSecond_2 : ∀ k1 : Nat, k1 < 64 → 16 ≤ k1 → (nI k1) - (2 : Int32) = nI (k1 - 2) := by decide +kernel
set_option maxHeartbeats 4000000 in
set_option maxRecDepth 100000 in
theorem ax_c_X1_mixSecond_3 : ∀ k1 : Nat, k1 < 64 → 16 ≤ k1 → (nI k1) - (16 : Int32) = nI (k1 - 16) := by decide +kernel
set_option maxHeartbeats 4000000 in
set_option maxRecDepth 100000 in
theorem ax_c_X1_mixSecond_4 : ∀ k1 : Nat, k1 < 64 → 16 ≤ k1 → (nI k1) - (7 : Int32) = nI (k1 - 7) := by decide +kernel
set_option maxHeartbeats 4000000 in
set_option maxRecDepth 100000 in
theorem ax_c_X1_mixSecond_5 : ∀ k1 : Nat, k1 < 64 → 16 ≤ k1 → (((((((zu (tW2 (k1 - 15)) (7 : Int32)) ||| ((tW2 (k1 - 15)) <<< ((25 : Int32) &&& 31))) ^^^ ((zu (tW2 (k1 - 15)) (18 : Int32)) ||| ((tW2 (k1 - 15)) <<< ((14 : Int32) &&& 31)))) ^^^ (zu (tW2 (k1 - 15)) (3 : Int32))) + (tW2 (k1 - 16))) + ((((zu (tW2 (k1 - 2)) (17 : Int32)) ||| ((tW2 (k1 - 2)) <<< ((15 : Int32) &&& 31))) ^^^ ((zu (tW2 (k1 - 2)) (19 : Int32)) ||| ((tW2 (k1 - 2)) <<< ((13 : Int32) &&& 31)))) ^^^ (zu (tW2 (k1 - 2)) (10 : Int32)))) + (tW2 (k1 - 7))) = tW2 k1 := by decide +kernel
set_option maxHeartbeats 4000000 in
set_option maxRecDepth 100000 in
theorem ax_c_X1_mixSecond_6 : ∀ k1 : Nat, k1 < 64 → 16 ≤ k1 → nI k1 + Int32.ofInt 1 = nI (k1 + 1) := by decide +kernel
set_option maxHeartbeats 4000000 in
set_option maxRecDepth 100000 in
theorem ax_c_X1_mixSecond_7 : ∀ k2 : Nat, k2 < 64 → 0 ≤ k2 → ¬ (64 : Int32) ≤ (nI k2) := by decide +kernel
set_option maxHeartbeats 4000000 in
set_option maxRecDepth 100000 in
theorem ax_c_X1_mixSecond_8 : ∀ k2 : Nat, k2 < 64 → 0 ≤ k2 → ((((tE2 k2) + ((((zu (tE2 (k2 + 3)) (6 : Int32)) ||| ((tE2 (k2 + 3)) <<< ((26 : Int32) &&& 31))) ^^^ ((zu (tE2 (k2 + 3)) (11 : Int32)) ||| ((tE2 (k2 + 3)) <<< ((21 : Int32) &&& 31)))) ^^^ ((zu (tE2 (k2 + 3)) (25 : Int32)) ||| ((tE2 (k2 + 3)) <<< ((7 : Int32) &&& 31))))) + (((tE2 (k2 + 3)) &&& (tE2 (k2 + 2))) ^^^ (((tE2 (k2 + 3)) ^^^ (-1 : Int32)) &&& (tE2 (k2 + 1))))) + (tK k2)) + (tW2 k2) = tT k2 := by decide +kernel
set_option maxHeartbeats 4000000 in
set_option maxRecDepth 100000 in
theorem ax_c_X1_mixSecond_9 : ∀ k2 : Nat, k2 < 64 → 0 ≤ k2 → (tA2 k2) + (tT k2) = tE2 (k2 + 4) := by decide +kernel
set_option maxHeartbeats 4000000 in
set_option maxRecDepth 100000 in
theorem ax_c_X1_mixSecond_10 : ∀ k2 : Nat, k2 < 64 → 0 ≤ k2 → (tT k2) + (((((zu (tA2 (k2 + 3)) (2 : Int32)) ||| ((tA2 (k2 + 3)) <<< ((30 : Int32) &&& 31))) ^^^ ((zu (tA2 (k2 + 3)) (13 : Int32)) ||| ((tA2 (k2 + 3)) <<< ((19 : Int32) &&& 31)))) ^^^ ((zu (tA2 (k2 + 3)) (22 : Int32)) ||| ((tA2 (k2 + 3)) <<< ((10 : Int32) &&& 31)))) + ((((tA2 (k2 + 3)) &&& (tA2 (k2 + 2))) ^^^ ((tA2 (k2 + 3)) &&& (tA2 (k2 + 1)))) ^^^ ((tA2 (k2 + 2)) &&& (tA2 (k2 + 1))))) = tA2 (k2 + 4) := by decide +kernel
set_option maxHeartbeats 4000000 in
set_option maxRecDepth 100000 in
theorem ax_c_X1_mixSecond_11 : ∀ k2 : Nat, k2 < 64 → 0 ≤ k2 → nI k2 + Int32.ofInt 1 = nI (k2 + 1) := by decide +kernel
set_option maxHeartbeats 4000000 in
set_option maxRecDepth 100000 in
theorem c_X1_mixSecond (l : Launch) (D : va_G) (y : Nat → ClassId) (sz : Nat) (h0 : Nat) (st : Nat) (wd : Nat) (w1 : Value) (f : Nat → Int32) (g : Nat → Int32) (e3 : Nat) : Met l yX1_mixSecond wz_c_X1_mixSecond ({ frames := 0, cells := 0, slots := 0, locals := 0 }) (va_Pc [.ref h0] (zB D y [(h0, .inr (5, [.ref st, .ref wd, w1])), (st, .inl (y 1, 8, .inl (zf tS2 8 f))), (wd, .inl (y 1, 80, .inl (zf tW2 16 g)))] sz [] [("SignetRing$Digest", "ROUNDS", "[I", .ref e3)] [] [.inl (e3, 64, tK)])) (va_Qv (fun _ : Unit => True) (fun _ t => va_P D vwCl [(h0, .inr (5, [.ref st, .ref wd, w1])), (st, .inl (y 1, 8, .inl (zf tD2 8 (zf tS2 8 f)))), (wd, .inl (y 1, 80, .inl (zf tW2 64 g)))] t.heap ∧ va_D (va_A [(h0, .inr (5, [.ref st, .ref wd, w1])), (st, .inl (y 1, 8, .inl (zf tS2 8 f))), (wd, .inl (y 1, 80, .inl (zf tW2 16 g)))] sz) [(h0, .inr (5, [.ref st, .ref wd, w1])), (st, .inl (y 1, 8, .inl (zf tD2 8 (zf tS2 8 f)))), (wd, .inl (y 1, 80, .inl (zf tW2 64 g)))]) (va_A [(h0, .inr (5, [.ref st, .ref wd, w1])), (st, .inl (y 1, 8, .inl (zf tS2 8 f))), (wd, .inl (y 1, 80, .inl (zf tW2 16 g)))] sz)) 0 0 (va_A [(h0, .inr (5, [.ref st, .ref wd, w1])), (st, .inl (y 1, 8, .inl (zf tS2 8 f))), (wd, .inl (y 1, 80, .inl (zf tW2 16 g)))] sz) := by
  refine Met.ofW (cc := cX1_mixSecond) (maxL := 12) (ret := none) (by decide) rfl ?_
  intro p e s m args below meth c s₁ B hml hv
  obtain ⟨rfl, hsz, hP, hK, hD0, hN, hE, hO, hT, hG⟩ := hv
  have hx := B.exec
  have hb := B.bytes
  have hr := B.returns
  have hts := atoms_spec (ws := wz_c_X1_mixSecond) B.pre
  have hown : s.vm.findClass RX1 = some m.cls := findClass_of_methodNamed B.named
  have hlocks := B.notSynchronized
  subst hsz
  have hD := hD0.self (sz := s.heap.size)
  generalize hAe : va_A [(h0, .inr (5, [.ref st, .ref wd, w1])), (st, .inl (y 1, 8, .inl (zf tS2 8 f))), (wd, .inl (y 1, 80, .inl (zf tW2 16 g)))] s.heap.size = A at hD hE hT hG ⊢
  have hA : ∀ q : Nat, s.heap.size ≤ q → A q := fun q h => by rw [← hAe]; exact Or.inr h
  have hS : va_S A s.heap s.heap [] := va_S.rf
  have hl := lv_entry ([.ref h0]) (n := 12) (Nat.le_of_ble_eq_true rfl)
  rw [lg_entry_eq]
  generalize (lg_sl ([.ref h0]) ++ List.replicate (12 - (lg_sl ([.ref h0])).length) Slot.unset).toArray = ls at hl ⊢
  have hl : lv_has ls 12 [(0, .ref h0)] := hl
  refine lv_bipush (v := 16) hx hb dX1_mixSecond_0 (by decide) ?_
  refine lv_istore_n (lv' := [(1, .int 16), (0, .ref h0)]) hx hb dX1_mixSecond_2 rfl hl (by decide) rfl (fun ls hl => ?_)
  have hl : lv_has ls 12 [(1, .int (nI 16)), (0, .ref h0)] := lv_sub hl [0, 1] rfl
  refine zz_loop (I := fun (k1 : Nat) (ls : Array Slot) (H : Heap) (locs : List Loc) => va_P D vwCl [(h0, .inr (5, [.ref st, .ref wd, w1])), (st, .inl (y 1, 8, .inl (zf tS2 8 f))), (wd, .inl (y 1, 80, .inl (zf tW2 k1 g)))] H ∧ va_D A [(h0, .inr (5, [.ref st, .ref wd, w1])), (st, .inl (y 1, 8, .inl (zf tS2 8 f))), (wd, .inl (y 1, 80, .inl (zf tW2 k1 g)))] ∧ va_S A s.heap H locs ∧ lv_has ls 12 [(1, .int (nI k1)), (0, .ref h0)]) 16 64 (by decide) ⟨hP, hD, hS, hl⟩ (fun k1 ls H locs hk10 hk11 hI ih => ?_) (fun ls H locs hI => ?_)
  · obtain ⟨hP, hD, hS, hl⟩ := hI
    have hl : lv_has ls 12 [(1, .int (nI k1)), (0, .ref h0)] := hl
    have hP : va_P D vwCl [(h0, .inr (5, [.ref st, .ref wd, w1])), (st, .inl (y 1, 8, .inl (zf tS2 8 f))), (wd, .inl (y 1, 80, .inl (zf tW2 k1 g)))] H := hP
    have hD : va_D A [(h0, .inr (5, [.ref st, .ref wd, w1])), (st, .inl (y 1, 8, .inl (zf tS2 8 f))), (wd, .inl (y 1, 80, .inl (zf tW2 k1 g)))] := hD
    refine lv_iload_n hx hb dX1_mixSecond_3 rfl (lv_at hl 0 rfl) ?_
    refine lv_bipush (v := 64) hx hb dX1_mixSecond_4 (by decide) ?_
    refine lv_icmp_ge (tgt := 108) hx hb dX1_mixSecond_6 (by decide) (fun c9 => absurd c9 (ax_c_X1_mixSecond_0 k1 hk11 hk10)) (fun _ => ?_)
    refine lv_aload_n hx hb dX1_mixSecond_9 rfl (lv_at hl 1 rfl) ?_
    refine va_get (D := D) (ci := 5) (v := .ref wd) (C := RX1) (T := TX1) (N := 3) hx hb hts (by decide +kernel) hown hK hP 0 rfl rfl 1 (by decide) (hts (.fieldLink RX1 15 "SignetRing$Digest" "words" "[I") (by decide +kernel)) (fun _ h9 => h9) rfl dX1_mixSecond_10 ?_
    refine lv_iload_n hx hb dX1_mixSecond_13 rfl (lv_at hl 0 rfl) ?_
    refine lv_bipush (v := 15) hx hb dX1_mixSecond_14 (by decide) ?_
    refine lv_isub hx hb dX1_mixSecond_16 ?_
    refine lv_topi (fun v1 ev1 => ?_)
    have ev1 : v1 = nI (k1 - 15) := ev1.trans (ax_c_X1_mixSecond_1 k1 hk11 hk10)
    subst ev1
    refine va_iald hx hb hK hP 2 1 rfl rfl (vp_in_nI (by omega) (by decide)) dX1_mixSecond_17 ?_
    refine lv_topi (fun v2 ev2 => ?_)
    have ev2 : v2 = tW2 (k1 - 15) := ev2.trans (zf_rd (j := (k1 - 15)) (by omega) (by omega))
    subst ev2
    refine lv_istore_n (lv' := [(2, .int (tW2 (k1 - 15))), (1, .int (nI k1)), (0, .ref h0)]) hx hb dX1_mixSecond_18 rfl hl (by decide) rfl (fun ls hl => ?_)
    refine lv_aload_n hx hb dX1_mixSecond_19 rfl (lv_at hl 2 rfl) ?_
    refine va_get (D := D) (ci := 5) (v := .ref wd) (C := RX1) (T := TX1) (N := 3) hx hb hts (by decide +kernel) hown hK hP 0 rfl rfl 1 (by decide) (hts (.fieldLink RX1 15 "SignetRing$Digest" "words" "[I") (by decide +kernel)) (fun _ h9 => h9) rfl dX1_mixSecond_20 ?_
    refine lv_iload_n hx hb dX1_mixSecond_23 rfl (lv_at hl 1 rfl) ?_
    refine lv_iconst (v := 2) hx hb dX1_mixSecond_24 (by decide) ?_
    refine lv_isub hx hb dX1_mixSecond_25 ?_
    refine lv_topi (fun v3 ev3 => ?_)
    have ev3 : v3 = nI (k1 - 2) := ev3.trans (ax_c_X1_mixSecond_2 k1 hk11 hk10)
    subst ev3
    refine va_iald hx hb hK hP 2 1 rfl rfl (vp_in_nI (by omega) (by decide)) dX1_mixSecond_26 ?_
    refine lv_topi (fun v4 ev4 => ?_)
    have ev4 : v4 = tW2 (k1 - 2) := ev4.trans (zf_rd (j := (k1 - 2)) (by omega) (by omega))
    subst ev4
    refine lv_istore_n (lv' := [(3, .int (tW2 (k1 - 2))), (2, .int (tW2 (k1 - 15))), (1, .int (nI k1)), (0, .ref h0)]) hx hb dX1_mixSecond_27 rfl hl (by decide) rfl (fun ls hl => ?_)
    refine lv_aload_n hx hb dX1_mixSecond_28 rfl (lv_at hl 3 rfl) ?_
    refine va_get (D := D) (ci := 5) (v := .ref wd) (C := RX1) (T := TX1) (N := 3) hx hb hts (by decide +kernel) hown hK hP 0 rfl rfl 1 (by decide) (hts (.fieldLink RX1 15 "SignetRing$Digest" "words" "[I") (by decide +kernel)) (fun _ h9 => h9) rfl dX1_mixSecond_29 ?_
    refine lv_iload_n hx hb dX1_mixSecond_32 rfl (lv_at hl 2 rfl) ?_
    refine lv_iload_n hx hb dX1_mixSecond_33 rfl (lv_at hl 1 rfl) ?_
    refine lv_bipush (v := 7) hx hb dX1_mixSecond_34 (by decide) ?_
    refine lv_iushr (v := zu (tW2 (k1 - 15)) (7 : Int32)) hx hb dX1_mixSecond_36 rfl ?_
    refine lv_iload_n hx hb dX1_mixSecond_37 rfl (lv_at hl 1 rfl) ?_
    refine lv_bipush (v := 25) hx hb dX1_mixSecond_38 (by decide) ?_
    refine lv_ishl hx hb dX1_mixSecond_40 ?_
    refine lv_ior hx hb dX1_mixSecond_41 ?_
    refine lv_iload_n hx hb dX1_mixSecond_42 rfl (lv_at hl 1 rfl) ?_
    refine lv_bipush (v := 18) hx hb dX1_mixSecond_43 (by decide) ?_
    refine lv_iushr (v := zu (tW2 (k1 - 15)) (18 : Int32)) hx hb dX1_mixSecond_45 rfl ?_
    refine lv_iload_n hx hb dX1_mixSecond_46 rfl (lv_at hl 1 rfl) ?_
    refine lv_bipush (v := 14) hx hb dX1_mixSecond_47 (by decide) ?_
    refine lv_ishl hx hb dX1_mixSecond_49 ?_
    refine lv_ior hx hb dX1_mixSecond_50 ?_
    refine lv_ixor hx hb dX1_mixSecond_51 ?_
    refine lv_iload_n hx hb dX1_mixSecond_52 rfl (lv_at hl 1 rfl) ?_
    refine lv_iconst (v := 3) hx hb dX1_mixSecond_53 (by decide) ?_
    refine lv_iushr (v := zu (tW2 (k1 - 15)) (3 : Int32)) hx hb dX1_mixSecond_54 rfl ?_
    refine lv_ixor hx hb dX1_mixSecond_55 ?_
    refine lv_aload_n hx hb dX1_mixSecond_56 rfl (lv_at hl 3 rfl) ?_
    refine va_get (D := D) (ci := 5) (v := .ref wd) (C := RX1) (T := TX1) (N := 3) hx hb hts (by decide +kernel) hown hK hP 0 rfl rfl 1 (by decide) (hts (.fieldLink RX1 15 "SignetRing$Digest" "words" "[I") (by decide +kernel)) (fun _ h9 => h9) rfl dX1_mixSecond_57 ?_
    refine lv_iload_n hx hb dX1_mixSecond_60 rfl (lv_at hl 2 rfl) ?_
    refine lv_bipush (v := 16) hx hb dX1_mixSecond_61 (by decide) ?_
    refine lv_isub hx hb dX1_mixSecond_63 ?_
    refine lv_topi (fun v5 ev5 => ?_)
    have ev5 : v5 = nI (k1 - 16) := ev5.trans (ax_c_X1_mixSecond_3 k1 hk11 hk10)
    subst ev5
    refine va_iald hx hb hK hP 2 1 rfl rfl (vp_in_nI (by omega) (by decide)) dX1_mixSecond_64 ?_
    refine lv_topi (fun v6 ev6 => ?_)
    have ev6 : v6 = tW2 (k1 - 16) := ev6.trans (zf_rd (j := (k1 - 16)) (by omega) (by omega))
    subst ev6
    refine lv_iadd hx hb dX1_mixSecond_65 ?_
    refine lv_iload_n hx hb dX1_mixSecond_66 rfl (lv_at hl 0 rfl) ?_
    refine lv_bipush (v := 17) hx hb dX1_mixSecond_67 (by decide) ?_
    refine lv_iushr (v := zu (tW2 (k1 - 2)) (17 : Int32)) hx hb dX1_mixSecond_69 rfl ?_
    refine lv_iload_n hx hb dX1_mixSecond_70 rfl (lv_at hl 0 rfl) ?_
    refine lv_bipush (v := 15) hx hb dX1_mixSecond_71 (by decide) ?_
    refine lv_ishl hx hb dX1_mixSecond_73 ?_
    refine lv_ior hx hb dX1_mixSecond_74 ?_
    refine lv_iload_n hx hb dX1_mixSecond_75 rfl (lv_at hl 0 rfl) ?_
    refine lv_bipush (v := 19) hx hb dX1_mixSecond_76 (by decide) ?_
    refine lv_iushr (v := zu (tW2 (k1 - 2)) (19 : Int32)) hx hb dX1_mixSecond_78 rfl ?_
    refine lv_iload_n hx hb dX1_mixSecond_79 rfl (lv_at hl 0 rfl) ?_
    refine lv_bipush (v := 13) hx hb dX1_mixSecond_80 (by decide) ?_
    refine lv_ishl hx hb dX1_mixSecond_82 ?_
    refine lv_ior hx hb dX1_mixSecond_83 ?_
    refine lv_ixor hx hb dX1_mixSecond_84 ?_
    refine lv_iload_n hx hb dX1_mixSecond_85 rfl (lv_at hl 0 rfl) ?_
    refine lv_bipush (v := 10) hx hb dX1_mixSecond_86 (by decide) ?_
    refine lv_iushr (v := zu (tW2 (k1 - 2)) (10 : Int32)) hx hb dX1_mixSecond_88 rfl ?_
    refine lv_ixor hx hb dX1_mixSecond_89 ?_
    refine lv_iadd hx hb dX1_mixSecond_90 ?_
    refine lv_aload_n hx hb dX1_mixSecond_91 rfl (lv_at hl 3 rfl) ?_
    refine va_get (D := D) (ci := 5) (v := .ref wd) (C := RX1) (T := TX1) (N := 3) hx hb hts (by decide +kernel) hown hK hP 0 rfl rfl 1 (by decide) (hts (.fieldLink RX1 15 "SignetRing$Digest" "words" "[I") (by decide +kernel)) (fun _ h9 => h9) rfl dX1_mixSecond_92 ?_
    refine lv_iload_n hx hb dX1_mixSecond_95 rfl (lv_at hl 2 rfl) ?_
    refine lv_bipush (v := 7) hx hb dX1_mixSecond_96 (by decide) ?_
    refine lv_isub hx hb dX1_mixSecond_98 ?_
    refine lv_topi (fun v7 ev7 => ?_)
    have ev7 : v7 = nI (k1 - 7) := ev7.trans (ax_c_X1_mixSecond_4 k1 hk11 hk10)
    subst ev7
    refine va_iald hx hb hK hP 2 1 rfl rfl (vp_in_nI (by omega) (by decide)) dX1_mixSecond_99 ?_
    refine lv_topi (fun v8 ev8 => ?_)
    have ev8 : v8 = tW2 (k1 - 7) := ev8.trans (zf_rd (j := (k1 - 7)) (by omega) (by omega))
    subst ev8
    refine lv_iadd hx hb dX1_mixSecond_100 ?_
    refine va_iast hx hb hK hP hD hS 2 1 rfl rfl (vp_in_nI (by omega) (by decide)) dX1_mixSecond_101 (fun H locs hP hD hS => ?_)
    have hP : va_P D vwCl [(h0, .inr (5, [.ref st, .ref wd, w1])), (st, .inl (y 1, 8, .inl (zf tS2 8 f))), (wd, .inl (y 1, 80, .inl (upd (zf tW2 k1 g) (nI k1).toNatClampNeg (((((((zu (tW2 (k1 - 15)) (7 : Int32)) ||| ((tW2 (k1 - 15)) <<< ((25 : Int32) &&& 31))) ^^^ ((zu (tW2 (k1 - 15)) (18 : Int32)) ||| ((tW2 (k1 - 15)) <<< ((14 : Int32) &&& 31)))) ^^^ (zu (tW2 (k1 - 15)) (3 : Int32))) + (tW2 (k1 - 16))) + ((((zu (tW2 (k1 - 2)) (17 : Int32)) ||| ((tW2 (k1 - 2)) <<< ((15 : Int32) &&& 31))) ^^^ ((zu (tW2 (k1 - 2)) (19 : Int32)) ||| ((tW2 (k1 - 2)) <<< ((13 : Int32) &&& 31)))) ^^^ (zu (tW2 (k1 - 2)) (10 : Int32)))) + (tW2 (k1 - 7))))))] H := hP
    have hD : va_D A [(h0, .inr (5, [.ref st, .ref wd, w1])), (st, .inl (y 1, 8, .inl (zf tS2 8 f))), (wd, .inl (y 1, 80, .inl (upd (zf tW2 k1 g) (nI k1).toNatClampNeg (((((((zu (tW2 (k1 - 15)) (7 : Int32)) ||| ((tW2 (k1 - 15)) <<< ((25 : Int32) &&& 31))) ^^^ ((zu (tW2 (k1 - 15)) (18 : Int32)) ||| ((tW2 (k1 - 15)) <<< ((14 : Int32) &&& 31)))) ^^^ (zu (tW2 (k1 - 15)) (3 : Int32))) + (tW2 (k1 - 16))) + ((((zu (tW2 (k1 - 2)) (17 : Int32)) ||| ((tW2 (k1 - 2)) <<< ((15 : Int32) &&& 31))) ^^^ ((zu (tW2 (k1 - 2)) (19 : Int32)) ||| ((tW2 (k1 - 2)) <<< ((13 : Int32) &&& 31)))) ^^^ (zu (tW2 (k1 - 2)) (10 : Int32)))) + (tW2 (k1 - 7))))))] := hD
    have u9 : upd (zf tW2 k1 g) (nI k1).toNatClampNeg (((((((zu (tW2 (k1 - 15)) (7 : Int32)) ||| ((tW2 (k1 - 15)) <<< ((25 : Int32) &&& 31))) ^^^ ((zu (tW2 (k1 - 15)) (18 : Int32)) ||| ((tW2 (k1 - 15)) <<< ((14 : Int32) &&& 31)))) ^^^ (zu (tW2 (k1 - 15)) (3 : Int32))) + (tW2 (k1 - 16))) + ((((zu (tW2 (k1 - 2)) (17 : Int32)) ||| ((tW2 (k1 - 2)) <<< ((15 : Int32) &&& 31))) ^^^ ((zu (tW2 (k1 - 2)) (19 : Int32)) ||| ((tW2 (k1 - 2)) <<< ((13 : Int32) &&& 31)))) ^^^ (zu (tW2 (k1 - 2)) (10 : Int32)))) + (tW2 (k1 - 7))) = zf tW2 (k1 + 1) g := (zf_st (n := k1) (by omega) (ax_c_X1_mixSecond_5 k1 hk11 hk10))
    rw [u9] at hP hD
    have hP : va_P D vwCl [(h0, .inr (5, [.ref st, .ref wd, w1])), (st, .inl (y 1, 8, .inl (zf tS2 8 f))), (wd, .inl (y 1, 80, .inl (zf tW2 (k1 + 1) g)))] H := hP
    have hD : va_D A [(h0, .inr (5, [.ref st, .ref wd, w1])), (st, .inl (y 1, 8, .inl (zf tS2 8 f))), (wd, .inl (y 1, 80, .inl (zf tW2 (k1 + 1) g)))] := hD
    refine lv_iinc (v := nI (k1 + 1)) (lv' := [(1, .int (nI (k1 + 1))), (3, .int (tW2 (k1 - 2))), (2, .int (tW2 (k1 - 15))), (0, .ref h0)]) hx hb dX1_mixSecond_102 hl (k := 2) rfl (ax_c_X1_mixSecond_6 k1 hk11 hk10) (by decide) rfl (fun ls hl => ?_)
    refine lv_goto (tgt := 3) hx hb dX1_mixSecond_105 (by decide) ?_
    exact ih ls H locs ⟨hP, hD, hS, lv_sub hl [0, 3] rfl⟩
  · obtain ⟨hP, hD, hS, hl⟩ := hI
    have hl : lv_has ls 12 [(1, .int (nI 64)), (0, .ref h0)] := hl
    have hP : va_P D vwCl [(h0, .inr (5, [.ref st, .ref wd, w1])), (st, .inl (y 1, 8, .inl (zf tS2 8 f))), (wd, .inl (y 1, 80, .inl (zf tW2 64 g)))] H := hP
    have hD : va_D A [(h0, .inr (5, [.ref st, .ref wd, w1])), (st, .inl (y 1, 8, .inl (zf tS2 8 f))), (wd, .inl (y 1, 80, .inl (zf tW2 64 g)))] := hD
    refine lv_iload_n hx hb dX1_mixSecond_3 rfl (lv_at hl 0 rfl) ?_
    refine lv_bipush (v := 64) hx hb dX1_mixSecond_4 (by decide) ?_
    refine lv_icmp_ge (tgt := 108) hx hb dX1_mixSecond_6 (by decide) (fun _ => ?_) (fun c9 => absurd (by decide) c9)
    refine lv_aload_n hx hb dX1_mixSecond_108 rfl (lv_at hl 1 rfl) ?_
    refine va_get (D := D) (ci := 5) (v := .ref st) (C := RX1) (T := TX1) (N := 3) hx hb hts (by decide +kernel) hown hK hP 0 rfl rfl 0 (by decide) (hts (.fieldLink RX1 9 "SignetRing$Digest" "state" "[I") (by decide +kernel)) (fun _ h9 => h9) rfl dX1_mixSecond_109 ?_
    refine lv_iconst (v := 0) hx hb dX1_mixSecond_112 (by decide) ?_
    refine va_iald hx hb hK hP 1 1 rfl rfl (by unfold vp_in; decide) dX1_mixSecond_113 ?_
    refine lv_topi (fun v10 ev10 => ?_)
    have ev10 : v10 = tA2 3 := ev10.trans (Eq.trans (zf_rd (j := 0) (by decide) (by decide)) (by decide +kernel))
    subst ev10
    refine lv_istore_n (lv' := [(1, .int (tA2 3)), (0, .ref h0)]) hx hb dX1_mixSecond_114 rfl hl (by decide) rfl (fun ls hl => ?_)
    refine lv_aload_n hx hb dX1_mixSecond_115 rfl (lv_at hl 1 rfl) ?_
    refine va_get (D := D) (ci := 5) (v := .ref st) (C := RX1) (T := TX1) (N := 3) hx hb hts (by decide +kernel) hown hK hP 0 rfl rfl 0 (by decide) (hts (.fieldLink RX1 9 "SignetRing$Digest" "state" "[I") (by decide +kernel)) (fun _ h9 => h9) rfl dX1_mixSecond_116 ?_
    refine lv_iconst (v := 1) hx hb dX1_mixSecond_119 (by decide) ?_
    refine va_iald hx hb hK hP 1 1 rfl rfl (by unfold vp_in; decide) dX1_mixSecond_120 ?_
    refine lv_topi (fun v11 ev11 => ?_)
    have ev11 : v11 = tA2 2 := ev11.trans (Eq.trans (zf_rd (j := 1) (by decide) (by decide)) (by decide +kernel))
    subst ev11
    refine lv_istore_n (lv' := [(2, .int (tA2 2)), (1, .int (tA2 3)), (0, .ref h0)]) hx hb dX1_mixSecond_121 rfl hl (by decide) rfl (fun ls hl => ?_)
    refine lv_aload_n hx hb dX1_mixSecond_122 rfl (lv_at hl 2 rfl) ?_
    refine va_get (D := D) (ci := 5) (v := .ref st) (C := RX1) (T := TX1) (N := 3) hx hb hts (by decide +kernel) hown hK hP 0 rfl rfl 0 (by decide) (hts (.fieldLink RX1 9 "SignetRing$Digest" "state" "[I") (by decide +kernel)) (fun _ h9 => h9) rfl dX1_mixSecond_123 ?_
    refine lv_iconst (v := 2) hx hb dX1_mixSecond_126 (by decide) ?_
    refine va_iald hx hb hK hP 1 1 rfl rfl (by unfold vp_in; decide) dX1_mixSecond_127 ?_
    refine lv_topi (fun v12 ev12 => ?_)
    have ev12 : v12 = tA2 1 := ev12.trans (Eq.trans (zf_rd (j := 2) (by decide) (by decide)) (by decide +kernel))
    subst ev12
    refine lv_istore_n (lv' := [(3, .int (tA2 1)), (2, .int (tA2 2)), (1, .int (tA2 3)), (0, .ref h0)]) hx hb dX1_mixSecond_128 rfl hl (by decide) rfl (fun ls hl => ?_)
    refine lv_aload_n hx hb dX1_mixSecond_129 rfl (lv_at hl 3 rfl) ?_
    refine va_get (D := D) (ci := 5) (v := .ref st) (C := RX1) (T := TX1) (N := 3) hx hb hts (by decide +kernel) hown hK hP 0 rfl rfl 0 (by decide) (hts (.fieldLink RX1 9 "SignetRing$Digest" "state" "[I") (by decide +kernel)) (fun _ h9 => h9) rfl dX1_mixSecond_130 ?_
    refine lv_iconst (v := 3) hx hb dX1_mixSecond_133 (by decide) ?_
    refine va_iald hx hb hK hP 1 1 rfl rfl (by unfold vp_in; decide) dX1_mixSecond_134 ?_
    refine lv_topi (fun v13 ev13 => ?_)
    have ev13 : v13 = tA2 0 := ev13.trans (Eq.trans (zf_rd (j := 3) (by decide) (by decide)) (by decide +kernel))
    subst ev13
    refine lv_istore (lv' := [(4, .int (tA2 0)), (3, .int (tA2 1)), (2, .int (tA2 2)), (1, .int (tA2 3)), (0, .ref h0)]) hx hb dX1_mixSecond_135 hl (by decide) rfl (fun ls hl => ?_)
    refine lv_aload_n hx hb dX1_mixSecond_137 rfl (lv_at hl 4 rfl) ?_
    refine va_get (D := D) (ci := 5) (v := .ref st) (C := RX1) (T := TX1) (N := 3) hx hb hts (by decide +kernel) hown hK hP 0 rfl rfl 0 (by decide) (hts (.fieldLink RX1 9 "SignetRing$Digest" "state" "[I") (by decide +kernel)) (fun _ h9 => h9) rfl dX1_mixSecond_138 ?_
    refine lv_iconst (v := 4) hx hb dX1_mixSecond_141 (by decide) ?_
    refine va_iald hx hb hK hP 1 1 rfl rfl (by unfold vp_in; decide) dX1_mixSecond_142 ?_
    refine lv_topi (fun v14 ev14 => ?_)
    have ev14 : v14 = tE2 3 := ev14.trans (Eq.trans (zf_rd (j := 4) (by decide) (by decide)) (by decide +kernel))
    subst ev14
    refine lv_istore (lv' := [(5, .int (tE2 3)), (4, .int (tA2 0)), (3, .int (tA2 1)), (2, .int (tA2 2)), (1, .int (tA2 3)), (0, .ref h0)]) hx hb dX1_mixSecond_143 hl (by decide) rfl (fun ls hl => ?_)
    refine lv_aload_n hx hb dX1_mixSecond_145 rfl (lv_at hl 5 rfl) ?_
    refine va_get (D := D) (ci := 5) (v := .ref st) (C := RX1) (T := TX1) (N := 3) hx hb hts (by decide +kernel) hown hK hP 0 rfl rfl 0 (by decide) (hts (.fieldLink RX1 9 "SignetRing$Digest" "state" "[I") (by decide +kernel)) (fun _ h9 => h9) rfl dX1_mixSecond_146 ?_
    refine lv_iconst (v := 5) hx hb dX1_mixSecond_149 (by decide) ?_
    refine va_iald hx hb hK hP 1 1 rfl rfl (by unfold vp_in; decide) dX1_mixSecond_150 ?_
    refine lv_topi (fun v15 ev15 => ?_)
    have ev15 : v15 = tE2 2 := ev15.trans (Eq.trans (zf_rd (j := 5) (by decide) (by decide)) (by decide +kernel))
    subst ev15
    refine lv_istore (lv' := [(6, .int (tE2 2)), (5, .int (tE2 3)), (4, .int (tA2 0)), (3, .int (tA2 1)), (2, .int (tA2 2)), (1, .int (tA2 3)), (0, .ref h0)]) hx hb dX1_mixSecond_151 hl (by decide) rfl (fun ls hl => ?_)
    refine lv_aload_n hx hb dX1_mixSecond_153 rfl (lv_at hl 6 rfl) ?_
    refine va_get (D := D) (ci := 5) (v := .ref st) (C := RX1) (T := TX1) (N := 3) hx hb hts (by decide +kernel) hown hK hP 0 rfl rfl 0 (by decide) (hts (.fieldLink RX1 9 "SignetRing$Digest" "state" "[I") (by decide +kernel)) (fun _ h9 => h9) rfl dX1_mixSecond_154 ?_
    refine lv_bipush (v := 6) hx hb dX1_mixSecond_157 (by decide) ?_
    refine va_iald hx hb hK hP 1 1 rfl rfl (by unfold vp_in; decide) dX1_mixSecond_159 ?_
    refine lv_topi (fun v16 ev16 => ?_)
    have ev16 : v16 = tE2 1 := ev16.trans (Eq.trans (zf_rd (j := 6) (by decide) (by decide)) (by decide +kernel))
    subst ev16
    refine lv_istore (lv' := [(7, .int (tE2 1)), (6, .int (tE2 2)), (5, .int (tE2 3)), (4, .int (tA2 0)), (3, .int (tA2 1)), (2, .int (tA2 2)), (1, .int (tA2 3)), (0, .ref h0)]) hx hb dX1_mixSecond_160 hl (by decide) rfl (fun ls hl => ?_)
    refine lv_aload_n hx hb dX1_mixSecond_162 rfl (lv_at hl 7 rfl) ?_
    refine va_get (D := D) (ci := 5) (v := .ref st) (C := RX1) (T := TX1) (N := 3) hx hb hts (by decide +kernel) hown hK hP 0 rfl rfl 0 (by decide) (hts (.fieldLink RX1 9 "SignetRing$Digest" "state" "[I") (by decide +kernel)) (fun _ h9 => h9) rfl dX1_mixSecond_163 ?_
    refine lv_bipush (v := 7) hx hb dX1_mixSecond_166 (by decide) ?_
    refine va_iald hx hb hK hP 1 1 rfl rfl (by unfold vp_in; decide) dX1_mixSecond_168 ?_
    refine lv_topi (fun v17 ev17 => ?_)
    have ev17 : v17 = tE2 0 := ev17.trans (Eq.trans (zf_rd (j := 7) (by decide) (by decide)) (by decide +kernel))
    subst ev17
    refine lv_istore (lv' := [(8, .int (tE2 0)), (7, .int (tE2 1)), (6, .int (tE2 2)), (5, .int (tE2 3)), (4, .int (tA2 0)), (3, .int (tA2 1)), (2, .int (tA2 2)), (1, .int (tA2 3)), (0, .ref h0)]) hx hb dX1_mixSecond_169 hl (by decide) rfl (fun ls hl => ?_)
    refine lv_iconst (v := 0) hx hb dX1_mixSecond_171 (by decide) ?_
    refine lv_istore (lv' := [(9, .int 0), (8, .int (tE2 0)), (7, .int (tE2 1)), (6, .int (tE2 2)), (5, .int (tE2 3)), (4, .int (tA2 0)), (3, .int (tA2 1)), (2, .int (tA2 2)), (1, .int (tA2 3)), (0, .ref h0)]) hx hb dX1_mixSecond_172 hl (by decide) rfl (fun ls hl => ?_)
    have hl : lv_has ls 12 [(9, .int (nI 0)), (8, .int (tE2 0)), (7, .int (tE2 1)), (6, .int (tE2 2)), (5, .int (tE2 3)), (4, .int (tA2 0)), (3, .int (tA2 1)), (2, .int (tA2 2)), (1, .int (tA2 3)), (0, .ref h0)] := lv_sub hl [0, 1, 2, 3, 4, 5, 6, 7, 8, 9] rfl
    refine zz_loop (I := fun (k2 : Nat) (ls : Array Slot) (H : Heap) (locs : List Loc) => va_P D vwCl [(h0, .inr (5, [.ref st, .ref wd, w1])), (st, .inl (y 1, 8, .inl (zf tS2 8 f))), (wd, .inl (y 1, 80, .inl (zf tW2 64 g)))] H ∧ va_D A [(h0, .inr (5, [.ref st, .ref wd, w1])), (st, .inl (y 1, 8, .inl (zf tS2 8 f))), (wd, .inl (y 1, 80, .inl (zf tW2 64 g)))] ∧ va_S A s.heap H locs ∧ lv_has ls 12 [(9, .int (nI k2)), (8, .int (tE2 k2)), (7, .int (tE2 (k2 + 1))), (6, .int (tE2 (k2 + 2))), (5, .int (tE2 (k2 + 3))), (4, .int (tA2 k2)), (3, .int (tA2 (k2 + 1))), (2, .int (tA2 (k2 + 2))), (1, .int (tA2 (k2 + 3))), (0, .ref h0)]) 0 64 (by decide) ⟨hP, hD, hS, hl⟩ (fun k2 ls H locs hk20 hk21 hI ih => ?_) (fun ls H locs hI => ?_)
    · obtain ⟨hP, hD, hS, hl⟩ := hI
      have hl : lv_has ls 12 [(9, .int (nI k2)), (8, .int (tE2 k2)), (7, .int (tE2 (k2 + 1))), (6, .int (tE2 (k2 + 2))), (5, .int (tE2 (k2 + 3))), (4, .int (tA2 k2)), (3, .int (tA2 (k2 + 1))), (2, .int (tA2 (k2 + 2))), (1, .int (tA2 (k2 + 3))), (0, .ref h0)] := hl
      have hP : va_P D vwCl [(h0, .inr (5, [.ref st, .ref wd, w1])), (st, .inl (y 1, 8, .inl (zf tS2 8 f))), (wd, .inl (y 1, 80, .inl (zf tW2 64 g)))] H := hP
      have hD : va_D A [(h0, .inr (5, [.ref st, .ref wd, w1])), (st, .inl (y 1, 8, .inl (zf tS2 8 f))), (wd, .inl (y 1, 80, .inl (zf tW2 64 g)))] := hD
      refine lv_iload hx hb dX1_mixSecond_174 (lv_at hl 0 rfl) ?_
      refine lv_bipush (v := 64) hx hb dX1_mixSecond_176 (by decide) ?_
      refine lv_icmp_ge (tgt := 330) hx hb dX1_mixSecond_178 (by decide) (fun c9 => absurd c9 (ax_c_X1_mixSecond_7 k2 hk21 hk20)) (fun _ => ?_)
      refine lv_iload hx hb dX1_mixSecond_181 (lv_at hl 1 rfl) ?_
      refine lv_iload hx hb dX1_mixSecond_183 (lv_at hl 4 rfl) ?_
      refine lv_bipush (v := 6) hx hb dX1_mixSecond_185 (by decide) ?_
      refine lv_iushr (v := zu (tE2 (k2 + 3)) (6 : Int32)) hx hb dX1_mixSecond_187 rfl ?_
      refine lv_iload hx hb dX1_mixSecond_188 (lv_at hl 4 rfl) ?_
      refine lv_bipush (v := 26) hx hb dX1_mixSecond_190 (by decide) ?_
      refine lv_ishl hx hb dX1_mixSecond_192 ?_
      refine lv_ior hx hb dX1_mixSecond_193 ?_
      refine lv_iload hx hb dX1_mixSecond_194 (lv_at hl 4 rfl) ?_
      refine lv_bipush (v := 11) hx hb dX1_mixSecond_196 (by decide) ?_
      refine lv_iushr (v := zu (tE2 (k2 + 3)) (11 : Int32)) hx hb dX1_mixSecond_198 rfl ?_
      refine lv_iload hx hb dX1_mixSecond_199 (lv_at hl 4 rfl) ?_
      refine lv_bipush (v := 21) hx hb dX1_mixSecond_201 (by decide) ?_
      refine lv_ishl hx hb dX1_mixSecond_203 ?_
      refine lv_ior hx hb dX1_mixSecond_204 ?_
      refine lv_ixor hx hb dX1_mixSecond_205 ?_
      refine lv_iload hx hb dX1_mixSecond_206 (lv_at hl 4 rfl) ?_
      refine lv_bipush (v := 25) hx hb dX1_mixSecond_208 (by decide) ?_
      refine lv_iushr (v := zu (tE2 (k2 + 3)) (25 : Int32)) hx hb dX1_mixSecond_210 rfl ?_
      refine lv_iload hx hb dX1_mixSecond_211 (lv_at hl 4 rfl) ?_
      refine lv_bipush (v := 7) hx hb dX1_mixSecond_213 (by decide) ?_
      refine lv_ishl hx hb dX1_mixSecond_215 ?_
      refine lv_ior hx hb dX1_mixSecond_216 ?_
      refine lv_ixor hx hb dX1_mixSecond_217 ?_
      refine lv_iadd hx hb dX1_mixSecond_218 ?_
      refine lv_iload hx hb dX1_mixSecond_219 (lv_at hl 4 rfl) ?_
      refine lv_iload hx hb dX1_mixSecond_221 (lv_at hl 3 rfl) ?_
      refine lv_iand hx hb dX1_mixSecond_223 ?_
      refine lv_iload hx hb dX1_mixSecond_224 (lv_at hl 4 rfl) ?_
      refine lv_iconst (v := -1) hx hb dX1_mixSecond_226 (by decide) ?_
      refine lv_ixor hx hb dX1_mixSecond_227 ?_
      refine lv_iload hx hb dX1_mixSecond_228 (lv_at hl 2 rfl) ?_
      refine lv_iand hx hb dX1_mixSecond_230 ?_
      refine lv_ixor hx hb dX1_mixSecond_231 ?_
      refine lv_iadd hx hb dX1_mixSecond_232 ?_
      refine va_gets hx hb (hE ("SignetRing$Digest", "ROUNDS", "[I", .ref e3) (List.mem_of_getElem? (i := 0) rfl)) hS hown (hts (.fieldLink RX1 52 "SignetRing$Digest" "ROUNDS" "[I") (by decide +kernel)) (fun _ h9 => h9) dX1_mixSecond_233 ?_
      refine lv_iload hx hb dX1_mixSecond_236 (lv_at hl 0 rfl) ?_
      refine va_ti (v := .int (tK k2)) hx hb (show va_T .int e3 64 (fun j => .int (tK j)) A s s.heap from (hG (.inl (e3, 64, tK)) (List.mem_of_getElem? (i := 0) rfl))) hS (vp_in_nI (by omega) (by decide)) (congrArg (fun j => Value.int (tK j)) (nI_clamp (n := k2) (by omega))) dX1_mixSecond_238 ?_
      refine lv_iadd hx hb dX1_mixSecond_239 ?_
      refine lv_aload_n hx hb dX1_mixSecond_240 rfl (lv_at hl 9 rfl) ?_
      refine va_get (D := D) (ci := 5) (v := .ref wd) (C := RX1) (T := TX1) (N := 3) hx hb hts (by decide +kernel) hown hK hP 0 rfl rfl 1 (by decide) (hts (.fieldLink RX1 15 "SignetRing$Digest" "words" "[I") (by decide +kernel)) (fun _ h9 => h9) rfl dX1_mixSecond_241 ?_
      refine lv_iload hx hb dX1_mixSecond_244 (lv_at hl 0 rfl) ?_
      refine va_iald hx hb hK hP 2 1 rfl rfl (vp_in_nI (by omega) (by decide)) dX1_mixSecond_246 ?_
      refine lv_topi (fun v18 ev18 => ?_)
      have ev18 : v18 = tW2 k2 := ev18.trans (zf_rd (j := k2) (by omega) (by omega))
      subst ev18
      refine lv_iadd hx hb dX1_mixSecond_247 ?_
      refine lv_topi (fun v19 ev19 => ?_)
      have ev19 : v19 = tT k2 := ev19.trans (ax_c_X1_mixSecond_8 k2 hk21 hk20)
      subst ev19
      refine lv_istore (lv' := [(10, .int (tT k2)), (9, .int (nI k2)), (8, .int (tE2 k2)), (7, .int (tE2 (k2 + 1))), (6, .int (tE2 (k2 + 2))), (5, .int (tE2 (k2 + 3))), (4, .int (tA2 k2)), (3, .int (tA2 (k2 + 1))), (2, .int (tA2 (k2 + 2))), (1, .int (tA2 (k2 + 3))), (0, .ref h0)]) hx hb dX1_mixSecond_248 hl (by decide) rfl (fun ls hl => ?_)
      refine lv_iload_n hx hb dX1_mixSecond_250 rfl (lv_at hl 9 rfl) ?_
      refine lv_iconst (v := 2) hx hb dX1_mixSecond_251 (by decide) ?_
      refine lv_iushr (v := zu (tA2 (k2 + 3)) (2 : Int32)) hx hb dX1_mixSecond_252 rfl ?_
      refine lv_iload_n hx hb dX1_mixSecond_253 rfl (lv_at hl 9 rfl) ?_
      refine lv_bipush (v := 30) hx hb dX1_mixSecond_254 (by decide) ?_
      refine lv_ishl hx hb dX1_mixSecond_256 ?_
      refine lv_ior hx hb dX1_mixSecond_257 ?_
      refine lv_iload_n hx hb dX1_mixSecond_258 rfl (lv_at hl 9 rfl) ?_
      refine lv_bipush (v := 13) hx hb dX1_mixSecond_259 (by decide) ?_
      refine lv_iushr (v := zu (tA2 (k2 + 3)) (13 : Int32)) hx hb dX1_mixSecond_261 rfl ?_
      refine lv_iload_n hx hb dX1_mixSecond_262 rfl (lv_at hl 9 rfl) ?_
      refine lv_bipush (v := 19) hx hb dX1_mixSecond_263 (by decide) ?_
      refine lv_ishl hx hb dX1_mixSecond_265 ?_
      refine lv_ior hx hb dX1_mixSecond_266 ?_
      refine lv_ixor hx hb dX1_mixSecond_267 ?_
      refine lv_iload_n hx hb dX1_mixSecond_268 rfl (lv_at hl 9 rfl) ?_
      refine lv_bipush (v := 22) hx hb dX1_mixSecond_269 (by decide) ?_
      refine lv_iushr (v := zu (tA2 (k2 + 3)) (22 : Int32)) hx hb dX1_mixSecond_271 rfl ?_
      refine lv_iload_n hx hb dX1_mixSecond_272 rfl (lv_at hl 9 rfl) ?_
      refine lv_bipush (v := 10) hx hb dX1_mixSecond_273 (by decide) ?_
      refine lv_ishl hx hb dX1_mixSecond_275 ?_
      refine lv_ior hx hb dX1_mixSecond_276 ?_
      refine lv_ixor hx hb dX1_mixSecond_277 ?_
      refine lv_iload_n hx hb dX1_mixSecond_278 rfl (lv_at hl 9 rfl) ?_
      refine lv_iload_n hx hb dX1_mixSecond_279 rfl (lv_at hl 8 rfl) ?_
      refine lv_iand hx hb dX1_mixSecond_280 ?_
      refine lv_iload_n hx hb dX1_mixSecond_281 rfl (lv_at hl 9 rfl) ?_
      refine lv_iload_n hx hb dX1_mixSecond_282 rfl (lv_at hl 7 rfl) ?_
      refine lv_iand hx hb dX1_mixSecond_283 ?_
      refine lv_ixor hx hb dX1_mixSecond_284 ?_
      refine lv_iload_n hx hb dX1_mixSecond_285 rfl (lv_at hl 8 rfl) ?_
      refine lv_iload_n hx hb dX1_mixSecond_286 rfl (lv_at hl 7 rfl) ?_
      refine lv_iand hx hb dX1_mixSecond_287 ?_
      refine lv_ixor hx hb dX1_mixSecond_288 ?_
      refine lv_iadd hx hb dX1_mixSecond_289 ?_
      refine lv_istore (lv' := [(11, .int (((((zu (tA2 (k2 + 3)) (2 : Int32)) ||| ((tA2 (k2 + 3)) <<< ((30 : Int32) &&& 31))) ^^^ ((zu (tA2 (k2 + 3)) (13 : Int32)) ||| ((tA2 (k2 + 3)) <<< ((19 : Int32) &&& 31)))) ^^^ ((zu (tA2 (k2 + 3)) (22 : Int32)) ||| ((tA2 (k2 + 3)) <<< ((10 : Int32) &&& 31)))) + ((((tA2 (k2 + 3)) &&& (tA2 (k2 + 2))) ^^^ ((tA2 (k2 + 3)) &&& (tA2 (k2 + 1)))) ^^^ ((tA2 (k2 + 2)) &&& (tA2 (k2 + 1)))))), (10, .int (tT k2)), (9, .int (nI k2)), (8, .int (tE2 k2)), (7, .int (tE2 (k2 + 1))), (6, .int (tE2 (k2 + 2))), (5, .int (tE2 (k2 + 3))), (4, .int (tA2 k2)), (3, .int (tA2 (k2 + 1))), (2, .int (tA2 (k2 + 2))), (1, .int (tA2 (k2 + 3))), (0, .ref h0)]) hx hb dX1_mixSecond_290 hl (by decide) rfl (fun ls hl => ?_)
      refine lv_iload hx hb dX1_mixSecond_292 (lv_at hl 4 rfl) ?_
      refine lv_istore (lv' := [(8, .int (tE2 (k2 + 1))), (11, .int (((((zu (tA2 (k2 + 3)) (2 : Int32)) ||| ((tA2 (k2 + 3)) <<< ((30 : Int32) &&& 31))) ^^^ ((zu (tA2 (k2 + 3)) (13 : Int32)) ||| ((tA2 (k2 + 3)) <<< ((19 : Int32) &&& 31)))) ^^^ ((zu (tA2 (k2 + 3)) (22 : Int32)) ||| ((tA2 (k2 + 3)) <<< ((10 : Int32) &&& 31)))) + ((((tA2 (k2 + 3)) &&& (tA2 (k2 + 2))) ^^^ ((tA2 (k2 + 3)) &&& (tA2 (k2 + 1)))) ^^^ ((tA2 (k2 + 2)) &&& (tA2 (k2 + 1)))))), (10, .int (tT k2)), (9, .int (nI k2)), (7, .int (tE2 (k2 + 1))), (6, .int (tE2 (k2 + 2))), (5, .int (tE2 (k2 + 3))), (4, .int (tA2 k2)), (3, .int (tA2 (k2 + 1))), (2, .int (tA2 (k2 + 2))), (1, .int (tA2 (k2 + 3))), (0, .ref h0)]) hx hb dX1_mixSecond_294 hl (by decide) rfl (fun ls hl => ?_)
      refine lv_iload hx hb dX1_mixSecond_296 (lv_at hl 5 rfl) ?_
      refine lv_istore (lv' := [(7, .int (tE2 (k2 + 2))), (8, .int (tE2 (k2 + 1))), (11, .int (((((zu (tA2 (k2 + 3)) (2 : Int32)) ||| ((tA2 (k2 + 3)) <<< ((30 : Int32) &&& 31))) ^^^ ((zu (tA2 (k2 + 3)) (13 : Int32)) ||| ((tA2 (k2 + 3)) <<< ((19 : Int32) &&& 31)))) ^^^ ((zu (tA2 (k2 + 3)) (22 : Int32)) ||| ((tA2 (k2 + 3)) <<< ((10 : Int32) &&& 31)))) + ((((tA2 (k2 + 3)) &&& (tA2 (k2 + 2))) ^^^ ((tA2 (k2 + 3)) &&& (tA2 (k2 + 1)))) ^^^ ((tA2 (k2 + 2)) &&& (tA2 (k2 + 1)))))), (10, .int (tT k2)), (9, .int (nI k2)), (6, .int (tE2 (k2 + 2))), (5, .int (tE2 (k2 + 3))), (4, .int (tA2 k2)), (3, .int (tA2 (k2 + 1))), (2, .int (tA2 (k2 + 2))), (1, .int (tA2 (k2 + 3))), (0, .ref h0)]) hx hb dX1_mixSecond_298 hl (by decide) rfl (fun ls hl => ?_)
      refine lv_iload hx hb dX1_mixSecond_300 (lv_at hl 6 rfl) ?_
      refine lv_istore (lv' := [(6, .int (tE2 (k2 + 3))), (7, .int (tE2 (k2 + 2))), (8, .int (tE2 (k2 + 1))), (11, .int (((((zu (tA2 (k2 + 3)) (2 : Int32)) ||| ((tA2 (k2 + 3)) <<< ((30 : Int32) &&& 31))) ^^^ ((zu (tA2 (k2 + 3)) (13 : Int32)) ||| ((tA2 (k2 + 3)) <<< ((19 : Int32) &&& 31)))) ^^^ ((zu (tA2 (k2 + 3)) (22 : Int32)) ||| ((tA2 (k2 + 3)) <<< ((10 : Int32) &&& 31)))) + ((((tA2 (k2 + 3)) &&& (tA2 (k2 + 2))) ^^^ ((tA2 (k2 + 3)) &&& (tA2 (k2 + 1)))) ^^^ ((tA2 (k2 + 2)) &&& (tA2 (k2 + 1)))))), (10, .int (tT k2)), (9, .int (nI k2)), (5, .int (tE2 (k2 + 3))), (4, .int (tA2 k2)), (3, .int (tA2 (k2 + 1))), (2, .int (tA2 (k2 + 2))), (1, .int (tA2 (k2 + 3))), (0, .ref h0)]) hx hb dX1_mixSecond_302 hl (by decide) rfl (fun ls hl => ?_)
      refine lv_iload hx hb dX1_mixSecond_304 (lv_at hl 7 rfl) ?_
      refine lv_iload hx hb dX1_mixSecond_306 (lv_at hl 4 rfl) ?_
      refine lv_iadd hx hb dX1_mixSecond_308 ?_
      refine lv_topi (fun v20 ev20 => ?_)
      have ev20 : v20 = tE2 (k2 + 4) := ev20.trans (ax_c_X1_mixSecond_9 k2 hk21 hk20)
      subst ev20
      refine lv_istore (lv' := [(5, .int (tE2 (k2 + 4))), (6, .int (tE2 (k2 + 3))), (7, .int (tE2 (k2 + 2))), (8, .int (tE2 (k2 + 1))), (11, .int (((((zu (tA2 (k2 + 3)) (2 : Int32)) ||| ((tA2 (k2 + 3)) <<< ((30 : Int32) &&& 31))) ^^^ ((zu (tA2 (k2 + 3)) (13 : Int32)) ||| ((tA2 (k2 + 3)) <<< ((19 : Int32) &&& 31)))) ^^^ ((zu (tA2 (k2 + 3)) (22 : Int32)) ||| ((tA2 (k2 + 3)) <<< ((10 : Int32) &&& 31)))) + ((((tA2 (k2 + 3)) &&& (tA2 (k2 + 2))) ^^^ ((tA2 (k2 + 3)) &&& (tA2 (k2 + 1)))) ^^^ ((tA2 (k2 + 2)) &&& (tA2 (k2 + 1)))))), (10, .int (tT k2)), (9, .int (nI k2)), (4, .int (tA2 k2)), (3, .int (tA2 (k2 + 1))), (2, .int (tA2 (k2 + 2))), (1, .int (tA2 (k2 + 3))), (0, .ref h0)]) hx hb dX1_mixSecond_309 hl (by decide) rfl (fun ls hl => ?_)
      refine lv_iload_n hx hb dX1_mixSecond_311 rfl (lv_at hl 8 rfl) ?_
      refine lv_istore (lv' := [(4, .int (tA2 (k2 + 1))), (5, .int (tE2 (k2 + 4))), (6, .int (tE2 (k2 + 3))), (7, .int (tE2 (k2 + 2))), (8, .int (tE2 (k2 + 1))), (11, .int (((((zu (tA2 (k2 + 3)) (2 : Int32)) ||| ((tA2 (k2 + 3)) <<< ((30 : Int32) &&& 31))) ^^^ ((zu (tA2 (k2 + 3)) (13 : Int32)) ||| ((tA2 (k2 + 3)) <<< ((19 : Int32) &&& 31)))) ^^^ ((zu (tA2 (k2 + 3)) (22 : Int32)) ||| ((tA2 (k2 + 3)) <<< ((10 : Int32) &&& 31)))) + ((((tA2 (k2 + 3)) &&& (tA2 (k2 + 2))) ^^^ ((tA2 (k2 + 3)) &&& (tA2 (k2 + 1)))) ^^^ ((tA2 (k2 + 2)) &&& (tA2 (k2 + 1)))))), (10, .int (tT k2)), (9, .int (nI k2)), (3, .int (tA2 (k2 + 1))), (2, .int (tA2 (k2 + 2))), (1, .int (tA2 (k2 + 3))), (0, .ref h0)]) hx hb dX1_mixSecond_312 hl (by decide) rfl (fun ls hl => ?_)
      refine lv_iload_n hx hb dX1_mixSecond_314 rfl (lv_at hl 9 rfl) ?_
      refine lv_istore_n (lv' := [(3, .int (tA2 (k2 + 2))), (4, .int (tA2 (k2 + 1))), (5, .int (tE2 (k2 + 4))), (6, .int (tE2 (k2 + 3))), (7, .int (tE2 (k2 + 2))), (8, .int (tE2 (k2 + 1))), (11, .int (((((zu (tA2 (k2 + 3)) (2 : Int32)) ||| ((tA2 (k2 + 3)) <<< ((30 : Int32) &&& 31))) ^^^ ((zu (tA2 (k2 + 3)) (13 : Int32)) ||| ((tA2 (k2 + 3)) <<< ((19 : Int32) &&& 31)))) ^^^ ((zu (tA2 (k2 + 3)) (22 : Int32)) ||| ((tA2 (k2 + 3)) <<< ((10 : Int32) &&& 31)))) + ((((tA2 (k2 + 3)) &&& (tA2 (k2 + 2))) ^^^ ((tA2 (k2 + 3)) &&& (tA2 (k2 + 1)))) ^^^ ((tA2 (k2 + 2)) &&& (tA2 (k2 + 1)))))), (10, .int (tT k2)), (9, .int (nI k2)), (2, .int (tA2 (k2 + 2))), (1, .int (tA2 (k2 + 3))), (0, .ref h0)]) hx hb dX1_mixSecond_315 rfl hl (by decide) rfl (fun ls hl => ?_)
      refine lv_iload_n hx hb dX1_mixSecond_316 rfl (lv_at hl 10 rfl) ?_
      refine lv_istore_n (lv' := [(2, .int (tA2 (k2 + 3))), (3, .int (tA2 (k2 + 2))), (4, .int (tA2 (k2 + 1))), (5, .int (tE2 (k2 + 4))), (6, .int (tE2 (k2 + 3))), (7, .int (tE2 (k2 + 2))), (8, .int (tE2 (k2 + 1))), (11, .int (((((zu (tA2 (k2 + 3)) (2 : Int32)) ||| ((tA2 (k2 + 3)) <<< ((30 : Int32) &&& 31))) ^^^ ((zu (tA2 (k2 + 3)) (13 : Int32)) ||| ((tA2 (k2 + 3)) <<< ((19 : Int32) &&& 31)))) ^^^ ((zu (tA2 (k2 + 3)) (22 : Int32)) ||| ((tA2 (k2 + 3)) <<< ((10 : Int32) &&& 31)))) + ((((tA2 (k2 + 3)) &&& (tA2 (k2 + 2))) ^^^ ((tA2 (k2 + 3)) &&& (tA2 (k2 + 1)))) ^^^ ((tA2 (k2 + 2)) &&& (tA2 (k2 + 1)))))), (10, .int (tT k2)), (9, .int (nI k2)), (1, .int (tA2 (k2 + 3))), (0, .ref h0)]) hx hb dX1_mixSecond_317 rfl hl (by decide) rfl (fun ls hl => ?_)
      refine lv_iload hx hb dX1_mixSecond_318 (lv_at hl 8 rfl) ?_
      refine lv_iload hx hb dX1_mixSecond_320 (lv_at hl 7 rfl) ?_
      refine lv_iadd hx hb dX1_mixSecond_322 ?_
      refine lv_topi (fun v21 ev21 => ?_)
      have ev21 : v21 = tA2 (k2 + 4) := ev21.trans (ax_c_X1_mixSecond_10 k2 hk21 hk20)
      subst ev21
      refine lv_istore_n (lv' := [(1, .int (tA2 (k2 + 4))), (2, .int (tA2 (k2 + 3))), (3, .int (tA2 (k2 + 2))), (4, .int (tA2 (k2 + 1))), (5, .int (tE2 (k2 + 4))), (6, .int (tE2 (k2 + 3))), (7, .int (tE2 (k2 + 2))), (8, .int (tE2 (k2 + 1))), (11, .int (((((zu (tA2 (k2 + 3)) (2 : Int32)) ||| ((tA2 (k2 + 3)) <<< ((30 : Int32) &&& 31))) ^^^ ((zu (tA2 (k2 + 3)) (13 : Int32)) ||| ((tA2 (k2 + 3)) <<< ((19 : Int32) &&& 31)))) ^^^ ((zu (tA2 (k2 + 3)) (22 : Int32)) ||| ((tA2 (k2 + 3)) <<< ((10 : Int32) &&& 31)))) + ((((tA2 (k2 + 3)) &&& (tA2 (k2 + 2))) ^^^ ((tA2 (k2 + 3)) &&& (tA2 (k2 + 1)))) ^^^ ((tA2 (k2 + 2)) &&& (tA2 (k2 + 1)))))), (10, .int (tT k2)), (9, .int (nI k2)), (0, .ref h0)]) hx hb dX1_mixSecond_323 rfl hl (by decide) rfl (fun ls hl => ?_)
      refine lv_iinc (v := nI (k2 + 1)) (lv' := [(9, .int (nI (k2 + 1))), (1, .int (tA2 (k2 + 4))), (2, .int (tA2 (k2 + 3))), (3, .int (tA2 (k2 + 2))), (4, .int (tA2 (k2 + 1))), (5, .int (tE2 (k2 + 4))), (6, .int (tE2 (k2 + 3))), (7, .int (tE2 (k2 + 2))), (8, .int (tE2 (k2 + 1))), (11, .int (((((zu (tA2 (k2 + 3)) (2 : Int32)) ||| ((tA2 (k2 + 3)) <<< ((30 : Int32) &&& 31))) ^^^ ((zu (tA2 (k2 + 3)) (13 : Int32)) ||| ((tA2 (k2 + 3)) <<< ((19 : Int32) &&& 31)))) ^^^ ((zu (tA2 (k2 + 3)) (22 : Int32)) ||| ((tA2 (k2 + 3)) <<< ((10 : Int32) &&& 31)))) + ((((tA2 (k2 + 3)) &&& (tA2 (k2 + 2))) ^^^ ((tA2 (k2 + 3)) &&& (tA2 (k2 + 1)))) ^^^ ((tA2 (k2 + 2)) &&& (tA2 (k2 + 1)))))), (10, .int (tT k2)), (0, .ref h0)]) hx hb dX1_mixSecond_324 hl (k := 10) rfl (ax_c_X1_mixSecond_11 k2 hk21 hk20) (by decide) rfl (fun ls hl => ?_)
      refine lv_goto (tgt := 174) hx hb dX1_mixSecond_327 (by decide) ?_
      exact ih ls H locs ⟨hP, hD, hS, lv_sub hl [0, 8, 7, 6, 5, 4, 3, 2, 1, 11] rfl⟩
    · obtain ⟨hP, hD, hS, hl⟩ := hI
      have hl : lv_has ls 12 [(9, .int (nI 64)), (8, .int (tE2 64)), (7, .int (tE2 65)), (6, .int (tE2 66)), (5, .int (tE2 67)), (4, .int (tA2 64)), (3, .int (tA2 65)), (2, .int (tA2 66)), (1, .int (tA2 67)), (0, .ref h0)] := hl
      have hP : va_P D vwCl [(h0, .inr (5, [.ref st, .ref wd, w1])), (st, .inl (y 1, 8, .inl (zf tS2 8 f))), (wd, .inl (y 1, 80, .inl (zf tW2 64 g)))] H := hP
      have hD : va_D A [(h0, .inr (5, [.ref st, .ref wd, w1])), (st, .inl (y 1, 8, .inl (zf tS2 8 f))), (wd, .inl (y 1, 80, .inl (zf tW2 64 g)))] := hD
      refine lv_iload hx hb dX1_mixSecond_174 (lv_at hl 0 rfl) ?_
      refine lv_bipush (v := 64) hx hb dX1_mixSecond_176 (by decide) ?_
      refine lv_icmp_ge (tgt := 330) hx hb dX1_mixSecond_178 (by decide) (fun _ => ?_) (fun c9 => absurd (by decide) c9)
      refine lv_aload_n hx hb dX1_mixSecond_330 rfl (lv_at hl 9 rfl) ?_
      refine va_get (D := D) (ci := 5) (v := .ref st) (C := RX1) (T := TX1) (N := 3) hx hb hts (by decide +kernel) hown hK hP 0 rfl rfl 0 (by decide) (hts (.fieldLink RX1 9 "SignetRing$Digest" "state" "[I") (by decide +kernel)) (fun _ h9 => h9) rfl dX1_mixSecond_331 ?_
      refine lv_iconst (v := 0) hx hb dX1_mixSecond_334 (by decide) ?_
      refine lv_dup2_11 hx hb dX1_mixSecond_335 rfl rfl ?_
      refine va_iald hx hb hK hP 1 1 rfl rfl (by unfold vp_in; decide) dX1_mixSecond_336 ?_
      refine lv_topi (fun v22 ev22 => ?_)
      have ev22 : v22 = tS2 0 := ev22.trans (zf_rd (j := 0) (by decide) (by decide))
      subst ev22
      refine lv_iload_n hx hb dX1_mixSecond_337 rfl (lv_at hl 8 rfl) ?_
      refine lv_iadd hx hb dX1_mixSecond_338 ?_
      refine va_iast hx hb hK hP hD hS 1 1 rfl rfl (by unfold vp_in; decide) dX1_mixSecond_339 (fun H locs hP hD hS => ?_)
      have hP : va_P D vwCl [(h0, .inr (5, [.ref st, .ref wd, w1])), (st, .inl (y 1, 8, .inl (upd (zf tD2 0 (zf tS2 8 f)) (nI 0).toNatClampNeg ((tS2 0) + (tA2 67))))), (wd, .inl (y 1, 80, .inl (zf tW2 64 g)))] H := hP
      have hD : va_D A [(h0, .inr (5, [.ref st, .ref wd, w1])), (st, .inl (y 1, 8, .inl (upd (zf tD2 0 (zf tS2 8 f)) (nI 0).toNatClampNeg ((tS2 0) + (tA2 67))))), (wd, .inl (y 1, 80, .inl (zf tW2 64 g)))] := hD
      have u23 : upd (zf tD2 0 (zf tS2 8 f)) (nI 0).toNatClampNeg ((tS2 0) + (tA2 67)) = zf tD2 1 (zf tS2 8 f) := (zf_st (n := 0) (by decide) (by decide +kernel))
      rw [u23] at hP hD
      have hP : va_P D vwCl [(h0, .inr (5, [.ref st, .ref wd, w1])), (st, .inl (y 1, 8, .inl (zf tD2 1 (zf tS2 8 f)))), (wd, .inl (y 1, 80, .inl (zf tW2 64 g)))] H := hP
      have hD : va_D A [(h0, .inr (5, [.ref st, .ref wd, w1])), (st, .inl (y 1, 8, .inl (zf tD2 1 (zf tS2 8 f)))), (wd, .inl (y 1, 80, .inl (zf tW2 64 g)))] := hD
      refine lv_aload_n hx hb dX1_mixSecond_340 rfl (lv_at hl 9 rfl) ?_
      refine va_get (D := D) (ci := 5) (v := .ref st) (C := RX1) (T := TX1) (N := 3) hx hb hts (by decide +kernel) hown hK hP 0 rfl rfl 0 (by decide) (hts (.fieldLink RX1 9 "SignetRing$Digest" "state" "[I") (by decide +kernel)) (fun _ h9 => h9) rfl dX1_mixSecond_341 ?_
      refine lv_iconst (v := 1) hx hb dX1_mixSecond_344 (by decide) ?_
      refine lv_dup2_11 hx hb dX1_mixSecond_345 rfl rfl ?_
      refine va_iald hx hb hK hP 1 1 rfl rfl (by unfold vp_in; decide) dX1_mixSecond_346 ?_
      refine lv_topi (fun v24 ev24 => ?_)
      have ev24 : v24 = tS2 1 := ev24.trans (zf_rdo (j := 1) (by omega) (by omega) (zf_rd (j := 1) (by decide) (by decide)))
      subst ev24
      refine lv_iload_n hx hb dX1_mixSecond_347 rfl (lv_at hl 7 rfl) ?_
      refine lv_iadd hx hb dX1_mixSecond_348 ?_
      refine va_iast hx hb hK hP hD hS 1 1 rfl rfl (by unfold vp_in; decide) dX1_mixSecond_349 (fun H locs hP hD hS => ?_)
      have hP : va_P D vwCl [(h0, .inr (5, [.ref st, .ref wd, w1])), (st, .inl (y 1, 8, .inl (upd (zf tD2 1 (zf tS2 8 f)) (nI 1).toNatClampNeg ((tS2 1) + (tA2 66))))), (wd, .inl (y 1, 80, .inl (zf tW2 64 g)))] H := hP
      have hD : va_D A [(h0, .inr (5, [.ref st, .ref wd, w1])), (st, .inl (y 1, 8, .inl (upd (zf tD2 1 (zf tS2 8 f)) (nI 1).toNatClampNeg ((tS2 1) + (tA2 66))))), (wd, .inl (y 1, 80, .inl (zf tW2 64 g)))] := hD
      have u25 : upd (zf tD2 1 (zf tS2 8 f)) (nI 1).toNatClampNeg ((tS2 1) + (tA2 66)) = zf tD2 2 (zf tS2 8 f) := (zf_st (n := 1) (by decide) (by decide +kernel))
      rw [u25] at hP hD
      have hP : va_P D vwCl [(h0, .inr (5, [.ref st, .ref wd, w1])), (st, .inl (y 1, 8, .inl (zf tD2 2 (zf tS2 8 f)))), (wd, .inl (y 1, 80, .inl (zf tW2 64 g)))] H := hP
      have hD : va_D A [(h0, .inr (5, [.ref st, .ref wd, w1])), (st, .inl (y 1, 8, .inl (zf tD2 2 (zf tS2 8 f)))), (wd, .inl (y 1, 80, .inl (zf tW2 64 g)))] := hD
      refine lv_aload_n hx hb dX1_mixSecond_350 rfl (lv_at hl 9 rfl) ?_
      refine va_get (D := D) (ci := 5) (v := .ref st) (C := RX1) (T := TX1) (N := 3) hx hb hts (by decide +kernel) hown hK hP 0 rfl rfl 0 (by decide) (hts (.fieldLink RX1 9 "SignetRing$Digest" "state" "[I") (by decide +kernel)) (fun _ h9 => h9) rfl dX1_mixSecond_351 ?_
      refine lv_iconst (v := 2) hx hb dX1_mixSecond_354 (by decide) ?_
      refine lv_dup2_11 hx hb dX1_mixSecond_355 rfl rfl ?_
      refine va_iald hx hb hK hP 1 1 rfl rfl (by unfold vp_in; decide) dX1_mixSecond_356 ?_
      refine lv_topi (fun v26 ev26 => ?_)
      have ev26 : v26 = tS2 2 := ev26.trans (zf_rdo (j := 2) (by omega) (by omega) (zf_rd (j := 2) (by decide) (by decide)))
      subst ev26
      refine lv_iload_n hx hb dX1_mixSecond_357 rfl (lv_at hl 6 rfl) ?_
      refine lv_iadd hx hb dX1_mixSecond_358 ?_
      refine va_iast hx hb hK hP hD hS 1 1 rfl rfl (by unfold vp_in; decide) dX1_mixSecond_359 (fun H locs hP hD hS => ?_)
      have hP : va_P D vwCl [(h0, .inr (5, [.ref st, .ref wd, w1])), (st, .inl (y 1, 8, .inl (upd (zf tD2 2 (zf tS2 8 f)) (nI 2).toNatClampNeg ((tS2 2) + (tA2 65))))), (wd, .inl (y 1, 80, .inl (zf tW2 64 g)))] H := hP
      have hD : va_D A [(h0, .inr (5, [.ref st, .ref wd, w1])), (st, .inl (y 1, 8, .inl (upd (zf tD2 2 (zf tS2 8 f)) (nI 2).toNatClampNeg ((tS2 2) + (tA2 65))))), (wd, .inl (y 1, 80, .inl (zf tW2 64 g)))] := hD
      have u27 : upd (zf tD2 2 (zf tS2 8 f)) (nI 2).toNatClampNeg ((tS2 2) + (tA2 65)) = zf tD2 3 (zf tS2 8 f) := (zf_st (n := 2) (by decide) (by decide +kernel))
      rw [u27] at hP hD
      have hP : va_P D vwCl [(h0, .inr (5, [.ref st, .ref wd, w1])), (st, .inl (y 1, 8, .inl (zf tD2 3 (zf tS2 8 f)))), (wd, .inl (y 1, 80, .inl (zf tW2 64 g)))] H := hP
      have hD : va_D A [(h0, .inr (5, [.ref st, .ref wd, w1])), (st, .inl (y 1, 8, .inl (zf tD2 3 (zf tS2 8 f)))), (wd, .inl (y 1, 80, .inl (zf tW2 64 g)))] := hD
      refine lv_aload_n hx hb dX1_mixSecond_360 rfl (lv_at hl 9 rfl) ?_
      refine va_get (D := D) (ci := 5) (v := .ref st) (C := RX1) (T := TX1) (N := 3) hx hb hts (by decide +kernel) hown hK hP 0 rfl rfl 0 (by decide) (hts (.fieldLink RX1 9 "SignetRing$Digest" "state" "[I") (by decide +kernel)) (fun _ h9 => h9) rfl dX1_mixSecond_361 ?_
      refine lv_iconst (v := 3) hx hb dX1_mixSecond_364 (by decide) ?_
      refine lv_dup2_11 hx hb dX1_mixSecond_365 rfl rfl ?_
      refine va_iald hx hb hK hP 1 1 rfl rfl (by unfold vp_in; decide) dX1_mixSecond_366 ?_
      refine lv_topi (fun v28 ev28 => ?_)
      have ev28 : v28 = tS2 3 := ev28.trans (zf_rdo (j := 3) (by omega) (by omega) (zf_rd (j := 3) (by decide) (by decide)))
      subst ev28
      refine lv_iload hx hb dX1_mixSecond_367 (lv_at hl 5 rfl) ?_
      refine lv_iadd hx hb dX1_mixSecond_369 ?_
      refine va_iast hx hb hK hP hD hS 1 1 rfl rfl (by unfold vp_in; decide) dX1_mixSecond_370 (fun H locs hP hD hS => ?_)
      have hP : va_P D vwCl [(h0, .inr (5, [.ref st, .ref wd, w1])), (st, .inl (y 1, 8, .inl (upd (zf tD2 3 (zf tS2 8 f)) (nI 3).toNatClampNeg ((tS2 3) + (tA2 64))))), (wd, .inl (y 1, 80, .inl (zf tW2 64 g)))] H := hP
      have hD : va_D A [(h0, .inr (5, [.ref st, .ref wd, w1])), (st, .inl (y 1, 8, .inl (upd (zf tD2 3 (zf tS2 8 f)) (nI 3).toNatClampNeg ((tS2 3) + (tA2 64))))), (wd, .inl (y 1, 80, .inl (zf tW2 64 g)))] := hD
      have u29 : upd (zf tD2 3 (zf tS2 8 f)) (nI 3).toNatClampNeg ((tS2 3) + (tA2 64)) = zf tD2 4 (zf tS2 8 f) := (zf_st (n := 3) (by decide) (by decide +kernel))
      rw [u29] at hP hD
      have hP : va_P D vwCl [(h0, .inr (5, [.ref st, .ref wd, w1])), (st, .inl (y 1, 8, .inl (zf tD2 4 (zf tS2 8 f)))), (wd, .inl (y 1, 80, .inl (zf tW2 64 g)))] H := hP
      have hD : va_D A [(h0, .inr (5, [.ref st, .ref wd, w1])), (st, .inl (y 1, 8, .inl (zf tD2 4 (zf tS2 8 f)))), (wd, .inl (y 1, 80, .inl (zf tW2 64 g)))] := hD
      refine lv_aload_n hx hb dX1_mixSecond_371 rfl (lv_at hl 9 rfl) ?_
      refine va_get (D := D) (ci := 5) (v := .ref st) (C := RX1) (T := TX1) (N := 3) hx hb hts (by decide +kernel) hown hK hP 0 rfl rfl 0 (by decide) (hts (.fieldLink RX1 9 "SignetRing$Digest" "state" "[I") (by decide +kernel)) (fun _ h9 => h9) rfl dX1_mixSecond_372 ?_
      refine lv_iconst (v := 4) hx hb dX1_mixSecond_375 (by decide) ?_
      refine lv_dup2_11 hx hb dX1_mixSecond_376 rfl rfl ?_
      refine va_iald hx hb hK hP 1 1 rfl rfl (by unfold vp_in; decide) dX1_mixSecond_377 ?_
      refine lv_topi (fun v30 ev30 => ?_)
      have ev30 : v30 = tS2 4 := ev30.trans (zf_rdo (j := 4) (by omega) (by omega) (zf_rd (j := 4) (by decide) (by decide)))
      subst ev30
      refine lv_iload hx hb dX1_mixSecond_378 (lv_at hl 4 rfl) ?_
      refine lv_iadd hx hb dX1_mixSecond_380 ?_
      refine va_iast hx hb hK hP hD hS 1 1 rfl rfl (by unfold vp_in; decide) dX1_mixSecond_381 (fun H locs hP hD hS => ?_)
      have hP : va_P D vwCl [(h0, .inr (5, [.ref st, .ref wd, w1])), (st, .inl (y 1, 8, .inl (upd (zf tD2 4 (zf tS2 8 f)) (nI 4).toNatClampNeg ((tS2 4) + (tE2 67))))), (wd, .inl (y 1, 80, .inl (zf tW2 64 g)))] H := hP
      have hD : va_D A [(h0, .inr (5, [.ref st, .ref wd, w1])), (st, .inl (y 1, 8, .inl (upd (zf tD2 4 (zf tS2 8 f)) (nI 4).toNatClampNeg ((tS2 4) + (tE2 67))))), (wd, .inl (y 1, 80, .inl (zf tW2 64 g)))] := hD
      have u31 : upd (zf tD2 4 (zf tS2 8 f)) (nI 4).toNatClampNeg ((tS2 4) + (tE2 67)) = zf tD2 5 (zf tS2 8 f) := (zf_st (n := 4) (by decide) (by decide +kernel))
      rw [u31] at hP hD
      have hP : va_P D vwCl [(h0, .inr (5, [.ref st, .ref wd, w1])), (st, .inl (y 1, 8, .inl (zf tD2 5 (zf tS2 8 f)))), (wd, .inl (y 1, 80, .inl (zf tW2 64 g)))] H := hP
      have hD : va_D A [(h0, .inr (5, [.ref st, .ref wd, w1])), (st, .inl (y 1, 8, .inl (zf tD2 5 (zf tS2 8 f)))), (wd, .inl (y 1, 80, .inl (zf tW2 64 g)))] := hD
      refine lv_aload_n hx hb dX1_mixSecond_382 rfl (lv_at hl 9 rfl) ?_
      refine va_get (D := D) (ci := 5) (v := .ref st) (C := RX1) (T := TX1) (N := 3) hx hb hts (by decide +kernel) hown hK hP 0 rfl rfl 0 (by decide) (hts (.fieldLink RX1 9 "SignetRing$Digest" "state" "[I") (by decide +kernel)) (fun _ h9 => h9) rfl dX1_mixSecond_383 ?_
      refine lv_iconst (v := 5) hx hb dX1_mixSecond_386 (by decide) ?_
      refine lv_dup2_11 hx hb dX1_mixSecond_387 rfl rfl ?_
      refine va_iald hx hb hK hP 1 1 rfl rfl (by unfold vp_in; decide) dX1_mixSecond_388 ?_
      refine lv_topi (fun v32 ev32 => ?_)
      have ev32 : v32 = tS2 5 := ev32.trans (zf_rdo (j := 5) (by omega) (by omega) (zf_rd (j := 5) (by decide) (by decide)))
      subst ev32
      refine lv_iload hx hb dX1_mixSecond_389 (lv_at hl 3 rfl) ?_
      refine lv_iadd hx hb dX1_mixSecond_391 ?_
      refine va_iast hx hb hK hP hD hS 1 1 rfl rfl (by unfold vp_in; decide) dX1_mixSecond_392 (fun H locs hP hD hS => ?_)
      have hP : va_P D vwCl [(h0, .inr (5, [.ref st, .ref wd, w1])), (st, .inl (y 1, 8, .inl (upd (zf tD2 5 (zf tS2 8 f)) (nI 5).toNatClampNeg ((tS2 5) + (tE2 66))))), (wd, .inl (y 1, 80, .inl (zf tW2 64 g)))] H := hP
      have hD : va_D A [(h0, .inr (5, [.ref st, .ref wd, w1])), (st, .inl (y 1, 8, .inl (upd (zf tD2 5 (zf tS2 8 f)) (nI 5).toNatClampNeg ((tS2 5) + (tE2 66))))), (wd, .inl (y 1, 80, .inl (zf tW2 64 g)))] := hD
      have u33 : upd (zf tD2 5 (zf tS2 8 f)) (nI 5).toNatClampNeg ((tS2 5) + (tE2 66)) = zf tD2 6 (zf tS2 8 f) := (zf_st (n := 5) (by decide) (by decide +kernel))
      rw [u33] at hP hD
      have hP : va_P D vwCl [(h0, .inr (5, [.ref st, .ref wd, w1])), (st, .inl (y 1, 8, .inl (zf tD2 6 (zf tS2 8 f)))), (wd, .inl (y 1, 80, .inl (zf tW2 64 g)))] H := hP
      have hD : va_D A [(h0, .inr (5, [.ref st, .ref wd, w1])), (st, .inl (y 1, 8, .inl (zf tD2 6 (zf tS2 8 f)))), (wd, .inl (y 1, 80, .inl (zf tW2 64 g)))] := hD
      refine lv_aload_n hx hb dX1_mixSecond_393 rfl (lv_at hl 9 rfl) ?_
      refine va_get (D := D) (ci := 5) (v := .ref st) (C := RX1) (T := TX1) (N := 3) hx hb hts (by decide +kernel) hown hK hP 0 rfl rfl 0 (by decide) (hts (.fieldLink RX1 9 "SignetRing$Digest" "state" "[I") (by decide +kernel)) (fun _ h9 => h9) rfl dX1_mixSecond_394 ?_
      refine lv_bipush (v := 6) hx hb dX1_mixSecond_397 (by decide) ?_
      refine lv_dup2_11 hx hb dX1_mixSecond_399 rfl rfl ?_
      refine va_iald hx hb hK hP 1 1 rfl rfl (by unfold vp_in; decide) dX1_mixSecond_400 ?_
      refine lv_topi (fun v34 ev34 => ?_)
      have ev34 : v34 = tS2 6 := ev34.trans (zf_rdo (j := 6) (by omega) (by omega) (zf_rd (j := 6) (by decide) (by decide)))
      subst ev34
      refine lv_iload hx hb dX1_mixSecond_401 (lv_at hl 2 rfl) ?_
      refine lv_iadd hx hb dX1_mixSecond_403 ?_
      refine va_iast hx hb hK hP hD hS 1 1 rfl rfl (by unfold vp_in; decide) dX1_mixSecond_404 (fun H locs hP hD hS => ?_)
      have hP : va_P D vwCl [(h0, .inr (5, [.ref st, .ref wd, w1])), (st, .inl (y 1, 8, .inl (upd (zf tD2 6 (zf tS2 8 f)) (nI 6).toNatClampNeg ((tS2 6) + (tE2 65))))), (wd, .inl (y 1, 80, .inl (zf tW2 64 g)))] H := hP
      have hD : va_D A [(h0, .inr (5, [.ref st, .ref wd, w1])), (st, .inl (y 1, 8, .inl (upd (zf tD2 6 (zf tS2 8 f)) (nI 6).toNatClampNeg ((tS2 6) + (tE2 65))))), (wd, .inl (y 1, 80, .inl (zf tW2 64 g)))] := hD
      have u35 : upd (zf tD2 6 (zf tS2 8 f)) (nI 6).toNatClampNeg ((tS2 6) + (tE2 65)) = zf tD2 7 (zf tS2 8 f) := (zf_st (n := 6) (by decide) (by decide +kernel))
      rw [u35] at hP hD
      have hP : va_P D vwCl [(h0, .inr (5, [.ref st, .ref wd, w1])), (st, .inl (y 1, 8, .inl (zf tD2 7 (zf tS2 8 f)))), (wd, .inl (y 1, 80, .inl (zf tW2 64 g)))] H := hP
      have hD : va_D A [(h0, .inr (5, [.ref st, .ref wd, w1])), (st, .inl (y 1, 8, .inl (zf tD2 7 (zf tS2 8 f)))), (wd, .inl (y 1, 80, .inl (zf tW2 64 g)))] := hD
      refine lv_aload_n hx hb dX1_mixSecond_405 rfl (lv_at hl 9 rfl) ?_
      refine va_get (D := D) (ci := 5) (v := .ref st) (C := RX1) (T := TX1) (N := 3) hx hb hts (by decide +kernel) hown hK hP 0 rfl rfl 0 (by decide) (hts (.fieldLink RX1 9 "SignetRing$Digest" "state" "[I") (by decide +kernel)) (fun _ h9 => h9) rfl dX1_mixSecond_406 ?_
      refine lv_bipush (v := 7) hx hb dX1_mixSecond_409 (by decide) ?_
      refine lv_dup2_11 hx hb dX1_mixSecond_411 rfl rfl ?_
      refine va_iald hx hb hK hP 1 1 rfl rfl (by unfold vp_in; decide) dX1_mixSecond_412 ?_
      refine lv_topi (fun v36 ev36 => ?_)
      have ev36 : v36 = tS2 7 := ev36.trans (zf_rdo (j := 7) (by omega) (by omega) (zf_rd (j := 7) (by decide) (by decide)))
      subst ev36
      refine lv_iload hx hb dX1_mixSecond_413 (lv_at hl 1 rfl) ?_
      refine lv_iadd hx hb dX1_mixSecond_415 ?_
      refine va_iast hx hb hK hP hD hS 1 1 rfl rfl (by unfold vp_in; decide) dX1_mixSecond_416 (fun H locs hP hD hS => ?_)
      have hP : va_P D vwCl [(h0, .inr (5, [.ref st, .ref wd, w1])), (st, .inl (y 1, 8, .inl (upd (zf tD2 7 (zf tS2 8 f)) (nI 7).toNatClampNeg ((tS2 7) + (tE2 64))))), (wd, .inl (y 1, 80, .inl (zf tW2 64 g)))] H := hP
      have hD : va_D A [(h0, .inr (5, [.ref st, .ref wd, w1])), (st, .inl (y 1, 8, .inl (upd (zf tD2 7 (zf tS2 8 f)) (nI 7).toNatClampNeg ((tS2 7) + (tE2 64))))), (wd, .inl (y 1, 80, .inl (zf tW2 64 g)))] := hD
      have u37 : upd (zf tD2 7 (zf tS2 8 f)) (nI 7).toNatClampNeg ((tS2 7) + (tE2 64)) = zf tD2 8 (zf tS2 8 f) := (zf_st (n := 7) (by decide) (by decide +kernel))
      rw [u37] at hP hD
      have hP : va_P D vwCl [(h0, .inr (5, [.ref st, .ref wd, w1])), (st, .inl (y 1, 8, .inl (zf tD2 8 (zf tS2 8 f)))), (wd, .inl (y 1, 80, .inl (zf tW2 64 g)))] H := hP
      have hD : va_D A [(h0, .inr (5, [.ref st, .ref wd, w1])), (st, .inl (y 1, 8, .inl (zf tD2 8 (zf tS2 8 f)))), (wd, .inl (y 1, 80, .inl (zf tW2 64 g)))] := hD
      have hP9 := hP.sub (ws' := [(h0, .inr (5, [.ref st, .ref wd, w1])), (st, .inl (y 1, 8, .inl (zf tD2 8 (zf tS2 8 f)))), (wd, .inl (y 1, 80, .inl (zf tW2 64 g)))]) [0, 1, 2] rfl
      have hD9 := hD.sub (ws' := [(h0, .inr (5, [.ref st, .ref wd, w1])), (st, .inl (y 1, 8, .inl (zf tD2 8 (zf tS2 8 f)))), (wd, .inl (y 1, 80, .inl (zf tW2 64 g)))]) [0, 1, 2] (by decide) rfl
      refine W.widen (k := 0) (n := 0) (Nat.le_of_ble_eq_true rfl) (Nat.le_of_ble_eq_true rfl) ?_
      exact W.vret hx hb hr (fun t ht hW => ⟨⟨(), rfl, trivial, by rw [ht]; exact hP9, hD9⟩, hS.F ht⟩) hS.2.2 dX1_mixSecond_417

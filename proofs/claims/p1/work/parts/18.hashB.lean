def wz_c_X1_mixFirst : List Cond := .code yX1_mixFirst cX1_mixFirst 9 none :: ([.fieldLink RX1 15 "SignetRing$Digest" "words" "[I", .fieldLink RX1 9 "SignetRing$Digest" "state" "[I", .constant RX1 48 1518500249, .constant RX1 49 1859775393, .constant RX1 50 (-1894007588), .constant RX1 51 (-899497514)] ++ (wsX10 ++ ([])))
set_option maxHeartbeats 4000000 in
set_option maxRecDepth 100000 in
theorem ax_c_X1_mixFirst_0 : ∀ k1 : Nat, k1 < 80 → 16 ≤ k1 → ¬ (80 : Int32) ≤ (nI k1) := by decide +kernel
set_option maxHeartbeats 4000000 in
set_option maxRecDepth 100000 in
theorem ax_c_X1_mixFirst_1 : ∀ k1 : Nat, k1 < 80 → 16 ≤ k1 → (nI k1) - (3 : Int32) = nI (k1 - 3) := by decide +kernel
set_option maxHeartbeats 4000000 in
set_option maxRecDepth 100000 in
theorem ax_c_X1_mixFirst_2 : ∀ k1 : Nat, k1 < 80 → 16 ≤ k1 → (nI k1) - (8 : Int32) = nI (k1 - 8) := by decide +kernel
set_option maxHeartbeats 4000000 in
set_option maxRecDepth 100000 in
theorem ax_c_X1_mixFirst_3 : ∀ k1 : Nat, k1 < 80 → 16 ≤ k1 → (nI k1) - (14 : Int32) = nI (k1 - 14) := by decide +kernel
set_option maxHeartbeats 4000000 in
set_option maxRecDepth 100000 in
theorem ax_c_X1_mixFirst_4 : ∀ k1 : Nat, k1 < 80 → 16 ≤ k1 → (nI k1) - (16 : Int32) = nI (k1 - 16) := by decide +kernel
set_option maxHeartbeats 4000000 in
set_option maxRecDepth 100000 in
theorem ax_c_X1_mixFirst_5 : ∀ k1 : Nat, k1 < 80 → 16 ≤ k1 → ((((((tW1 (k1 - 3)) ^^^ (tW1 (k1 - 8))) ^^^ (tW1 (k1 - 14))) ^^^ (tW1 (k1 - 16))) <<< ((1 : Int32) &&& 31)) ||| (zu ((((tW1 (k1 - 3)) ^^^ (tW1 (k1 - 8))) ^^^ (tW1 (k1 - 14))) ^^^ (tW1 (k1 - 16))) (31 : Int32))) = tW1 k1 := by decide +kernel
set_option maxHeartbeats 4000000 in
set_option maxRecDepth 100000 in
theorem ax_c_X1_mixFirst_6 : ∀ k1 : Nat, k1 < 80 → 16 ≤ k1 → nI k1 + Int32.ofInt 1 = nI (k1 + 1) := by decide +kernel
set_option maxHeartbeats 4000000 in
set_option maxRecDepth 100000 in
theorem ax_c_X1_mixFirst_7 : ∀ k2 : Nat, k2 < 20 → 0 ≤ k2 → ¬ (80 : Int32) ≤ (nI k2) := by decide +kernel
set_option maxHeartbeats 4000000 in
set_option maxRecDepth 100000 in
theorem ax_c_X1_mixFirst_8 : ∀ k2 : Nat, k2 < 20 → 0 ≤ k2 → ¬ (20 : Int32) ≤ (nI k2) := by decide +kernel
set_option maxHeartbeats 4000000 in
set_option maxRecDepth 100000 in
theorem ax_c_X1_mixFirst_9 : ∀ k2 : Nat, k2 < 20 → 0 ≤ k2 → (((((tA (k2 + 4)) <<< ((5 : Int32) &&& 31)) ||| (zu (tA (k2 + 4)) (27 : Int32))) + ((((tA (k2 + 3)) &&& (tC (k2 + 2))) ||| (((tA (k2 + 3)) ^^^ (-1 : Int32)) &&& (tC (k2 + 1)))) + (1518500249 : Int32))) + (tC k2)) + (tW1 k2) = tA (k2 + 5) := by decide +kernel
set_option maxHeartbeats 4000000 in
set_option maxRecDepth 100000 in
theorem ax_c_X1_mixFirst_10 : ∀ k2 : Nat, k2 < 20 → 0 ≤ k2 → ((tA (k2 + 3)) <<< ((30 : Int32) &&& 31)) ||| (zu (tA (k2 + 3)) (2 : Int32)) = tC (k2 + 3) := by decide +kernel
set_option maxHeartbeats 4000000 in
set_option maxRecDepth 100000 in
theorem ax_c_X1_mixFirst_11 : ∀ k2 : Nat, k2 < 20 → 0 ≤ k2 → nI k2 + Int32.ofInt 1 = nI (k2 + 1) := by decide +kernel
set_option maxHeartbeats 4000000 in
set_option maxRecDepth 100000 in
theorem ax_c_X1_mixFirst_12 : ∀ k3 : Nat, k3 < 40 → 20 ≤ k3 → ¬ (80 : Int32) ≤ (nI k3) := by decide +kernel
set_option maxHeartbeats 4000000 in
set_option maxRecDepth 100000 in
theorem ax_c_X1_mixFirst_13 : ∀ k3 : Nat, k3 < 40 → 20 ≤ k3 → (20 : Int32) ≤ (nI k3) := by decide +kernel
set_option maxHeartbeats 4000000 in
set_option maxRecDepth 100000 in
theorem ax_c_X1_mixFirst_14 : ∀ k3 : Nat, k3 < 40 → 20 ≤ k3 → ¬ (40 : Int32) ≤ (nI k3) := by decide +kernel
set_option maxHeartbeats 4000000 in
set_option maxRecDepth 100000 in
theorem ax_c_X1_mixFirst_15 : ∀ k3 : Nat, k3 < 40 → 20 ≤ k3 → (((((tA (k3 + 4)) <<< ((5 : Int32) &&& 31)) ||| (zu (tA (k3 + 4)) (27 : Int32))) + ((((tA (k3 + 3)) ^^^ (tC (k3 + 2))) ^^^ (tC (k3 + 1))) + (1859775393 : Int32))) + (tC k3)) + (tW1 k3) = tA (k3 + 5) := by decide +kernel
set_option maxHeartbeats 4000000 in
set_option maxRecDepth 100000 in
theorem ax_c_X1_mixFirst_16 : ∀ k3 : Nat, k3 < 40 → 20 ≤ k3 → ((tA (k3 + 3)) <<< ((30 : Int32) &&& 31)) ||| (zu (tA (k3 + 3)) (2 : Int32)) = tC (k3 + 3) := by decide +kernel
set_option maxHeartbeats 4000000 in
set_option maxRecDepth 100000 in
theorem ax_c_X1_mixFirst_17 : ∀ k3 : Nat, k3 < 40 → 20 ≤ k3 → nI k3 + Int32.ofInt 1 = nI (k3 + 1) := by decide +kernel
set_option maxHeartbeats 4000000 in
set_option maxRecDepth 100000 in
theorem ax_c_X1_mixFirst_18 : ∀ k4 : Nat, k4 < 60 → 40 ≤ k4 → ¬ (80 : Int32) ≤ (nI k4) := by decide +kernel
set_option maxHeartbeats 4000000 in
set_option maxRecDepth 100000 in
theorem ax_c_X1_mixFirst_19 : ∀ k4 : Nat, k4 < 60 → 40 ≤ k4 → (20 : Int32) ≤ (nI k4) := by decide +kernel
set_option maxHeartbeats 4000000 in
set_option maxRecDepth 100000 in
theorem ax_c_X1_mixFirst_20 : ∀ k4 : Nat, k4 < 60 → 40 ≤ k4 → (40 : Int32) ≤ (nI k4) := by decide +kernel
set_option maxHeartbeats 4000000 in
set_option maxRecDepth 100000 in
theorem ax_c_X1_mixFirst_21 : ∀ k4 : Nat, k4 < 60 → 40 ≤ k4 → ¬ (60 : Int32) ≤ (nI k4) := by decide +kernel
set_option maxHeartbeats 4000000 in
set_option maxRecDepth 100000 in
theorem ax_c_X1_mixFirst_22 : ∀ k4 : Nat, k4 < 60 → 40 ≤ k4 → (((((tA (k4 + 4)) <<< ((5 : Int32) &&& 31)) ||| (zu (tA (k4 + 4)) (27 : Int32))) + (((((tA (k4 + 3)) &&& (tC (k4 + 2))) ||| ((tA (k4 + 3)) &&& (tC (k4 + 1)))) ||| ((tC (k4 + 2)) &&& (tC (k4 + 1)))) + (-1894007588 : Int32))) + (tC k4)) + (tW1 k4) = tA (k4 + 5) := by decide +kernel
set_option maxHeartbeats 4000000 in
set_option maxRecDepth 100000 in
theorem ax_c_X1_mixFirst_23 : ∀ k4 : Nat, k4 < 60 → 40 ≤ k4 → ((tA (k4 + 3)) <<< ((30 : Int32) &&& 31)) ||| (zu (tA (k4 + 3)) (2 : Int32)) = tC (k4 + 3) := by decide +kernel
set_option maxHeartbeats 4000000 in
set_option maxRecDepth 100000 in
theorem ax_c_X1_mixFirst_24 : ∀ k4 : Nat, k4 < 60 → 40 ≤ k4 → nI k4 + Int32.ofInt 1 = nI (k4 + 1) := by decide +kernel
set_option maxHeartbeats 4000000 in
set_option maxRecDepth 100000 in
theorem ax_c_X1_mixFirst_25 : ∀ k5 : Nat, k5 < 80 → 60 ≤ k5 → ¬ (80 : Int32) ≤ (nI k5) := by decide +kernel
set_option maxHeartbeats 4000000 in
set_option maxRecDepth 100000 in
theorem ax_c_X1_mixFirst_26 : ∀ k5 : Nat, k5 < 80 → 60 ≤ k5 → (20 : Int32) ≤ (nI k5) := by decide +kernel
set_option maxHeartbeats 4000000 in
set_option maxRecDepth 100000 in
theorem ax_c_X1_mixFirst_27 : ∀ k5 : Nat, k5 < 80 → 60 ≤ k5 → (40 : Int32) ≤ (nI k5) := by decide +kernel
set_option maxHeartbeats 4000000 in
set_option maxRecDepth 100000 in
theorem ax_c_X1_mixFirst_28 : ∀ k5 : Nat, k5 < 80 → 60 ≤ k5 → (60 : Int32) ≤ (nI k5) := by decide +kernel
set_option maxHeartbeats 4000000 in
set_option maxRecDepth 100000 in
theorem ax_c_X1_mixFirst_29 : ∀ k5 : Nat, k5 < 80 → 60 ≤ k5 → (((((tA (k5 + 4)) <<< ((5 : Int32) &&& 31)) ||| (zu (tA (k5 + 4)) (27 : Int32))) + ((((tA (k5 + 3)) ^^^ (tC (k5 + 2))) ^^^ (tC (k5 + 1))) + (-899497514 : Int32))) + (tC k5)) + (tW1 k5) = tA (k5 + 5) := by decide +kernel
set_option maxHeartbeats 4000000 in
set_option maxRecDepth 100000 in
theorem ax_c_X1_mixFirst_30 : ∀ k5 : Nat, k5 < 80 → 60 ≤ k5 → ((tA (k5 + 3)) <<< ((30 : Int32) &&& 31)) ||| (zu (tA (k5 + 3)) (2 : Int32)) = tC (k5 + 3) := by decide +kernel
set_option maxHeartbeats 4000000 in
set_option maxRecDepth 100000 in
theorem ax_c_X1_mixFirst_31 : ∀ k5 : Nat, k5 < 80 → 60 ≤ k5 → nI k5 + Int32.ofInt 1 = nI (k5 + 1) := by decide +kernel
set_option maxHeartbeats 4000000 in
set_option maxRecDepth 100000 in
theorem c_X1_mixFirst (l : Launch) (D : va_G) (y : Nat → ClassId) (sz : Nat) (h0 : Nat) (st : Nat) (wd : Nat) (w1 : Value) (f : Nat → Int32) (g : Nat → Int32) : Met l yX1_mixFirst wz_c_X1_mixFirst ({ frames := 0, cells := 0, slots := 0, locals := 0 }) (va_Pc [.ref h0] (zB D y [(h0, .inr (5, [.ref st, .ref wd, w1])), (st, .inl (y 1, 8, .inl (zf tS1 8 f))), (wd, .inl (y 1, 80, .inl (zf tW1 16 g)))] sz [] [] [] [])) (va_Qv (fun _ : Unit => True) (fun _ t => va_P D vwCl [(h0, .inr (5, [.ref st, .ref wd, w1])), (st, .inl (y 1, 8, .inl (zf tD1 5 (zf tS1 8 f)))), (wd, .inl (y 1, 80, .inl (zf tW1 80 g)))] t.heap ∧ va_D (va_A [(h0, .inr (5, [.ref st, .ref wd, w1])), (st, .inl (y 1, 8, .inl (zf tS1 8 f))), (wd, .inl (y 1, 80, .inl (zf tW1 16 g)))] sz) [(h0, .inr (5, [.ref st, .ref wd, w1])), (st, .inl (y 1, 8, .inl (zf tD1 5 (zf tS1 8 f)))), (wd, .inl (y 1, 80, .inl (zf tW1 80 g)))]) (va_A [(h0, .inr (5, [.ref st, .ref wd, w1])), (st, .inl (y 1, 8, .inl (zf tS1 8 f))), (wd, .inl (y 1, 80, .inl (zf tW1 16 g)))] sz)) 0 0 (va_A [(h0, .inr (5, [.ref st, .ref wd, w1])), (st, .inl (y 1, 8, .inl (zf tS1 8 f))), (wd, .inl (y 1, 80, .inl (zf tW1 16 g)))] sz) := by
  refine Met.ofW (cc := cX1_mixFirst) (maxL := 9) (ret := none) (by decide) rfl ?_
  intro p e s m args below meth c s₁ B hml hv
  obtain ⟨rfl, hsz, hP, hK, hD0, hN, hE, hO, hT, hG⟩ := hv
  have hx := B.exec
  have hb := B.bytes
  have hr := B.returns
  have hts := atoms_spec (ws := wz_c_X1_mixFirst) B.pre
  have hown : s.vm.findClass RX1 = some m.cls := findClass_of_methodNamed B.named
  have hlocks := B.notSynchronized
  subst hsz
  have hD := hD0.self (sz := s.heap.size)
  generalize hAe : va_A [(h0, .inr (5, [.ref st, .ref wd, w1])), (st, .inl (y 1, 8, .inl (zf tS1 8 f))), (wd, .inl (y 1, 80, .inl (zf tW1 16 g)))] s.heap.size = A at hD hE hT hG ⊢
  have hA : ∀ q : Nat, s.heap.size ≤ q → A q := fun q h => by rw [← hAe]; exact Or.inr h
  have hS : va_S A s.heap s.heap [] := va_S.rf
  have hl := lv_entry ([.ref h0]) (n := 9) (Nat.le_of_ble_eq_true rfl)
  rw [lg_entry_eq]
  generalize (lg_sl ([.ref h0]) ++ List.replicate (9 - (lg_sl ([.ref h0])).length) Slot.unset).toArray = ls at hl ⊢
  have hl : lv_has ls 9 [(0, .ref h0)] := hl
  refine lv_bipush (v := 16) hx hb dX1_mixFirst_0 (by decide) ?_
  refine lv_istore_n (lv' := [(1, .int 16), (0, .ref h0)]) hx hb dX1_mixFirst_2 rfl hl (by decide) rfl (fun ls hl => ?_)
  have hl : lv_has ls 9 [(1, .int (nI 16)), (0, .ref h0)] := lv_sub hl [0, 1] rfl
  refine zz_loop (I := fun (k1 : Nat) (ls : Array Slot) (H : Heap) (locs : List Loc) => va_P D vwCl [(h0, .inr (5, [.ref st, .ref wd, w1])), (st, .inl (y 1, 8, .inl (zf tS1 8 f))), (wd, .inl (y 1, 80, .inl (zf tW1 k1 g)))] H ∧ va_D A [(h0, .inr (5, [.ref st, .ref wd, w1])), (st, .inl (y 1, 8, .inl (zf tS1 8 f))), (wd, .inl (y 1, 80, .inl (zf tW1 k1 g)))] ∧ va_S A s.heap H locs ∧ lv_has ls 9 [(1, .int (nI k1)), (0, .ref h0)]) 16 80 (by decide) ⟨hP, hD, hS, hl⟩ (fun k1 ls H locs hk10 hk11 hI ih => ?_) (fun ls H locs hI => ?_)
  · obtain ⟨hP, hD, hS, hl⟩ := hI
    have hl : lv_has ls 9 [(1, .int (nI k1)), (0, .ref h0)] := hl
    have hP : va_P D vwCl [(h0, .inr (5, [.ref st, .ref wd, w1])), (st, .inl (y 1, 8, .inl (zf tS1 8 f))), (wd, .inl (y 1, 80, .inl (zf tW1 k1 g)))] H := hP
    have hD : va_D A [(h0, .inr (5, [.ref st, .ref wd, w1])), (st, .inl (y 1, 8, .inl (zf tS1 8 f))), (wd, .inl (y 1, 80, .inl (zf tW1 k1 g)))] := hD
    refine lv_iload_n hx hb dX1_mixFirst_3 rfl (lv_at hl 0 rfl) ?_
    refine lv_bipush (v := 80) hx hb dX1_mixFirst_4 (by decide) ?_
    refine lv_icmp_ge (tgt := 68) hx hb dX1_mixFirst_6 (by decide) (fun c9 => absurd c9 (ax_c_X1_mixFirst_0 k1 hk11 hk10)) (fun _ => ?_)
    refine lv_aload_n hx hb dX1_mixFirst_9 rfl (lv_at hl 1 rfl) ?_
    refine va_get (D := D) (ci := 5) (v := .ref wd) (C := RX1) (T := TX1) (N := 3) hx hb hts (by decide +kernel) hown hK hP 0 rfl rfl 1 (by decide) (hts (.fieldLink RX1 15 "SignetRing$Digest" "words" "[I") (by decide +kernel)) (fun _ h9 => h9) rfl dX1_mixFirst_10 ?_
    refine lv_iload_n hx hb dX1_mixFirst_13 rfl (lv_at hl 0 rfl) ?_
    refine lv_iconst (v := 3) hx hb dX1_mixFirst_14 (by decide) ?_
    refine lv_isub hx hb dX1_mixFirst_15 ?_
    refine lv_topi (fun v1 ev1 => ?_)
    have ev1 : v1 = nI (k1 - 3) := ev1.trans (ax_c_X1_mixFirst_1 k1 hk11 hk10)
    subst ev1
    refine va_iald hx hb hK hP 2 1 rfl rfl (vp_in_nI (by omega) (by decide)) dX1_mixFirst_16 ?_
    refine lv_topi (fun v2 ev2 => ?_)
    have ev2 : v2 = tW1 (k1 - 3) := ev2.trans (zf_rd (j := (k1 - 3)) (by omega) (by omega))
    subst ev2
    refine lv_aload_n hx hb dX1_mixFirst_17 rfl (lv_at hl 1 rfl) ?_
    refine va_get (D := D) (ci := 5) (v := .ref wd) (C := RX1) (T := TX1) (N := 3) hx hb hts (by decide +kernel) hown hK hP 0 rfl rfl 1 (by decide) (hts (.fieldLink RX1 15 "SignetRing$Digest" "words" "[I") (by decide +kernel)) (fun _ h9 => h9) rfl dX1_mixFirst_18 ?_
    refine lv_iload_n hx hb dX1_mixFirst_21 rfl (lv_at hl 0 rfl) ?_
    refine lv_bipush (v := 8) hx hb dX1_mixFirst_22 (by decide) ?_
    refine lv_isub hx hb dX1_mixFirst_24 ?_
    refine lv_topi (fun v3 ev3 => ?_)
    have ev3 : v3 = nI (k1 - 8) := ev3.trans (ax_c_X1_mixFirst_2 k1 hk11 hk10)
    subst ev3
    refine va_iald hx hb hK hP 2 1 rfl rfl (vp_in_nI (by omega) (by decide)) dX1_mixFirst_25 ?_
    refine lv_topi (fun v4 ev4 => ?_)
    have ev4 : v4 = tW1 (k1 - 8) := ev4.trans (zf_rd (j := (k1 - 8)) (by omega) (by omega))
    subst ev4
    refine lv_ixor hx hb dX1_mixFirst_26 ?_
    refine lv_aload_n hx hb dX1_mixFirst_27 rfl (lv_at hl 1 rfl) ?_
    refine va_get (D := D) (ci := 5) (v := .ref wd) (C := RX1) (T := TX1) (N := 3) hx hb hts (by decide +kernel) hown hK hP 0 rfl rfl 1 (by decide) (hts (.fieldLink RX1 15 "SignetRing$Digest" "words" "[I") (by decide +kernel)) (fun _ h9 => h9) rfl dX1_mixFirst_28 ?_
    refine lv_iload_n hx hb dX1_mixFirst_31 rfl (lv_at hl 0 rfl) ?_
    refine lv_bipush (v := 14) hx hb dX1_mixFirst_32 (by decide) ?_
    refine lv_isub hx hb dX1_mixFirst_34 ?_
    refine lv_topi (fun v5 ev5 => ?_)
    have ev5 : v5 = nI (k1 - 14) := ev5.trans (ax_c_X1_mixFirst_3 k1 hk11 hk10)
    subst ev5
    refine va_iald hx hb hK hP 2 1 rfl rfl (vp_in_nI (by omega) (by decide)) dX1_mixFirst_35 ?_
    refine lv_topi (fun v6 ev6 => ?_)
    have ev6 : v6 = tW1 (k1 - 14) := ev6.trans (zf_rd (j := (k1 - 14)) (by omega) (by omega))
    subst ev6
    refine lv_ixor hx hb dX1_mixFirst_36 ?_
    refine lv_aload_n hx hb dX1_mixFirst_37 rfl (lv_at hl 1 rfl) ?_
    refine va_get (D := D) (ci := 5) (v := .ref wd) (C := RX1) (T := TX1) (N := 3) hx hb hts (by decide +kernel) hown hK hP 0 rfl rfl 1 (by decide) (hts (.fieldLink RX1 15 "SignetRing$Digest" "words" "[I") (by decide +kernel)) (fun _ h9 => h9) rfl dX1_mixFirst_38 ?_
    refine lv_iload_n hx hb dX1_mixFirst_41 rfl (lv_at hl 0 rfl) ?_
    refine lv_bipush (v := 16) hx hb dX1_mixFirst_42 (by decide) ?_
    refine lv_isub hx hb dX1_mixFirst_44 ?_
    refine lv_topi (fun v7 ev7 => ?_)
    have ev7 : v7 = nI (k1 - 16) := ev7.trans (ax_c_X1_mixFirst_4 k1 hk11 hk10)
    subst ev7
    refine va_iald hx hb hK hP 2 1 rfl rfl (vp_in_nI (by omega) (by decide)) dX1_mixFirst_45 ?_
    refine lv_topi (fun v8 ev8 => ?_)
    have ev8 : v8 = tW1 (k1 - 16) := ev8.trans (zf_rd (j := (k1 - 16)) (by omega) (by omega))
    subst ev8
    refine lv_ixor hx hb dX1_mixFirst_46 ?_
    refine lv_istore_n (lv' := [(2, .int ((((tW1 (k1 - 3)) ^^^ (tW1 (k1 - 8))) ^^^ (tW1 (k1 - 14))) ^^^ (tW1 (k1 - 16)))), (1, .int (nI k1)), (0, .ref h0)]) hx hb dX1_mixFirst_47 rfl hl (by decide) rfl (fun ls hl => ?_)
    refine lv_aload_n hx hb dX1_mixFirst_48 rfl (lv_at hl 2 rfl) ?_
    refine va_get (D := D) (ci := 5) (v := .ref wd) (C := RX1) (T := TX1) (N := 3) hx hb hts (by decide +kernel) hown hK hP 0 rfl rfl 1 (by decide) (hts (.fieldLink RX1 15 "SignetRing$Digest" "words" "[I") (by decide +kernel)) (fun _ h9 => h9) rfl dX1_mixFirst_49 ?_
    refine lv_iload_n hx hb dX1_mixFirst_52 rfl (lv_at hl 1 rfl) ?_
    refine lv_iload_n hx hb dX1_mixFirst_53 rfl (lv_at hl 0 rfl) ?_
    refine lv_iconst (v := 1) hx hb dX1_mixFirst_54 (by decide) ?_
    refine lv_ishl hx hb dX1_mixFirst_55 ?_
    refine lv_iload_n hx hb dX1_mixFirst_56 rfl (lv_at hl 0 rfl) ?_
    refine lv_bipush (v := 31) hx hb dX1_mixFirst_57 (by decide) ?_
    refine lv_iushr (v := zu ((((tW1 (k1 - 3)) ^^^ (tW1 (k1 - 8))) ^^^ (tW1 (k1 - 14))) ^^^ (tW1 (k1 - 16))) (31 : Int32)) hx hb dX1_mixFirst_59 rfl ?_
    refine lv_ior hx hb dX1_mixFirst_60 ?_
    refine va_iast hx hb hK hP hD hS 2 1 rfl rfl (vp_in_nI (by omega) (by decide)) dX1_mixFirst_61 (fun H locs hP hD hS => ?_)
    have hP : va_P D vwCl [(h0, .inr (5, [.ref st, .ref wd, w1])), (st, .inl (y 1, 8, .inl (zf tS1 8 f))), (wd, .inl (y 1, 80, .inl (upd (zf tW1 k1 g) (nI k1).toNatClampNeg ((((((tW1 (k1 - 3)) ^^^ (tW1 (k1 - 8))) ^^^ (tW1 (k1 - 14))) ^^^ (tW1 (k1 - 16))) <<< ((1 : Int32) &&& 31)) ||| (zu ((((tW1 (k1 - 3)) ^^^ (tW1 (k1 - 8))) ^^^ (tW1 (k1 - 14))) ^^^ (tW1 (k1 - 16))) (31 : Int32))))))] H := hP
    have hD : va_D A [(h0, .inr (5, [.ref st, .ref wd, w1])), (st, .inl (y 1, 8, .inl (zf tS1 8 f))), (wd, .inl (y 1, 80, .inl (upd (zf tW1 k1 g) (nI k1).toNatClampNeg ((((((tW1 (k1 - 3)) ^^^ (tW1 (k1 - 8))) ^^^ (tW1 (k1 - 14))) ^^^ (tW1 (k1 - 16))) <<< ((1 : Int32) &&& 31)) ||| (zu ((((tW1 (k1 - 3)) ^^^ (tW1 (k1 - 8))) ^^^ (tW1 (k1 - 14))) ^^^ (tW1 (k1 - 16))) (31 : Int32))))))] := hD
    have u9 : upd (zf tW1 k1 g) (nI k1).toNatClampNeg ((((((tW1 (k1 - 3)) ^^^ (tW1 (k1 - 8))) ^^^ (tW1 (k1 - 14))) ^^^ (tW1 (k1 - 16))) <<< ((1 : Int32) &&& 31)) ||| (zu ((((tW1 (k1 - 3)) ^^^ (tW1 (k1 - 8))) ^^^ (tW1 (k1 - 14))) ^^^ (tW1 (k1 - 16))) (31 : Int32))) = zf tW1 (k1 + 1) g := (zf_st (n := k1) (by omega) (ax_c_X1_mixFirst_5 k1 hk11 hk10))
    rw [u9] at hP hD
    have hP : va_P D vwCl [(h0, .inr (5, [.ref st, .ref wd, w1])), (st, .inl (y 1, 8, .inl (zf tS1 8 f))), (wd, .inl (y 1, 80, .inl (zf tW1 (k1 + 1) g)))] H := hP
    have hD : va_D A [(h0, .inr (5, [.ref st, .ref wd, w1])), (st, .inl (y 1, 8, .inl (zf tS1 8 f))), (wd, .inl (y 1, 80, .inl (zf tW1 (k1 + 1) g)))] := hD
    refine lv_iinc (v := nI (k1 + 1)) (lv' := [(1, .int (nI (k1 + 1))), (2, .int ((((tW1 (k1 - 3)) ^^^ (tW1 (k1 - 8))) ^^^ (tW1 (k1 - 14))) ^^^ (tW1 (k1 - 16)))), (0, .ref h0)]) hx hb dX1_mixFirst_62 hl (k := 1) rfl (ax_c_X1_mixFirst_6 k1 hk11 hk10) (by decide) rfl (fun ls hl => ?_)
    refine lv_goto (tgt := 3) hx hb dX1_mixFirst_65 (by decide) ?_
    exact ih ls H locs ⟨hP, hD, hS, lv_sub hl [0, 2] rfl⟩
  · obtain ⟨hP, hD, hS, hl⟩ := hI
    have hl : lv_has ls 9 [(1, .int (nI 80)), (0, .ref h0)] := hl
    have hP : va_P D vwCl [(h0, .inr (5, [.ref st, .ref wd, w1])), (st, .inl (y 1, 8, .inl (zf tS1 8 f))), (wd, .inl (y 1, 80, .inl (zf tW1 80 g)))] H := hP
    have hD : va_D A [(h0, .inr (5, [.ref st, .ref wd, w1])), (st, .inl (y 1, 8, .inl (zf tS1 8 f))), (wd, .inl (y 1, 80, .inl (zf tW1 80 g)))] := hD
    refine lv_iload_n hx hb dX1_mixFirst_3 rfl (lv_at hl 0 rfl) ?_
    refine lv_bipush (v := 80) hx hb dX1_mixFirst_4 (by decide) ?_
    refine lv_icmp_ge (tgt := 68) hx hb dX1_mixFirst_6 (by decide) (fun _ => ?_) (fun c9 => absurd (by decide) c9)
    refine lv_aload_n hx hb dX1_mixFirst_68 rfl (lv_at hl 1 rfl) ?_
    refine va_get (D := D) (ci := 5) (v := .ref st) (C := RX1) (T := TX1) (N := 3) hx hb hts (by decide +kernel) hown hK hP 0 rfl rfl 0 (by decide) (hts (.fieldLink RX1 9 "SignetRing$Digest" "state" "[I") (by decide +kernel)) (fun _ h9 => h9) rfl dX1_mixFirst_69 ?_
    refine lv_iconst (v := 0) hx hb dX1_mixFirst_72 (by decide) ?_
    refine va_iald hx hb hK hP 1 1 rfl rfl (by unfold vp_in; decide) dX1_mixFirst_73 ?_
    refine lv_topi (fun v10 ev10 => ?_)
    have ev10 : v10 = tA 4 := ev10.trans (Eq.trans (zf_rd (j := 0) (by decide) (by decide)) (by decide +kernel))
    subst ev10
    refine lv_istore_n (lv' := [(1, .int (tA 4)), (0, .ref h0)]) hx hb dX1_mixFirst_74 rfl hl (by decide) rfl (fun ls hl => ?_)
    refine lv_aload_n hx hb dX1_mixFirst_75 rfl (lv_at hl 1 rfl) ?_
    refine va_get (D := D) (ci := 5) (v := .ref st) (C := RX1) (T := TX1) (N := 3) hx hb hts (by decide +kernel) hown hK hP 0 rfl rfl 0 (by decide) (hts (.fieldLink RX1 9 "SignetRing$Digest" "state" "[I") (by decide +kernel)) (fun _ h9 => h9) rfl dX1_mixFirst_76 ?_
    refine lv_iconst (v := 1) hx hb dX1_mixFirst_79 (by decide) ?_
    refine va_iald hx hb hK hP 1 1 rfl rfl (by unfold vp_in; decide) dX1_mixFirst_80 ?_
    refine lv_topi (fun v11 ev11 => ?_)
    have ev11 : v11 = tA 3 := ev11.trans (Eq.trans (zf_rd (j := 1) (by decide) (by decide)) (by decide +kernel))
    subst ev11
    refine lv_istore_n (lv' := [(2, .int (tA 3)), (1, .int (tA 4)), (0, .ref h0)]) hx hb dX1_mixFirst_81 rfl hl (by decide) rfl (fun ls hl => ?_)
    refine lv_aload_n hx hb dX1_mixFirst_82 rfl (lv_at hl 2 rfl) ?_
    refine va_get (D := D) (ci := 5) (v := .ref st) (C := RX1) (T := TX1) (N := 3) hx hb hts (by decide +kernel) hown hK hP 0 rfl rfl 0 (by decide) (hts (.fieldLink RX1 9 "SignetRing$Digest" "state" "[I") (by decide +kernel)) (fun _ h9 => h9) rfl dX1_mixFirst_83 ?_
    refine lv_iconst (v := 2) hx hb dX1_mixFirst_86 (by decide) ?_
    refine va_iald hx hb hK hP 1 1 rfl rfl (by unfold vp_in; decide) dX1_mixFirst_87 ?_
    refine lv_topi (fun v12 ev12 => ?_)
    have ev12 : v12 = tC 2 := ev12.trans (Eq.trans (zf_rd (j := 2) (by decide) (by decide)) (by decide +kernel))
    subst ev12
    refine lv_istore_n (lv' := [(3, .int (tC 2)), (2, .int (tA 3)), (1, .int (tA 4)), (0, .ref h0)]) hx hb dX1_mixFirst_88 rfl hl (by decide) rfl (fun ls hl => ?_)
    refine lv_aload_n hx hb dX1_mixFirst_89 rfl (lv_at hl 3 rfl) ?_
    refine va_get (D := D) (ci := 5) (v := .ref st) (C := RX1) (T := TX1) (N := 3) hx hb hts (by decide +kernel) hown hK hP 0 rfl rfl 0 (by decide) (hts (.fieldLink RX1 9 "SignetRing$Digest" "state" "[I") (by decide +kernel)) (fun _ h9 => h9) rfl dX1_mixFirst_90 ?_
    refine lv_iconst (v := 3) hx hb dX1_mixFirst_93 (by decide) ?_
    refine va_iald hx hb hK hP 1 1 rfl rfl (by unfold vp_in; decide) dX1_mixFirst_94 ?_
    refine lv_topi (fun v13 ev13 => ?_)
    have ev13 : v13 = tC 1 := ev13.trans (Eq.trans (zf_rd (j := 3) (by decide) (by decide)) (by decide +kernel))
    subst ev13
    refine lv_istore (lv' := [(4, .int (tC 1)), (3, .int (tC 2)), (2, .int (tA 3)), (1, .int (tA 4)), (0, .ref h0)]) hx hb dX1_mixFirst_95 hl (by decide) rfl (fun ls hl => ?_)
    refine lv_aload_n hx hb dX1_mixFirst_97 rfl (lv_at hl 4 rfl) ?_
    refine va_get (D := D) (ci := 5) (v := .ref st) (C := RX1) (T := TX1) (N := 3) hx hb hts (by decide +kernel) hown hK hP 0 rfl rfl 0 (by decide) (hts (.fieldLink RX1 9 "SignetRing$Digest" "state" "[I") (by decide +kernel)) (fun _ h9 => h9) rfl dX1_mixFirst_98 ?_
    refine lv_iconst (v := 4) hx hb dX1_mixFirst_101 (by decide) ?_
    refine va_iald hx hb hK hP 1 1 rfl rfl (by unfold vp_in; decide) dX1_mixFirst_102 ?_
    refine lv_topi (fun v14 ev14 => ?_)
    have ev14 : v14 = tC 0 := ev14.trans (Eq.trans (zf_rd (j := 4) (by decide) (by decide)) (by decide +kernel))
    subst ev14
    refine lv_istore (lv' := [(5, .int (tC 0)), (4, .int (tC 1)), (3, .int (tC 2)), (2, .int (tA 3)), (1, .int (tA 4)), (0, .ref h0)]) hx hb dX1_mixFirst_103 hl (by decide) rfl (fun ls hl => ?_)
    refine lv_iconst (v := 0) hx hb dX1_mixFirst_105 (by decide) ?_
    refine lv_istore (lv' := [(6, .int 0), (5, .int (tC 0)), (4, .int (tC 1)), (3, .int (tC 2)), (2, .int (tA 3)), (1, .int (tA 4)), (0, .ref h0)]) hx hb dX1_mixFirst_106 hl (by decide) rfl (fun ls hl => ?_)
    have hl : lv_has ls 9 [(6, .int (nI 0)), (5, .int (tC 0)), (4, .int (tC 1)), (3, .int (tC 2)), (2, .int (tA 3)), (1, .int (tA 4)), (0, .ref h0)] := lv_sub hl [0, 1, 2, 3, 4, 5, 6] rfl
    refine zz_loop (I := fun (k2 : Nat) (ls : Array Slot) (H : Heap) (locs : List Loc) => va_P D vwCl [(h0, .inr (5, [.ref st, .ref wd, w1])), (st, .inl (y 1, 8, .inl (zf tS1 8 f))), (wd, .inl (y 1, 80, .inl (zf tW1 80 g)))] H ∧ va_D A [(h0, .inr (5, [.ref st, .ref wd, w1])), (st, .inl (y 1, 8, .inl (zf tS1 8 f))), (wd, .inl (y 1, 80, .inl (zf tW1 80 g)))] ∧ va_S A s.heap H locs ∧ lv_has ls 9 [(6, .int (nI k2)), (5, .int (tC k2)), (4, .int (tC (k2 + 1))), (3, .int (tC (k2 + 2))), (2, .int (tA (k2 + 3))), (1, .int (tA (k2 + 4))), (0, .ref h0)]) 0 20 (by decide) ⟨hP, hD, hS, hl⟩ (fun k2 ls H locs hk20 hk21 hI ih => ?_) (fun ls H locs hI => ?_)
    · obtain ⟨hP, hD, hS, hl⟩ := hI
      have hl : lv_has ls 9 [(6, .int (nI k2)), (5, .int (tC k2)), (4, .int (tC (k2 + 1))), (3, .int (tC (k2 + 2))), (2, .int (tA (k2 + 3))), (1, .int (tA (k2 + 4))), (0, .ref h0)] := hl
      have hP : va_P D vwCl [(h0, .inr (5, [.ref st, .ref wd, w1])), (st, .inl (y 1, 8, .inl (zf tS1 8 f))), (wd, .inl (y 1, 80, .inl (zf tW1 80 g)))] H := hP
      have hD : va_D A [(h0, .inr (5, [.ref st, .ref wd, w1])), (st, .inl (y 1, 8, .inl (zf tS1 8 f))), (wd, .inl (y 1, 80, .inl (zf tW1 80 g)))] := hD
      refine lv_iload hx hb dX1_mixFirst_108 (lv_at hl 0 rfl) ?_
      refine lv_bipush (v := 80) hx hb dX1_mixFirst_110 (by decide) ?_
      refine lv_icmp_ge (tgt := 251) hx hb dX1_mixFirst_112 (by decide) (fun c9 => absurd c9 (ax_c_X1_mixFirst_7 k2 hk21 hk20)) (fun _ => ?_)
      refine lv_iload hx hb dX1_mixFirst_115 (lv_at hl 0 rfl) ?_
      refine lv_bipush (v := 20) hx hb dX1_mixFirst_117 (by decide) ?_
      refine lv_icmp_ge (tgt := 140) hx hb dX1_mixFirst_119 (by decide) (fun c9 => absurd c9 (ax_c_X1_mixFirst_8 k2 hk21 hk20)) (fun _ => ?_)
      refine lv_iload_n hx hb dX1_mixFirst_122 rfl (lv_at hl 4 rfl) ?_
      refine lv_iload_n hx hb dX1_mixFirst_123 rfl (lv_at hl 3 rfl) ?_
      refine lv_iand hx hb dX1_mixFirst_124 ?_
      refine lv_iload_n hx hb dX1_mixFirst_125 rfl (lv_at hl 4 rfl) ?_
      refine lv_iconst (v := -1) hx hb dX1_mixFirst_126 (by decide) ?_
      refine lv_ixor hx hb dX1_mixFirst_127 ?_
      refine lv_iload hx hb dX1_mixFirst_128 (lv_at hl 2 rfl) ?_
      refine lv_iand hx hb dX1_mixFirst_130 ?_
      refine lv_ior hx hb dX1_mixFirst_131 ?_
      refine lv_ldc (v := 1518500249) hx hb hown (hts (.constant RX1 48 1518500249) (by decide +kernel)) dX1_mixFirst_132 ?_
      refine lv_iadd hx hb dX1_mixFirst_134 ?_
      refine lv_istore (lv' := [(7, .int ((((tA (k2 + 3)) &&& (tC (k2 + 2))) ||| (((tA (k2 + 3)) ^^^ (-1 : Int32)) &&& (tC (k2 + 1)))) + (1518500249 : Int32))), (6, .int (nI k2)), (5, .int (tC k2)), (4, .int (tC (k2 + 1))), (3, .int (tC (k2 + 2))), (2, .int (tA (k2 + 3))), (1, .int (tA (k2 + 4))), (0, .ref h0)]) hx hb dX1_mixFirst_135 hl (by decide) rfl (fun ls hl => ?_)
      refine lv_goto (tgt := 200) hx hb dX1_mixFirst_137 (by decide) ?_
      refine lv_iload_n hx hb dX1_mixFirst_200 rfl (lv_at hl 6 rfl) ?_
      refine lv_iconst (v := 5) hx hb dX1_mixFirst_201 (by decide) ?_
      refine lv_ishl hx hb dX1_mixFirst_202 ?_
      refine lv_iload_n hx hb dX1_mixFirst_203 rfl (lv_at hl 6 rfl) ?_
      refine lv_bipush (v := 27) hx hb dX1_mixFirst_204 (by decide) ?_
      refine lv_iushr (v := zu (tA (k2 + 4)) (27 : Int32)) hx hb dX1_mixFirst_206 rfl ?_
      refine lv_ior hx hb dX1_mixFirst_207 ?_
      refine lv_iload hx hb dX1_mixFirst_208 (lv_at hl 0 rfl) ?_
      refine lv_iadd hx hb dX1_mixFirst_210 ?_
      refine lv_iload hx hb dX1_mixFirst_211 (lv_at hl 2 rfl) ?_
      refine lv_iadd hx hb dX1_mixFirst_213 ?_
      refine lv_aload_n hx hb dX1_mixFirst_214 rfl (lv_at hl 7 rfl) ?_
      refine va_get (D := D) (ci := 5) (v := .ref wd) (C := RX1) (T := TX1) (N := 3) hx hb hts (by decide +kernel) hown hK hP 0 rfl rfl 1 (by decide) (hts (.fieldLink RX1 15 "SignetRing$Digest" "words" "[I") (by decide +kernel)) (fun _ h9 => h9) rfl dX1_mixFirst_215 ?_
      refine lv_iload hx hb dX1_mixFirst_218 (lv_at hl 1 rfl) ?_
      refine va_iald hx hb hK hP 2 1 rfl rfl (vp_in_nI (by omega) (by decide)) dX1_mixFirst_220 ?_
      refine lv_topi (fun v15 ev15 => ?_)
      have ev15 : v15 = tW1 k2 := ev15.trans (zf_rd (j := k2) (by omega) (by omega))
      subst ev15
      refine lv_iadd hx hb dX1_mixFirst_221 ?_
      refine lv_topi (fun v16 ev16 => ?_)
      have ev16 : v16 = tA (k2 + 5) := ev16.trans (ax_c_X1_mixFirst_9 k2 hk21 hk20)
      subst ev16
      refine lv_istore (lv' := [(8, .int (tA (k2 + 5))), (7, .int ((((tA (k2 + 3)) &&& (tC (k2 + 2))) ||| (((tA (k2 + 3)) ^^^ (-1 : Int32)) &&& (tC (k2 + 1)))) + (1518500249 : Int32))), (6, .int (nI k2)), (5, .int (tC k2)), (4, .int (tC (k2 + 1))), (3, .int (tC (k2 + 2))), (2, .int (tA (k2 + 3))), (1, .int (tA (k2 + 4))), (0, .ref h0)]) hx hb dX1_mixFirst_222 hl (by decide) rfl (fun ls hl => ?_)
      refine lv_iload hx hb dX1_mixFirst_224 (lv_at hl 4 rfl) ?_
      refine lv_istore (lv' := [(5, .int (tC (k2 + 1))), (8, .int (tA (k2 + 5))), (7, .int ((((tA (k2 + 3)) &&& (tC (k2 + 2))) ||| (((tA (k2 + 3)) ^^^ (-1 : Int32)) &&& (tC (k2 + 1)))) + (1518500249 : Int32))), (6, .int (nI k2)), (4, .int (tC (k2 + 1))), (3, .int (tC (k2 + 2))), (2, .int (tA (k2 + 3))), (1, .int (tA (k2 + 4))), (0, .ref h0)]) hx hb dX1_mixFirst_226 hl (by decide) rfl (fun ls hl => ?_)
      refine lv_iload_n hx hb dX1_mixFirst_228 rfl (lv_at hl 5 rfl) ?_
      refine lv_istore (lv' := [(4, .int (tC (k2 + 2))), (5, .int (tC (k2 + 1))), (8, .int (tA (k2 + 5))), (7, .int ((((tA (k2 + 3)) &&& (tC (k2 + 2))) ||| (((tA (k2 + 3)) ^^^ (-1 : Int32)) &&& (tC (k2 + 1)))) + (1518500249 : Int32))), (6, .int (nI k2)), (3, .int (tC (k2 + 2))), (2, .int (tA (k2 + 3))), (1, .int (tA (k2 + 4))), (0, .ref h0)]) hx hb dX1_mixFirst_229 hl (by decide) rfl (fun ls hl => ?_)
      refine lv_iload_n hx hb dX1_mixFirst_231 rfl (lv_at hl 6 rfl) ?_
      refine lv_bipush (v := 30) hx hb dX1_mixFirst_232 (by decide) ?_
      refine lv_ishl hx hb dX1_mixFirst_234 ?_
      refine lv_iload_n hx hb dX1_mixFirst_235 rfl (lv_at hl 6 rfl) ?_
      refine lv_iconst (v := 2) hx hb dX1_mixFirst_236 (by decide) ?_
      refine lv_iushr (v := zu (tA (k2 + 3)) (2 : Int32)) hx hb dX1_mixFirst_237 rfl ?_
      refine lv_ior hx hb dX1_mixFirst_238 ?_
      refine lv_topi (fun v17 ev17 => ?_)
      have ev17 : v17 = tC (k2 + 3) := ev17.trans (ax_c_X1_mixFirst_10 k2 hk21 hk20)
      subst ev17
      refine lv_istore_n (lv' := [(3, .int (tC (k2 + 3))), (4, .int (tC (k2 + 2))), (5, .int (tC (k2 + 1))), (8, .int (tA (k2 + 5))), (7, .int ((((tA (k2 + 3)) &&& (tC (k2 + 2))) ||| (((tA (k2 + 3)) ^^^ (-1 : Int32)) &&& (tC (k2 + 1)))) + (1518500249 : Int32))), (6, .int (nI k2)), (2, .int (tA (k2 + 3))), (1, .int (tA (k2 + 4))), (0, .ref h0)]) hx hb dX1_mixFirst_239 rfl hl (by decide) rfl (fun ls hl => ?_)
      refine lv_iload_n hx hb dX1_mixFirst_240 rfl (lv_at hl 7 rfl) ?_
      refine lv_istore_n (lv' := [(2, .int (tA (k2 + 4))), (3, .int (tC (k2 + 3))), (4, .int (tC (k2 + 2))), (5, .int (tC (k2 + 1))), (8, .int (tA (k2 + 5))), (7, .int ((((tA (k2 + 3)) &&& (tC (k2 + 2))) ||| (((tA (k2 + 3)) ^^^ (-1 : Int32)) &&& (tC (k2 + 1)))) + (1518500249 : Int32))), (6, .int (nI k2)), (1, .int (tA (k2 + 4))), (0, .ref h0)]) hx hb dX1_mixFirst_241 rfl hl (by decide) rfl (fun ls hl => ?_)
      refine lv_iload hx hb dX1_mixFirst_242 (lv_at hl 4 rfl) ?_
      refine lv_istore_n (lv' := [(1, .int (tA (k2 + 5))), (2, .int (tA (k2 + 4))), (3, .int (tC (k2 + 3))), (4, .int (tC (k2 + 2))), (5, .int (tC (k2 + 1))), (8, .int (tA (k2 + 5))), (7, .int ((((tA (k2 + 3)) &&& (tC (k2 + 2))) ||| (((tA (k2 + 3)) ^^^ (-1 : Int32)) &&& (tC (k2 + 1)))) + (1518500249 : Int32))), (6, .int (nI k2)), (0, .ref h0)]) hx hb dX1_mixFirst_244 rfl hl (by decide) rfl (fun ls hl => ?_)
      refine lv_iinc (v := nI (k2 + 1)) (lv' := [(6, .int (nI (k2 + 1))), (1, .int (tA (k2 + 5))), (2, .int (tA (k2 + 4))), (3, .int (tC (k2 + 3))), (4, .int (tC (k2 + 2))), (5, .int (tC (k2 + 1))), (8, .int (tA (k2 + 5))), (7, .int ((((tA (k2 + 3)) &&& (tC (k2 + 2))) ||| (((tA (k2 + 3)) ^^^ (-1 : Int32)) &&& (tC (k2 + 1)))) + (1518500249 : Int32))), (0, .ref h0)]) hx hb dX1_mixFirst_245 hl (k := 7) rfl (ax_c_X1_mixFirst_11 k2 hk21 hk20) (by decide) rfl (fun ls hl => ?_)
      refine lv_goto (tgt := 108) hx hb dX1_mixFirst_248 (by decide) ?_
      exact ih ls H locs ⟨hP, hD, hS, lv_sub hl [0, 5, 4, 3, 2, 1, 8] rfl⟩
    · obtain ⟨hP, hD, hS, hl⟩ := hI
      have hl : lv_has ls 9 [(6, .int (nI 20)), (5, .int (tC 20)), (4, .int (tC 21)), (3, .int (tC 22)), (2, .int (tA 23)), (1, .int (tA 24)), (0, .ref h0)] := hl
      have hP : va_P D vwCl [(h0, .inr (5, [.ref st, .ref wd, w1])), (st, .inl (y 1, 8, .inl (zf tS1 8 f))), (wd, .inl (y 1, 80, .inl (zf tW1 80 g)))] H := hP
      have hD : va_D A [(h0, .inr (5, [.ref st, .ref wd, w1])), (st, .inl (y 1, 8, .inl (zf tS1 8 f))), (wd, .inl (y 1, 80, .inl (zf tW1 80 g)))] := hD
      have hl : lv_has ls 9 [(6, .int (nI 20)), (5, .int (tC 20)), (4, .int (tC 21)), (3, .int (tC 22)), (2, .int (tA 23)), (1, .int (tA 24)), (0, .ref h0)] := lv_sub hl [0, 1, 2, 3, 4, 5, 6] rfl
      refine zz_loop (I := fun (k3 : Nat) (ls : Array Slot) (H : Heap) (locs : List Loc) => va_P D vwCl [(h0, .inr (5, [.ref st, .ref wd, w1])), (st, .inl (y 1, 8, .inl (zf tS1 8 f))), (wd, .inl (y 1, 80, .inl (zf tW1 80 g)))] H ∧ va_D A [(h0, .inr (5, [.ref st, .ref wd, w1])), (st, .inl (y 1, 8, .inl (zf tS1 8 f))), (wd, .inl (y 1, 80, .inl (zf tW1 80 g)))] ∧ va_S A s.heap H locs ∧ lv_has ls 9 [(6, .int (nI k3)), (5, .int (tC k3)), (4, .int (tC (k3 + 1))), (3, .int (tC (k3 + 2))), (2, .int (tA (k3 + 3))), (1, .int (tA (k3 + 4))), (0, .ref h0)]) 20 40 (by decide) ⟨hP, hD, hS, hl⟩ (fun k3 ls H locs hk30 hk31 hI ih => ?_) (fun ls H locs hI => ?_)
      · obtain ⟨hP, hD, hS, hl⟩ := hI
        have hl : lv_has ls 9 [(6, .int (nI k3)), (5, .int (tC k3)), (4, .int (tC (k3 + 1))), (3, .int (tC (k3 + 2))), (2, .int (tA (k3 + 3))), (1, .int (tA (k3 + 4))), (0, .ref h0)] := hl
        have hP : va_P D vwCl [(h0, .inr (5, [.ref st, .ref wd, w1])), (st, .inl (y 1, 8, .inl (zf tS1 8 f))), (wd, .inl (y 1, 80, .inl (zf tW1 80 g)))] H := hP
        have hD : va_D A [(h0, .inr (5, [.ref st, .ref wd, w1])), (st, .inl (y 1, 8, .inl (zf tS1 8 f))), (wd, .inl (y 1, 80, .inl (zf tW1 80 g)))] := hD
        refine lv_iload hx hb dX1_mixFirst_108 (lv_at hl 0 rfl) ?_
        refine lv_bipush (v := 80) hx hb dX1_mixFirst_110 (by decide) ?_
        refine lv_icmp_ge (tgt := 251) hx hb dX1_mixFirst_112 (by decide) (fun c9 => absurd c9 (ax_c_X1_mixFirst_12 k3 hk31 hk30)) (fun _ => ?_)
        refine lv_iload hx hb dX1_mixFirst_115 (lv_at hl 0 rfl) ?_
        refine lv_bipush (v := 20) hx hb dX1_mixFirst_117 (by decide) ?_
        refine lv_icmp_ge (tgt := 140) hx hb dX1_mixFirst_119 (by decide) (fun _ => ?_) (fun c9 => absurd (ax_c_X1_mixFirst_13 k3 hk31 hk30) c9)
        refine lv_iload hx hb dX1_mixFirst_140 (lv_at hl 0 rfl) ?_
        refine lv_bipush (v := 40) hx hb dX1_mixFirst_142 (by decide) ?_
        refine lv_icmp_ge (tgt := 161) hx hb dX1_mixFirst_144 (by decide) (fun c9 => absurd c9 (ax_c_X1_mixFirst_14 k3 hk31 hk30)) (fun _ => ?_)
        refine lv_iload_n hx hb dX1_mixFirst_147 rfl (lv_at hl 4 rfl) ?_
        refine lv_iload_n hx hb dX1_mixFirst_148 rfl (lv_at hl 3 rfl) ?_
        refine lv_ixor hx hb dX1_mixFirst_149 ?_
        refine lv_iload hx hb dX1_mixFirst_150 (lv_at hl 2 rfl) ?_
        refine lv_ixor hx hb dX1_mixFirst_152 ?_
        refine lv_ldc (v := 1859775393) hx hb hown (hts (.constant RX1 49 1859775393) (by decide +kernel)) dX1_mixFirst_153 ?_
        refine lv_iadd hx hb dX1_mixFirst_155 ?_
        refine lv_istore (lv' := [(7, .int ((((tA (k3 + 3)) ^^^ (tC (k3 + 2))) ^^^ (tC (k3 + 1))) + (1859775393 : Int32))), (6, .int (nI k3)), (5, .int (tC k3)), (4, .int (tC (k3 + 1))), (3, .int (tC (k3 + 2))), (2, .int (tA (k3 + 3))), (1, .int (tA (k3 + 4))), (0, .ref h0)]) hx hb dX1_mixFirst_156 hl (by decide) rfl (fun ls hl => ?_)
        refine lv_goto (tgt := 200) hx hb dX1_mixFirst_158 (by decide) ?_
        refine lv_iload_n hx hb dX1_mixFirst_200 rfl (lv_at hl 6 rfl) ?_
        refine lv_iconst (v := 5) hx hb dX1_mixFirst_201 (by decide) ?_
        refine lv_ishl hx hb dX1_mixFirst_202 ?_
        refine lv_iload_n hx hb dX1_mixFirst_203 rfl (lv_at hl 6 rfl) ?_
        refine lv_bipush (v := 27) hx hb dX1_mixFirst_204 (by decide) ?_
        refine lv_iushr (v := zu (tA (k3 + 4)) (27 : Int32)) hx hb dX1_mixFirst_206 rfl ?_
        refine lv_ior hx hb dX1_mixFirst_207 ?_
        refine lv_iload hx hb dX1_mixFirst_208 (lv_at hl 0 rfl) ?_
        refine lv_iadd hx hb dX1_mixFirst_210 ?_
        refine lv_iload hx hb dX1_mixFirst_211 (lv_at hl 2 rfl) ?_
        refine lv_iadd hx hb dX1_mixFirst_213 ?_
        refine lv_aload_n hx hb dX1_mixFirst_214 rfl (lv_at hl 7 rfl) ?_
        refine va_get (D := D) (ci := 5) (v := .ref wd) (C := RX1) (T := TX1) (N := 3) hx hb hts (by decide +kernel) hown hK hP 0 rfl rfl 1 (by decide) (hts (.fieldLink RX1 15 "SignetRing$Digest" "words" "[I") (by decide +kernel)) (fun _ h9 => h9) rfl dX1_mixFirst_215 ?_
        refine lv_iload hx hb dX1_mixFirst_218 (lv_at hl 1 rfl) ?_
        refine va_iald hx hb hK hP 2 1 rfl rfl (vp_in_nI (by omega) (by decide)) dX1_mixFirst_220 ?_
        refine lv_topi (fun v18 ev18 => ?_)
        have ev18 : v18 = tW1 k3 := ev18.trans (zf_rd (j := k3) (by omega) (by omega))
        subst ev18
        refine lv_iadd hx hb dX1_mixFirst_221 ?_
        refine lv_topi (fun v19 ev19 => ?_)
        have ev19 : v19 = tA (k3 + 5) := ev19.trans (ax_c_X1_mixFirst_15 k3 hk31 hk30)
        subst ev19
        refine lv_istore (lv' := [(8, .int (tA (k3 + 5))), (7, .int ((((tA (k3 + 3)) ^^^ (tC (k3 + 2))) ^^^ (tC (k3 + 1))) + (1859775393 : Int32))), (6, .int (nI k3)), (5, .int (tC k3)), (4, .int (tC (k3 + 1))), (3, .int (tC (k3 + 2))), (2, .int (tA (k3 + 3))), (1, .int (tA (k3 + 4))), (0, .ref h0)]) hx hb dX1_mixFirst_222 hl (by decide) rfl (fun ls hl => ?_)
        refine lv_iload hx hb dX1_mixFirst_224 (lv_at hl 4 rfl) ?_
        refine lv_istore (lv' := [(5, .int (tC (k3 + 1))), (8, .int (tA (k3 + 5))), (7, .int ((((tA (k3 + 3)) ^^^ (tC (k3 + 2))) ^^^ (tC (k3 + 1))) + (1859775393 : Int32))), (6, .int (nI k3)), (4, .int (tC (k3 + 1))), (3, .int (tC (k3 + 2))), (2, .int (tA (k3 + 3))), (1, .int (tA (k3 + 4))), (0, .ref h0)]) hx hb dX1_mixFirst_226 hl (by decide) rfl (fun ls hl => ?_)
        refine lv_iload_n hx hb dX1_mixFirst_228 rfl (lv_at hl 5 rfl) ?_
        refine lv_istore (lv' := [(4, .int (tC (k3 + 2))), (5, .int (tC (k3 + 1))), (8, .int (tA (k3 + 5))), (7, .int ((((tA (k3 + 3)) ^^^ (tC (k3 + 2))) ^^^ (tC (k3 + 1))) + (1859775393 : Int32))), (6, .int (nI k3)), (3, .int (tC (k3 + 2))), (2, .int (tA (k3 + 3))), (1, .int (tA (k3 + 4))), (0, .ref h0)]) hx hb dX1_mixFirst_229 hl (by decide) rfl (fun ls hl => ?_)
        refine lv_iload_n hx hb dX1_mixFirst_231 rfl (lv_at hl 6 rfl) ?_
        refine lv_bipush (v := 30) hx hb dX1_mixFirst_232 (by decide) ?_
        refine lv_ishl hx hb dX1_mixFirst_234 ?_
        refine lv_iload_n hx hb dX1_mixFirst_235 rfl (lv_at hl 6 rfl) ?_
        refine lv_iconst (v := 2) hx hb dX1_mixFirst_236 (by decide) ?_
        refine lv_iushr (v := zu (tA (k3 + 3)) (2 : Int32)) hx hb dX1_mixFirst_237 rfl ?_
        refine lv_ior hx hb dX1_mixFirst_238 ?_
        refine lv_topi (fun v20 ev20 => ?_)
        have ev20 : v20 = tC (k3 + 3) := ev20.trans (ax_c_X1_mixFirst_16 k3 hk31 hk30)
        subst ev20
        refine lv_istore_n (lv' := [(3, .int (tC (k3 + 3))), (4, .int (tC (k3 + 2))), (5, .int (tC (k3 + 1))), (8, .int (tA (k3 + 5))), (7, .int ((((tA (k3 + 3)) ^^^ (tC (k3 + 2))) ^^^ (tC (k3 + 1))) + (1859775393 : Int32))), (6, .int (nI k3)), (2, .int (tA (k3 + 3))), (1, .int (tA (k3 + 4))), (0, .ref h0)]) hx hb dX1_mixFirst_239 rfl hl (by decide) rfl (fun ls hl => ?_)
        refine lv_iload_n hx hb dX1_mixFirst_240 rfl (lv_at hl 7 rfl) ?_
        refine lv_istore_n (lv' := [(2, .int (tA (k3 + 4))), (3, .int (tC (k3 + 3))), (4, .int (tC (k3 + 2))), (5, .int (tC (k3 + 1))), (8, .int (tA (k3 + 5))), (7, .int ((((tA (k3 + 3)) ^^^ (tC (k3 + 2))) ^^^ (tC (k3 + 1))) + (1859775393 : Int32))), (6, .int (nI k3)), (1, .int (tA (k3 + 4))), (0, .ref h0)]) hx hb dX1_mixFirst_241 rfl hl (by decide) rfl (fun ls hl => ?_)
        refine lv_iload hx hb dX1_mixFirst_242 (lv_at hl 4 rfl) ?_
        refine lv_istore_n (lv' := [(1, .int (tA (k3 + 5))), (2, .int (tA (k3 + 4))), (3, .int (tC (k3 + 3))), (4, .int (tC (k3 + 2))), (5, .int (tC (k3 + 1))), (8, .int (tA (k3 + 5))), (7, .int ((((tA (k3 + 3)) ^^^ (tC (k3 + 2))) ^^^ (tC (k3 + 1))) + (1859775393 : Int32))), (6, .int (nI k3)), (0, .ref h0)]) hx hb dX1_mixFirst_244 rfl hl (by decide) rfl (fun ls hl => ?_)
        refine lv_iinc (v := nI (k3 + 1)) (lv' := [(6, .int (nI (k3 + 1))), (1, .int (tA (k3 + 5))), (2, .int (tA (k3 + 4))), (3, .int (tC (k3 + 3))), (4, .int (tC (k3 + 2))), (5, .int (tC (k3 + 1))), (8, .int (tA (k3 + 5))), (7, .int ((((tA (k3 + 3)) ^^^ (tC (k3 + 2))) ^^^ (tC (k3 + 1))) + (1859775393 : Int32))), (0, .ref h0)]) hx hb dX1_mixFirst_245 hl (k := 7) rfl (ax_c_X1_mixFirst_17 k3 hk31 hk30) (by decide) rfl (fun ls hl => ?_)
        refine lv_goto (tgt := 108) hx hb dX1_mixFirst_248 (by decide) ?_
        exact ih ls H locs ⟨hP, hD, hS, lv_sub hl [0, 5, 4, 3, 2, 1, 8] rfl⟩
      · obtain ⟨hP, hD, hS, hl⟩ := hI
        have hl : lv_has ls 9 [(6, .int (nI 40)), (5, .int (tC 40)), (4, .int (tC 41)), (3, .int (tC 42)), (2, .int (tA 43)), (1, .int (tA 44)), (0, .ref h0)] := hl
        have hP : va_P D vwCl [(h0, .inr (5, [.ref st, .ref wd, w1])), (st, .inl (y 1, 8, .inl (zf tS1 8 f))), (wd, .inl (y 1, 80, .inl (zf tW1 80 g)))] H := hP
        have hD : va_D A [(h0, .inr (5, [.ref st, .ref wd, w1])), (st, .inl (y 1, 8, .inl (zf tS1 8 f))), (wd, .inl (y 1, 80, .inl (zf tW1 80 g)))] := hD
        have hl : lv_has ls 9 [(6, .int (nI 40)), (5, .int (tC 40)), (4, .int (tC 41)), (3, .int (tC 42)), (2, .int (tA 43)), (1, .int (tA 44)), (0, .ref h0)] := lv_sub hl [0, 1, 2, 3, 4, 5, 6] rfl
        refine zz_loop (I := fun (k4 : Nat) (ls : Array Slot) (H : Heap) (locs : List Loc) => va_P D vwCl [(h0, .inr (5, [.ref st, .ref wd, w1])), (st, .inl (y 1, 8, .inl (zf tS1 8 f))), (wd, .inl (y 1, 80, .inl (zf tW1 80 g)))] H ∧ va_D A [(h0, .inr (5, [.ref st, .ref wd, w1])), (st, .inl (y 1, 8, .inl (zf tS1 8 f))), (wd, .inl (y 1, 80, .inl (zf tW1 80 g)))] ∧ va_S A s.heap H locs ∧ lv_has ls 9 [(6, .int (nI k4)), (5, .int (tC k4)), (4, .int (tC (k4 + 1))), (3, .int (tC (k4 + 2))), (2, .int (tA (k4 + 3))), (1, .int (tA (k4 + 4))), (0, .ref h0)]) 40 60 (by decide) ⟨hP, hD, hS, hl⟩ (fun k4 ls H locs hk40 hk41 hI ih => ?_) (fun ls H locs hI => ?_)
        · obtain ⟨hP, hD, hS, hl⟩ := hI
          have hl : lv_has ls 9 [(6, .int (nI k4)), (5, .int (tC k4)), (4, .int (tC (k4 + 1))), (3, .int (tC (k4 + 2))), (2, .int (tA (k4 + 3))), (1, .int (tA (k4 + 4))), (0, .ref h0)] := hl
          have hP : va_P D vwCl [(h0, .inr (5, [.ref st, .ref wd, w1])), (st, .inl (y 1, 8, .inl (zf tS1 8 f))), (wd, .inl (y 1, 80, .inl (zf tW1 80 g)))] H := hP
          have hD : va_D A [(h0, .inr (5, [.ref st, .ref wd, w1])), (st, .inl (y 1, 8, .inl (zf tS1 8 f))), (wd, .inl (y 1, 80, .inl (zf tW1 80 g)))] := hD
          refine lv_iload hx hb dX1_mixFirst_108 (lv_at hl 0 rfl) ?_
          refine lv_bipush (v := 80) hx hb dX1_mixFirst_110 (by decide) ?_
          refine lv_icmp_ge (tgt := 251) hx hb dX1_mixFirst_112 (by decide) (fun c9 => absurd c9 (ax_c_X1_mixFirst_18 k4 hk41 hk40)) (fun _ => ?_)
          refine lv_iload hx hb dX1_mixFirst_115 (lv_at hl 0 rfl) ?_
          refine lv_bipush (v := 20) hx hb dX1_mixFirst_117 (by decide) ?_
          refine lv_icmp_ge (tgt := 140) hx hb dX1_mixFirst_119 (by decide) (fun _ => ?_) (fun c9 => absurd (ax_c_X1_mixFirst_19 k4 hk41 hk40) c9)
          refine lv_iload hx hb dX1_mixFirst_140 (lv_at hl 0 rfl) ?_
          refine lv_bipush (v := 40) hx hb dX1_mixFirst_142 (by decide) ?_
          refine lv_icmp_ge (tgt := 161) hx hb dX1_mixFirst_144 (by decide) (fun _ => ?_) (fun c9 => absurd (ax_c_X1_mixFirst_20 k4 hk41 hk40) c9)
          refine lv_iload hx hb dX1_mixFirst_161 (lv_at hl 0 rfl) ?_
          refine lv_bipush (v := 60) hx hb dX1_mixFirst_163 (by decide) ?_
          refine lv_icmp_ge (tgt := 189) hx hb dX1_mixFirst_165 (by decide) (fun c9 => absurd c9 (ax_c_X1_mixFirst_21 k4 hk41 hk40)) (fun _ => ?_)
          refine lv_iload_n hx hb dX1_mixFirst_168 rfl (lv_at hl 4 rfl) ?_
          refine lv_iload_n hx hb dX1_mixFirst_169 rfl (lv_at hl 3 rfl) ?_
          refine lv_iand hx hb dX1_mixFirst_170 ?_
          refine lv_iload_n hx hb dX1_mixFirst_171 rfl (lv_at hl 4 rfl) ?_
          refine lv_iload hx hb dX1_mixFirst_172 (lv_at hl 2 rfl) ?_
          refine lv_iand hx hb dX1_mixFirst_174 ?_
          refine lv_ior hx hb dX1_mixFirst_175 ?_
          refine lv_iload_n hx hb dX1_mixFirst_176 rfl (lv_at hl 3 rfl) ?_
          refine lv_iload hx hb dX1_mixFirst_177 (lv_at hl 2 rfl) ?_
          refine lv_iand hx hb dX1_mixFirst_179 ?_
          refine lv_ior hx hb dX1_mixFirst_180 ?_
          refine lv_ldc (v := -1894007588) hx hb hown (hts (.constant RX1 50 (-1894007588)) (by decide +kernel)) dX1_mixFirst_181 ?_
          refine lv_iadd hx hb dX1_mixFirst_183 ?_
          refine lv_istore (lv' := [(7, .int (((((tA (k4 + 3)) &&& (tC (k4 + 2))) ||| ((tA (k4 + 3)) &&& (tC (k4 + 1)))) ||| ((tC (k4 + 2)) &&& (tC (k4 + 1)))) + (-1894007588 : Int32))), (6, .int (nI k4)), (5, .int (tC k4)), (4, .int (tC (k4 + 1))), (3, .int (tC (k4 + 2))), (2, .int (tA (k4 + 3))), (1, .int (tA (k4 + 4))), (0, .ref h0)]) hx hb dX1_mixFirst_184 hl (by decide) rfl (fun ls hl => ?_)
          refine lv_goto (tgt := 200) hx hb dX1_mixFirst_186 (by decide) ?_
          refine lv_iload_n hx hb dX1_mixFirst_200 rfl (lv_at hl 6 rfl) ?_
          refine lv_iconst (v := 5) hx hb dX1_mixFirst_201 (by decide) ?_
          refine lv_ishl hx hb dX1_mixFirst_202 ?_
          refine lv_iload_n hx hb dX1_mixFirst_203 rfl (lv_at hl 6 rfl) ?_
          refine lv_bipush (v := 27) hx hb dX1_mixFirst_204 (by decide) ?_
          refine lv_iushr (v := zu (tA (k4 + 4)) (27 : Int32)) hx hb dX1_mixFirst_206 rfl ?_
          refine lv_ior hx hb dX1_mixFirst_207 ?_
          refine lv_iload hx hb dX1_mixFirst_208 (lv_at hl 0 rfl) ?_
          refine lv_iadd hx hb dX1_mixFirst_210 ?_
          refine lv_iload hx hb dX1_mixFirst_211 (lv_at hl 2 rfl) ?_
          refine lv_iadd hx hb dX1_mixFirst_213 ?_
          refine lv_aload_n hx hb dX1_mixFirst_214 rfl (lv_at hl 7 rfl) ?_
          refine va_get (D := D) (ci := 5) (v := .ref wd) (C := RX1) (T := TX1) (N := 3) hx hb hts (by decide +kernel) hown hK hP 0 rfl rfl 1 (by decide) (hts (.fieldLink RX1 15 "SignetRing$Digest" "words" "[I") (by decide +kernel)) (fun _ h9 => h9) rfl dX1_mixFirst_215 ?_
          refine lv_iload hx hb dX1_mixFirst_218 (lv_at hl 1 rfl) ?_
          refine va_iald hx hb hK hP 2 1 rfl rfl (vp_in_nI (by omega) (by decide)) dX1_mixFirst_220 ?_
          refine lv_topi (fun v21 ev21 => ?_)
          have ev21 : v21 = tW1 k4 := ev21.trans (zf_rd (j := k4) (by omega) (by omega))
          subst ev21
          refine lv_iadd hx hb dX1_mixFirst_221 ?_
          refine lv_topi (fun v22 ev22 => ?_)
          have ev22 : v22 = tA (k4 + 5) := ev22.trans (ax_c_X1_mixFirst_22 k4 hk41 hk40)
          subst ev22
          refine lv_istore (lv' := [(8, .int (tA (k4 + 5))), (7, .int (((((tA (k4 + 3)) &&& (tC (k4 + 2))) ||| ((tA (k4 + 3)) &&& (tC (k4 + 1)))) ||| ((tC (k4 + 2)) &&& (tC (k4 + 1)))) + (-1894007588 : Int32))), (6, .int (nI k4)), (5, .int (tC k4)), (4, .int (tC (k4 + 1))), (3, .int (tC (k4 + 2))), (2, .int (tA (k4 + 3))), (1, .int (tA (k4 + 4))), (0, .ref h0)]) hx hb dX1_mixFirst_222 hl (by decide) rfl (fun ls hl => ?_)
          refine lv_iload hx hb dX1_mixFirst_224 (lv_at hl 4 rfl) ?_
          refine lv_istore (lv' := [(5, .int (tC (k4 + 1))), (8, .int (tA (k4 + 5))), (7, .int (((((tA (k4 + 3)) &&& (tC (k4 + 2))) ||| ((tA (k4 + 3)) &&& (tC (k4 + 1)))) ||| ((tC (k4 + 2)) &&& (tC (k4 + 1)))) + (-1894007588 : Int32))), (6, .int (nI k4)), (4, .int (tC (k4 + 1))), (3, .int (tC (k4 + 2))), (2, .int (tA (k4 + 3))), (1, .int (tA (k4 + 4))), (0, .ref h0)]) hx hb dX1_mixFirst_226 hl (by decide) rfl (fun ls hl => ?_)
          refine lv_iload_n hx hb dX1_mixFirst_228 rfl (lv_at hl 5 rfl) ?_
          refine lv_istore (lv' := [(4, .int (tC (k4 + 2))), (5, .int (tC (k4 + 1))), (8, .int (tA (k4 + 5))), (7, .int (((((tA (k4 + 3)) &&& (tC (k4 + 2))) ||| ((tA (k4 + 3)) &&& (tC (k4 + 1)))) ||| ((tC (k4 + 2)) &&& (tC (k4 + 1)))) + (-1894007588 : Int32))), (6, .int (nI k4)), (3, .int (tC (k4 + 2))), (2, .int (tA (k4 + 3))), (1, .int (tA (k4 + 4))), (0, .ref h0)]) hx hb dX1_mixFirst_229 hl (by decide) rfl (fun ls hl => ?_)
          refine lv_iload_n hx hb dX1_mixFirst_231 rfl (lv_at hl 6 rfl) ?_
          refine lv_bipush (v := 30) hx hb dX1_mixFirst_232 (by decide) ?_
          refine lv_ishl hx hb dX1_mixFirst_234 ?_
          refine lv_iload_n hx hb dX1_mixFirst_235 rfl (lv_at hl 6 rfl) ?_
          refine lv_iconst (v := 2) hx hb dX1_mixFirst_236 (by decide) ?_
          refine lv_iushr (v := zu (tA (k4 + 3)) (2 : Int32)) hx hb dX1_mixFirst_237 rfl ?_
          refine lv_ior hx hb dX1_mixFirst_238 ?_
          refine lv_topi (fun v23 ev23 => ?_)
          have ev23 : v23 = tC (k4 + 3) := ev23.trans (ax_c_X1_mixFirst_23 k4 hk41 hk40)
          subst ev23
          refine lv_istore_n (lv' := [(3, .int (tC (k4 + 3))), (4, .int (tC (k4 + 2))), (5, .int (tC (k4 + 1))), (8, .int (tA (k4 + 5))), (7, .int (((((tA (k4 + 3)) &&& (tC (k4 + 2))) ||| ((tA (k4 + 3)) &&& (tC (k4 + 1)))) ||| ((tC (k4 + 2)) &&& (tC (k4 + 1)))) + (-1894007588 : Int32))), (6, .int (nI k4)), (2, .int (tA (k4 + 3))), (1, .int (tA (k4 + 4))), (0, .ref h0)]) hx hb dX1_mixFirst_239 rfl hl (by decide) rfl (fun ls hl => ?_)
          refine lv_iload_n hx hb dX1_mixFirst_240 rfl (lv_at hl 7 rfl) ?_
          refine lv_istore_n (lv' := [(2, .int (tA (k4 + 4))), (3, .int (tC (k4 + 3))), (4, .int (tC (k4 + 2))), (5, .int (tC (k4 + 1))), (8, .int (tA (k4 + 5))), (7, .int (((((tA (k4 + 3)) &&& (tC (k4 + 2))) ||| ((tA (k4 + 3)) &&& (tC (k4 + 1)))) ||| ((tC (k4 + 2)) &&& (tC (k4 + 1)))) + (-1894007588 : Int32))), (6, .int (nI k4)), (1, .int (tA (k4 + 4))), (0, .ref h0)]) hx hb dX1_mixFirst_241 rfl hl (by decide) rfl (fun ls hl => ?_)
          refine lv_iload hx hb dX1_mixFirst_242 (lv_at hl 4 rfl) ?_
          refine lv_istore_n (lv' := [(1, .int (tA (k4 + 5))), (2, .int (tA (k4 + 4))), (3, .int (tC (k4 + 3))), (4, .int (tC (k4 + 2))), (5, .int (tC (k4 + 1))), (8, .int (tA (k4 + 5))), (7, .int (((((tA (k4 + 3)) &&& (tC (k4 + 2))) ||| ((tA (k4 + 3)) &&& (tC (k4 + 1)))) ||| ((tC (k4 + 2)) &&& (tC (k4 + 1)))) + (-1894007588 : Int32))), (6, .int (nI k4)), (0, .ref h0)]) hx hb dX1_mixFirst_244 rfl hl (by decide) rfl (fun ls hl => ?_)
          refine lv_iinc (v := nI (k4 + 1)) (lv' := [(6, .int (nI (k4 + 1))), (1, .int (tA (k4 + 5))), (2, .int (tA (k4 + 4))), (3, .int (tC (k4 + 3))), (4, .int (tC (k4 + 2))), (5, .int (tC (k4 + 1))), (8, .int (tA (k4 + 5))), (7, .int (((((tA (k4 + 3)) &&& (tC (k4 + 2))) ||| ((tA (k4 + 3)) &&& (tC (k4 + 1)))) ||| ((tC (k4 + 2)) &&& (tC (k4 + 1)))) + (-1894007588 : Int32))), (0, .ref h0)]) hx hb dX1_mixFirst_245 hl (k := 7) rfl (ax_c_X1_mixFirst_24 k4 hk41 hk40) (by decide) rfl (fun ls hl => ?_)
          refine lv_goto (tgt := 108) hx hb dX1_mixFirst_248 (by decide) ?_
          exact ih ls H locs ⟨hP, hD, hS, lv_sub hl [0, 5, 4, 3, 2, 1, 8] rfl⟩
        · obtain ⟨hP, hD, hS, hl⟩ := hI
          have hl : lv_has ls 9 [(6, .int (nI 60)), (5, .int (tC 60)), (4, .int (tC 61)), (3, .int (tC 62)), (2, .int (tA 63)), (1, .int (tA 64)), (0, .ref h0)] := hl
          have hP : va_P D vwCl [(h0, .inr (5, [.ref st, .ref wd, w1])), (st, .inl (y 1, 8, .inl (zf tS1 8 f))), (wd, .inl (y 1, 80, .inl (zf tW1 80 g)))] H := hP
          have hD : va_D A [(h0, .inr (5, [.ref st, .ref wd, w1])), (st, .inl (y 1, 8, .inl (zf tS1 8 f))), (wd, .inl (y 1, 80, .inl (zf tW1 80 g)))] := hD
          have hl : lv_has ls 9 [(6, .int (nI 60)), (5, .int (tC 60)), (4, .int (tC 61)), (3, .int (tC 62)), (2, .int (tA 63)), (1, .int (tA 64)), (0, .ref h0)] := lv_sub hl [0, 1, 2, 3, 4, 5, 6] rfl
          refine zz_loop (I := fun (k5 : Nat) (ls : Array Slot) (H : Heap) (locs : List Loc) => va_P D vwCl [(h0, .inr (5, [.ref st, .ref wd, w1])), (st, .inl (y 1, 8, .inl (zf tS1 8 f))), (wd, .inl (y 1, 80, .inl (zf tW1 80 g)))] H ∧ va_D A [(h0, .inr (5, [.ref st, .ref wd, w1])), (st, .inl (y 1, 8, .inl (zf tS1 8 f))), (wd, .inl (y 1, 80, .inl (zf tW1 80 g)))] ∧ va_S A s.heap H locs ∧ lv_has ls 9 [(6, .int (nI k5)), (5, .int (tC k5)), (4, .int (tC (k5 + 1))), (3, .int (tC (k5 + 2))), (2, .int (tA (k5 + 3))), (1, .int (tA (k5 + 4))), (0, .ref h0)]) 60 80 (by decide) ⟨hP, hD, hS, hl⟩ (fun k5 ls H locs hk50 hk51 hI ih => ?_) (fun ls H locs hI => ?_)
          · obtain ⟨hP, hD, hS, hl⟩ := hI
            have hl : lv_has ls 9 [(6, .int (nI k5)), (5, .int (tC k5)), (4, .int (tC (k5 + 1))), (3, .int (tC (k5 + 2))), (2, .int (tA (k5 + 3))), (1, .int (tA (k5 + 4))), (0, .ref h0)] := hl
            have hP : va_P D vwCl [(h0, .inr (5, [.ref st, .ref wd, w1])), (st, .inl (y 1, 8, .inl (zf tS1 8 f))), (wd, .inl (y 1, 80, .inl (zf tW1 80 g)))] H := hP
            have hD : va_D A [(h0, .inr (5, [.ref st, .ref wd, w1])), (st, .inl (y 1, 8, .inl (zf tS1 8 f))), (wd, .inl (y 1, 80, .inl (zf tW1 80 g)))] := hD
            refine lv_iload hx hb dX1_mixFirst_108 (lv_at hl 0 rfl) ?_
            refine lv_bipush (v := 80) hx hb dX1_mixFirst_110 (by decide) ?_
            refine lv_icmp_ge (tgt := 251) hx hb dX1_mixFirst_112 (by decide) (fun c9 => absurd c9 (ax_c_X1_mixFirst_25 k5 hk51 hk50)) (fun _ => ?_)
            refine lv_iload hx hb dX1_mixFirst_115 (lv_at hl 0 rfl) ?_
            refine lv_bipush (v := 20) hx hb dX1_mixFirst_117 (by decide) ?_
            refine lv_icmp_ge (tgt := 140) hx hb dX1_mixFirst_119 (by decide) (fun _ => ?_) (fun c9 => absurd (ax_c_X1_mixFirst_26 k5 hk51 hk50) c9)
            refine lv_iload hx hb dX1_mixFirst_140 (lv_at hl 0 rfl) ?_
            refine lv_bipush (v := 40) hx hb dX1_mixFirst_142 (by decide) ?_
            refine lv_icmp_ge (tgt := 161) hx hb dX1_mixFirst_144 (by decide) (fun _ => ?_) (fun c9 => absurd (ax_c_X1_mixFirst_27 k5 hk51 hk50) c9)
            refine lv_iload hx hb dX1_mixFirst_161 (lv_at hl 0 rfl) ?_
            refine lv_bipush (v := 60) hx hb dX1_mixFirst_163 (by decide) ?_
            refine lv_icmp_ge (tgt := 189) hx hb dX1_mixFirst_165 (by decide) (fun _ => ?_) (fun c9 => absurd (ax_c_X1_mixFirst_28 k5 hk51 hk50) c9)
            refine lv_iload_n hx hb dX1_mixFirst_189 rfl (lv_at hl 4 rfl) ?_
            refine lv_iload_n hx hb dX1_mixFirst_190 rfl (lv_at hl 3 rfl) ?_
            refine lv_ixor hx hb dX1_mixFirst_191 ?_
            refine lv_iload hx hb dX1_mixFirst_192 (lv_at hl 2 rfl) ?_
            refine lv_ixor hx hb dX1_mixFirst_194 ?_
            refine lv_ldc (v := -899497514) hx hb hown (hts (.constant RX1 51 (-899497514)) (by decide +kernel)) dX1_mixFirst_195 ?_
            refine lv_iadd hx hb dX1_mixFirst_197 ?_
            refine lv_istore (lv' := [(7, .int ((((tA (k5 + 3)) ^^^ (tC (k5 + 2))) ^^^ (tC (k5 + 1))) + (-899497514 : Int32))), (6, .int (nI k5)), (5, .int (tC k5)), (4, .int (tC (k5 + 1))), (3, .int (tC (k5 + 2))), (2, .int (tA (k5 + 3))), (1, .int (tA (k5 + 4))), (0, .ref h0)]) hx hb dX1_mixFirst_198 hl (by decide) rfl (fun ls hl => ?_)
            refine lv_iload_n hx hb dX1_mixFirst_200 rfl (lv_at hl 6 rfl) ?_
            refine lv_iconst (v := 5) hx hb dX1_mixFirst_201 (by decide) ?_
            refine lv_ishl hx hb dX1_mixFirst_202 ?_
            refine lv_iload_n hx hb dX1_mixFirst_203 rfl (lv_at hl 6 rfl) ?_
            refine lv_bipush (v := 27) hx hb dX1_mixFirst_204 (by decide) ?_
            refine lv_iushr (v := zu (tA (k5 + 4)) (27 : Int32)) hx hb dX1_mixFirst_206 rfl ?_
            refine lv_ior hx hb dX1_mixFirst_207 ?_
            refine lv_iload hx hb dX1_mixFirst_208 (lv_at hl 0 rfl) ?_
            refine lv_iadd hx hb dX1_mixFirst_210 ?_
            refine lv_iload hx hb dX1_mixFirst_211 (lv_at hl 2 rfl) ?_
            refine lv_iadd hx hb dX1_mixFirst_213 ?_
            refine lv_aload_n hx hb dX1_mixFirst_214 rfl (lv_at hl 7 rfl) ?_
            refine va_get (D := D) (ci := 5) (v := .ref wd) (C := RX1) (T := TX1) (N := 3) hx hb hts (by decide +kernel) hown hK hP 0 rfl rfl 1 (by decide) (hts (.fieldLink RX1 15 "SignetRing$Digest" "words" "[I") (by decide +kernel)) (fun _ h9 => h9) rfl dX1_mixFirst_215 ?_
            refine lv_iload hx hb dX1_mixFirst_218 (lv_at hl 1 rfl) ?_
            refine va_iald hx hb hK hP 2 1 rfl rfl (vp_in_nI (by omega) (by decide)) dX1_mixFirst_220 ?_
            refine lv_topi (fun v24 ev24 => ?_)
            have ev24 : v24 = tW1 k5 := ev24.trans (zf_rd (j := k5) (by omega) (by omega))
            subst ev24
            refine lv_iadd hx hb dX1_mixFirst_221 ?_
            refine lv_topi (fun v25 ev25 => ?_)
            have ev25 : v25 = tA (k5 + 5) := ev25.trans (ax_c_X1_mixFirst_29 k5 hk51 hk50)
            subst ev25
            refine lv_istore (lv' := [(8, .int (tA (k5 + 5))), (7, .int ((((tA (k5 + 3)) ^^^ (tC (k5 + 2))) ^^^ (tC (k5 + 1))) + (-899497514 : Int32))), (6, .int (nI k5)), (5, .int (tC k5)), (4, .int (tC (k5 + 1))), (3, .int (tC (k5 + 2))), (2, .int (tA (k5 + 3))), (1, .int (tA (k5 + 4))), (0, .ref h0)]) hx hb dX1_mixFirst_222 hl (by decide) rfl (fun ls hl => ?_)
            refine lv_iload hx hb dX1_mixFirst_224 (lv_at hl 4 rfl) ?_
            refine lv_istore (lv' := [(5, .int (tC (k5 + 1))), (8, .int (tA (k5 + 5))), (7, .int ((((tA (k5 + 3)) ^^^ (tC (k5 + 2))) ^^^ (tC (k5 + 1))) + (-899497514 : Int32))), (6, .int (nI k5)), (4, .int (tC (k5 + 1))), (3, .int (tC (k5 + 2))), (2, .int (tA (k5 + 3))), (1, .int (tA (k5 + 4))), (0, .ref h0)]) hx hb dX1_mixFirst_226 hl (by decide) rfl (fun ls hl => ?_)
            refine lv_iload_n hx hb dX1_mixFirst_228 rfl (lv_at hl 5 rfl) ?_
            refine lv_istore (lv' := [(4, .int (tC (k5 + 2))), (5, .int (tC (k5 + 1))), (8, .int (tA (k5 + 5))), (7, .int ((((tA (k5 + 3)) ^^^ (tC (k5 + 2))) ^^^ (tC (k5 + 1))) + (-899497514 : Int32))), (6, .int (nI k5)), (3, .int (tC (k5 + 2))), (2, .int (tA (k5 + 3))), (1, .int (tA (k5 + 4))), (0, .ref h0)]) hx hb dX1_mixFirst_229 hl (by decide) rfl (fun ls hl => ?_)
            refine lv_iload_n hx hb dX1_mixFirst_231 rfl (lv_at hl 6 rfl) ?_
            refine lv_bipush (v := 30) hx hb dX1_mixFirst_232 (by decide) ?_
            refine lv_ishl hx hb dX1_mixFirst_234 ?_
            refine lv_iload_n hx hb dX1_mixFirst_235 rfl (lv_at hl 6 rfl) ?_
            refine lv_iconst (v := 2) hx hb dX1_mixFirst_236 (by decide) ?_
            refine lv_iushr (v := zu (tA (k5 + 3)) (2 : Int32)) hx hb dX1_mixFirst_237 rfl ?_
            refine lv_ior hx hb dX1_mixFirst_238 ?_
            refine lv_topi (fun v26 ev26 => ?_)
            have ev26 : v26 = tC (k5 + 3) := ev26.trans (ax_c_X1_mixFirst_30 k5 hk51 hk50)
            subst ev26
            refine lv_istore_n (lv' := [(3, .int (tC (k5 + 3))), (4, .int (tC (k5 + 2))), (5, .int (tC (k5 + 1))), (8, .int (tA (k5 + 5))), (7, .int ((((tA (k5 + 3)) ^^^ (tC (k5 + 2))) ^^^ (tC (k5 + 1))) + (-899497514 : Int32))), (6, .int (nI k5)), (2, .int (tA (k5 + 3))), (1, .int (tA (k5 + 4))), (0, .ref h0)]) hx hb dX1_mixFirst_239 rfl hl (by decide) rfl (fun ls hl => ?_)
            refine lv_iload_n hx hb dX1_mixFirst_240 rfl (lv_at hl 7 rfl) ?_
            refine lv_istore_n (lv' := [(2, .int (tA (k5 + 4))), (3, .int (tC (k5 + 3))), (4, .int (tC (k5 + 2))), (5, .int (tC (k5 + 1))), (8, .int (tA (k5 + 5))), (7, .int ((((tA (k5 + 3)) ^^^ (tC (k5 + 2))) ^^^ (tC (k5 + 1))) + (-899497514 : Int32))), (6, .int (nI k5)), (1, .int (tA (k5 + 4))), (0, .ref h0)]) hx hb dX1_mixFirst_241 rfl hl (by decide) rfl (fun ls hl => ?_)
            refine lv_iload hx hb dX1_mixFirst_242 (lv_at hl 4 rfl) ?_
            refine lv_istore_n (lv' := [(1, .int (tA (k5 + 5))), (2, .int (tA (k5 + 4))), (3, .int (tC (k5 + 3))), (4, .int (tC (k5 + 2))), (5, .int (tC (k5 + 1))), (8, .int (tA (k5 + 5))), (7, .int ((((tA (k5 + 3)) ^^^ (tC (k5 + 2))) ^^^ (tC (k5 + 1))) + (-899497514 : Int32))), (6, .int (nI k5)), (0, .ref h0)]) hx hb dX1_mixFirst_244 rfl hl (by decide) rfl (fun ls hl => ?_)
            refine lv_iinc (v := nI (k5 + 1)) (lv' := [(6, .int (nI (k5 + 1))), (1, .int (tA (k5 + 5))), (2, .int (tA (k5 + 4))), (3, .int (tC (k5 + 3))), (4, .int (tC (k5 + 2))), (5, .int (tC (k5 + 1))), (8, .int (tA (k5 + 5))), (7, .int ((((tA (k5 + 3)) ^^^ (tC (k5 + 2))) ^^^ (tC (k5 + 1))) + (-899497514 : Int32))), (0, .ref h0)]) hx hb dX1_mixFirst_245 hl (k := 7) rfl (ax_c_X1_mixFirst_31 k5 hk51 hk50) (by decide) rfl (fun ls hl => ?_)
            refine lv_goto (tgt := 108) hx hb dX1_mixFirst_248 (by decide) ?_
            exact ih ls H locs ⟨hP, hD, hS, lv_sub hl [0, 5, 4, 3, 2, 1, 8] rfl⟩
          · obtain ⟨hP, hD, hS, hl⟩ := hI
            have hl : lv_has ls 9 [(6, .int (nI 80)), (5, .int (tC 80)), (4, .int (tC 81)), (3, .int (tC 82)), (2, .int (tA 83)), (1, .int (tA 84)), (0, .ref h0)] := hl
            have hP : va_P D vwCl [(h0, .inr (5, [.ref st, .ref wd, w1])), (st, .inl (y 1, 8, .inl (zf tS1 8 f))), (wd, .inl (y 1, 80, .inl (zf tW1 80 g)))] H := hP
            have hD : va_D A [(h0, .inr (5, [.ref st, .ref wd, w1])), (st, .inl (y 1, 8, .inl (zf tS1 8 f))), (wd, .inl (y 1, 80, .inl (zf tW1 80 g)))] := hD
            refine lv_iload hx hb dX1_mixFirst_108 (lv_at hl 0 rfl) ?_
            refine lv_bipush (v := 80) hx hb dX1_mixFirst_110 (by decide) ?_
            refine lv_icmp_ge (tgt := 251) hx hb dX1_mixFirst_112 (by decide) (fun _ => ?_) (fun c9 => absurd (by decide) c9)
            refine lv_aload_n hx hb dX1_mixFirst_251 rfl (lv_at hl 6 rfl) ?_
            refine va_get (D := D) (ci := 5) (v := .ref st) (C := RX1) (T := TX1) (N := 3) hx hb hts (by decide +kernel) hown hK hP 0 rfl rfl 0 (by decide) (hts (.fieldLink RX1 9 "SignetRing$Digest" "state" "[I") (by decide +kernel)) (fun _ h9 => h9) rfl dX1_mixFirst_252 ?_
            refine lv_iconst (v := 0) hx hb dX1_mixFirst_255 (by decide) ?_
            refine lv_dup2_11 hx hb dX1_mixFirst_256 rfl rfl ?_
            refine va_iald hx hb hK hP 1 1 rfl rfl (by unfold vp_in; decide) dX1_mixFirst_257 ?_
            refine lv_topi (fun v27 ev27 => ?_)
            have ev27 : v27 = tS1 0 := ev27.trans (zf_rd (j := 0) (by decide) (by decide))
            subst ev27
            refine lv_iload_n hx hb dX1_mixFirst_258 rfl (lv_at hl 5 rfl) ?_
            refine lv_iadd hx hb dX1_mixFirst_259 ?_
            refine va_iast hx hb hK hP hD hS 1 1 rfl rfl (by unfold vp_in; decide) dX1_mixFirst_260 (fun H locs hP hD hS => ?_)
            have hP : va_P D vwCl [(h0, .inr (5, [.ref st, .ref wd, w1])), (st, .inl (y 1, 8, .inl (upd (zf tD1 0 (zf tS1 8 f)) (nI 0).toNatClampNeg ((tS1 0) + (tA 84))))), (wd, .inl (y 1, 80, .inl (zf tW1 80 g)))] H := hP
            have hD : va_D A [(h0, .inr (5, [.ref st, .ref wd, w1])), (st, .inl (y 1, 8, .inl (upd (zf tD1 0 (zf tS1 8 f)) (nI 0).toNatClampNeg ((tS1 0) + (tA 84))))), (wd, .inl (y 1, 80, .inl (zf tW1 80 g)))] := hD
            have u28 : upd (zf tD1 0 (zf tS1 8 f)) (nI 0).toNatClampNeg ((tS1 0) + (tA 84)) = zf tD1 1 (zf tS1 8 f) := (zf_st (n := 0) (by decide) (by decide +kernel))
            rw [u28] at hP hD
            have hP : va_P D vwCl [(h0, .inr (5, [.ref st, .ref wd, w1])), (st, .inl (y 1, 8, .inl (zf tD1 1 (zf tS1 8 f)))), (wd, .inl (y 1, 80, .inl (zf tW1 80 g)))] H := hP
            have hD : va_D A [(h0, .inr (5, [.ref st, .ref wd, w1])), (st, .inl (y 1, 8, .inl (zf tD1 1 (zf tS1 8 f)))), (wd, .inl (y 1, 80, .inl (zf tW1 80 g)))] := hD
            refine lv_aload_n hx hb dX1_mixFirst_261 rfl (lv_at hl 6 rfl) ?_
            refine va_get (D := D) (ci := 5) (v := .ref st) (C := RX1) (T := TX1) (N := 3) hx hb hts (by decide +kernel) hown hK hP 0 rfl rfl 0 (by decide) (hts (.fieldLink RX1 9 "SignetRing$Digest" "state" "[I") (by decide +kernel)) (fun _ h9 => h9) rfl dX1_mixFirst_262 ?_
            refine lv_iconst (v := 1) hx hb dX1_mixFirst_265 (by decide) ?_
            refine lv_dup2_11 hx hb dX1_mixFirst_266 rfl rfl ?_
            refine va_iald hx hb hK hP 1 1 rfl rfl (by unfold vp_in; decide) dX1_mixFirst_267 ?_
            refine lv_topi (fun v29 ev29 => ?_)
            have ev29 : v29 = tS1 1 := ev29.trans (zf_rdo (j := 1) (by omega) (by omega) (zf_rd (j := 1) (by decide) (by decide)))
            subst ev29
            refine lv_iload_n hx hb dX1_mixFirst_268 rfl (lv_at hl 4 rfl) ?_
            refine lv_iadd hx hb dX1_mixFirst_269 ?_
            refine va_iast hx hb hK hP hD hS 1 1 rfl rfl (by unfold vp_in; decide) dX1_mixFirst_270 (fun H locs hP hD hS => ?_)
            have hP : va_P D vwCl [(h0, .inr (5, [.ref st, .ref wd, w1])), (st, .inl (y 1, 8, .inl (upd (zf tD1 1 (zf tS1 8 f)) (nI 1).toNatClampNeg ((tS1 1) + (tA 83))))), (wd, .inl (y 1, 80, .inl (zf tW1 80 g)))] H := hP
            have hD : va_D A [(h0, .inr (5, [.ref st, .ref wd, w1])), (st, .inl (y 1, 8, .inl (upd (zf tD1 1 (zf tS1 8 f)) (nI 1).toNatClampNeg ((tS1 1) + (tA 83))))), (wd, .inl (y 1, 80, .inl (zf tW1 80 g)))] := hD
            have u30 : upd (zf tD1 1 (zf tS1 8 f)) (nI 1).toNatClampNeg ((tS1 1) + (tA 83)) = zf tD1 2 (zf tS1 8 f) := (zf_st (n := 1) (by decide) (by decide +kernel))
            rw [u30] at hP hD
            have hP : va_P D vwCl [(h0, .inr (5, [.ref st, .ref wd, w1])), (st, .inl (y 1, 8, .inl (zf tD1 2 (zf tS1 8 f)))), (wd, .inl (y 1, 80, .inl (zf tW1 80 g)))] H := hP
            have hD : va_D A [(h0, .inr (5, [.ref st, .ref wd, w1])), (st, .inl (y 1, 8, .inl (zf tD1 2 (zf tS1 8 f)))), (wd, .inl (y 1, 80, .inl (zf tW1 80 g)))] := hD
            refine lv_aload_n hx hb dX1_mixFirst_271 rfl (lv_at hl 6 rfl) ?_
            refine va_get (D := D) (ci := 5) (v := .ref st) (C := RX1) (T := TX1) (N := 3) hx hb hts (by decide +kernel) hown hK hP 0 rfl rfl 0 (by decide) (hts (.fieldLink RX1 9 "SignetRing$Digest" "state" "[I") (by decide +kernel)) (fun _ h9 => h9) rfl dX1_mixFirst_272 ?_
            refine lv_iconst (v := 2) hx hb dX1_mixFirst_275 (by decide) ?_
            refine lv_dup2_11 hx hb dX1_mixFirst_276 rfl rfl ?_
            refine va_iald hx hb hK hP 1 1 rfl rfl (by unfold vp_in; decide) dX1_mixFirst_277 ?_
            refine lv_topi (fun v31 ev31 => ?_)
            have ev31 : v31 = tS1 2 := ev31.trans (zf_rdo (j := 2) (by omega) (by omega) (zf_rd (j := 2) (by decide) (by decide)))
            subst ev31
            refine lv_iload_n hx hb dX1_mixFirst_278 rfl (lv_at hl 3 rfl) ?_
            refine lv_iadd hx hb dX1_mixFirst_279 ?_
            refine va_iast hx hb hK hP hD hS 1 1 rfl rfl (by unfold vp_in; decide) dX1_mixFirst_280 (fun H locs hP hD hS => ?_)
            have hP : va_P D vwCl [(h0, .inr (5, [.ref st, .ref wd, w1])), (st, .inl (y 1, 8, .inl (upd (zf tD1 2 (zf tS1 8 f)) (nI 2).toNatClampNeg ((tS1 2) + (tC 82))))), (wd, .inl (y 1, 80, .inl (zf tW1 80 g)))] H := hP
            have hD : va_D A [(h0, .inr (5, [.ref st, .ref wd, w1])), (st, .inl (y 1, 8, .inl (upd (zf tD1 2 (zf tS1 8 f)) (nI 2).toNatClampNeg ((tS1 2) + (tC 82))))), (wd, .inl (y 1, 80, .inl (zf tW1 80 g)))] := hD
            have u32 : upd (zf tD1 2 (zf tS1 8 f)) (nI 2).toNatClampNeg ((tS1 2) + (tC 82)) = zf tD1 3 (zf tS1 8 f) := (zf_st (n := 2) (by decide) (by decide +kernel))
            rw [u32] at hP hD
            have hP : va_P D vwCl [(h0, .inr (5, [.ref st, .ref wd, w1])), (st, .inl (y 1, 8, .inl (zf tD1 3 (zf tS1 8 f)))), (wd, .inl (y 1, 80, .inl (zf tW1 80 g)))] H := hP
            have hD : va_D A [(h0, .inr (5, [.ref st, .ref wd, w1])), (st, .inl (y 1, 8, .inl (zf tD1 3 (zf tS1 8 f)))), (wd, .inl (y 1, 80, .inl (zf tW1 80 g)))] := hD
            refine lv_aload_n hx hb dX1_mixFirst_281 rfl (lv_at hl 6 rfl) ?_
            refine va_get (D := D) (ci := 5) (v := .ref st) (C := RX1) (T := TX1) (N := 3) hx hb hts (by decide +kernel) hown hK hP 0 rfl rfl 0 (by decide) (hts (.fieldLink RX1 9 "SignetRing$Digest" "state" "[I") (by decide +kernel)) (fun _ h9 => h9) rfl dX1_mixFirst_282 ?_
            refine lv_iconst (v := 3) hx hb dX1_mixFirst_285 (by decide) ?_
            refine lv_dup2_11 hx hb dX1_mixFirst_286 rfl rfl ?_
            refine va_iald hx hb hK hP 1 1 rfl rfl (by unfold vp_in; decide) dX1_mixFirst_287 ?_
            refine lv_topi (fun v33 ev33 => ?_)
            have ev33 : v33 = tS1 3 := ev33.trans (zf_rdo (j := 3) (by omega) (by omega) (zf_rd (j := 3) (by decide) (by decide)))
            subst ev33
            refine lv_iload hx hb dX1_mixFirst_288 (lv_at hl 2 rfl) ?_
            refine lv_iadd hx hb dX1_mixFirst_290 ?_
            refine va_iast hx hb hK hP hD hS 1 1 rfl rfl (by unfold vp_in; decide) dX1_mixFirst_291 (fun H locs hP hD hS => ?_)
            have hP : va_P D vwCl [(h0, .inr (5, [.ref st, .ref wd, w1])), (st, .inl (y 1, 8, .inl (upd (zf tD1 3 (zf tS1 8 f)) (nI 3).toNatClampNeg ((tS1 3) + (tC 81))))), (wd, .inl (y 1, 80, .inl (zf tW1 80 g)))] H := hP
            have hD : va_D A [(h0, .inr (5, [.ref st, .ref wd, w1])), (st, .inl (y 1, 8, .inl (upd (zf tD1 3 (zf tS1 8 f)) (nI 3).toNatClampNeg ((tS1 3) + (tC 81))))), (wd, .inl (y 1, 80, .inl (zf tW1 80 g)))] := hD
            have u34 : upd (zf tD1 3 (zf tS1 8 f)) (nI 3).toNatClampNeg ((tS1 3) + (tC 81)) = zf tD1 4 (zf tS1 8 f) := (zf_st (n := 3) (by decide) (by decide +kernel))
            rw [u34] at hP hD
            have hP : va_P D vwCl [(h0, .inr (5, [.ref st, .ref wd, w1])), (st, .inl (y 1, 8, .inl (zf tD1 4 (zf tS1 8 f)))), (wd, .inl (y 1, 80, .inl (zf tW1 80 g)))] H := hP
            have hD : va_D A [(h0, .inr (5, [.ref st, .ref wd, w1])), (st, .inl (y 1, 8, .inl (zf tD1 4 (zf tS1 8 f)))), (wd, .inl (y 1, 80, .inl (zf tW1 80 g)))] := hD
            refine lv_aload_n hx hb dX1_mixFirst_292 rfl (lv_at hl 6 rfl) ?_
            refine va_get (D := D) (ci := 5) (v := .ref st) (C := RX1) (T := TX1) (N := 3) hx hb hts (by decide +kernel) hown hK hP 0 rfl rfl 0 (by decide) (hts (.fieldLink RX1 9 "SignetRing$Digest" "state" "[I") (by decide +kernel)) (fun _ h9 => h9) rfl dX1_mixFirst_293 ?_
            refine lv_iconst (v := 4) hx hb dX1_mixFirst_296 (by decide) ?_
            refine lv_dup2_11 hx hb dX1_mixFirst_297 rfl rfl ?_
            refine va_iald hx hb hK hP 1 1 rfl rfl (by unfold vp_in; decide) dX1_mixFirst_298 ?_
            refine lv_topi (fun v35 ev35 => ?_)
            have ev35 : v35 = tS1 4 := ev35.trans (zf_rdo (j := 4) (by omega) (by omega) (zf_rd (j := 4) (by decide) (by decide)))
            subst ev35
            refine lv_iload hx hb dX1_mixFirst_299 (lv_at hl 1 rfl) ?_
            refine lv_iadd hx hb dX1_mixFirst_301 ?_
            refine va_iast hx hb hK hP hD hS 1 1 rfl rfl (by unfold vp_in; decide) dX1_mixFirst_302 (fun H locs hP hD hS => ?_)
            have hP : va_P D vwCl [(h0, .inr (5, [.ref st, .ref wd, w1])), (st, .inl (y 1, 8, .inl (upd (zf tD1 4 (zf tS1 8 f)) (nI 4).toNatClampNeg ((tS1 4) + (tC 80))))), (wd, .inl (y 1, 80, .inl (zf tW1 80 g)))] H := hP
            have hD : va_D A [(h0, .inr (5, [.ref st, .ref wd, w1])), (st, .inl (y 1, 8, .inl (upd (zf tD1 4 (zf tS1 8 f)) (nI 4).toNatClampNeg ((tS1 4) + (tC 80))))), (wd, .inl (y 1, 80, .inl (zf tW1 80 g)))] := hD
            have u36 : upd (zf tD1 4 (zf tS1 8 f)) (nI 4).toNatClampNeg ((tS1 4) + (tC 80)) = zf tD1 5 (zf tS1 8 f) := (zf_st (n := 4) (by decide) (by decide +kernel))
            rw [u36] at hP hD
            have hP : va_P D vwCl [(h0, .inr (5, [.ref st, .ref wd, w1])), (st, .inl (y 1, 8, .inl (zf tD1 5 (zf tS1 8 f)))), (wd, .inl (y 1, 80, .inl (zf tW1 80 g)))] H := hP
            have hD : va_D A [(h0, .inr (5, [.ref st, .ref wd, w1])), (st, .inl (y 1, 8, .inl (zf tD1 5 (zf tS1 8 f)))), (wd, .inl (y 1, 80, .inl (zf tW1 80 g)))] := hD
            have hP9 := hP.sub (ws' := [(h0, .inr (5, [.ref st, .ref wd, w1])), (st, .inl (y 1, 8, .inl (zf tD1 5 (zf tS1 8 f)))), (wd, .inl (y 1, 80, .inl (zf tW1 80 g)))]) [0, 1, 2] rfl
            have hD9 := hD.sub (ws' := [(h0, .inr (5, [.ref st, .ref wd, w1])), (st, .inl (y 1, 8, .inl (zf tD1 5 (zf tS1 8 f)))), (wd, .inl (y 1, 80, .inl (zf tW1 80 g)))]) [0, 1, 2] (by decide) rfl
            refine W.widen (k := 0) (n := 0) (Nat.le_of_ble_eq_true rfl) (Nat.le_of_ble_eq_true rfl) ?_
            exact W.vret hx hb hr (fun t ht hW => ⟨⟨(), rfl, trivial, by rw [ht]; exact hP9, hD9⟩, hS.F ht⟩) hS.2.2 dX1_mixFirst_303

/-! What the premises say of the statics' arrays and of the String constants. -/
set_option maxHeartbeats 4000000 in
set_option maxRecDepth 100000 in
theorem nr_e1_a : Cond.arrayOf (.static "SignetRing$Digest" "START_FIRST" "[I") .int ∈ flatC narrow_1 := by decide +kernel
set_option maxHeartbeats 4000000 in
set_option maxRecDepth 100000 in
theorem nr_e1_l : Cond.eq (.length (.static "SignetRing$Digest" "START_FIRST" "[I")) (.int (Int32.ofNat 8)) ∈ flatC narrow_1 := by decide +kernel
set_option maxHeartbeats 4000000 in
set_option maxRecDepth 100000 in
theorem nr_e1_e : ∀ j : Nat, j < 8 → Cond.eq (.elem (.static "SignetRing$Digest" "START_FIRST" "[I") (.int (Int32.ofNat j))) (.int (tS1 j)) ∈ flatC narrow_1 := by decide +kernel
set_option maxHeartbeats 4000000 in
set_option maxRecDepth 100000 in
theorem nr_e2_a : Cond.arrayOf (.static "SignetRing$Digest" "START_SECOND" "[I") .int ∈ flatC narrow_1 := by decide +kernel
set_option maxHeartbeats 4000000 in
set_option maxRecDepth 100000 in
theorem nr_e2_l : Cond.eq (.length (.static "SignetRing$Digest" "START_SECOND" "[I")) (.int (Int32.ofNat 8)) ∈ flatC narrow_1 := by decide +kernel
set_option maxHeartbeats 4000000 in
set_option maxRecDepth 100000 in
theorem nr_e2_e : ∀ j : Nat, j < 8 → Cond.eq (.elem (.static "SignetRing$Digest" "START_SECOND" "[I") (.int (Int32.ofNat j))) (.int (tS2 j)) ∈ flatC narrow_1 := by decide +kernel
set_option maxHeartbeats 4000000 in
set_option maxRecDepth 100000 in
theorem nr_e3_a : Cond.arrayOf (.static "SignetRing$Digest" "ROUNDS" "[I") .int ∈ flatC narrow_1 := by decide +kernel
set_option maxHeartbeats 4000000 in
set_option maxRecDepth 100000 in
theorem nr_e3_l : Cond.eq (.length (.static "SignetRing$Digest" "ROUNDS" "[I")) (.int (Int32.ofNat 64)) ∈ flatC narrow_1 := by decide +kernel
set_option maxHeartbeats 4000000 in
set_option maxRecDepth 100000 in
theorem nr_e3_e : ∀ j : Nat, j < 64 → Cond.eq (.elem (.static "SignetRing$Digest" "ROUNDS" "[I") (.int (Int32.ofNat j))) (.int (tK j)) ∈ flatC narrow_1 := by decide +kernel
set_option maxHeartbeats 4000000 in
set_option maxRecDepth 100000 in
theorem nr_e4_a : Cond.arrayOf (.static "SignetRingModel" "ROUNDS" "[I") .int ∈ flatC narrow_1 := by decide +kernel
set_option maxHeartbeats 4000000 in
set_option maxRecDepth 100000 in
theorem nr_e4_l : Cond.eq (.length (.static "SignetRingModel" "ROUNDS" "[I")) (.int (Int32.ofNat 64)) ∈ flatC narrow_1 := by decide +kernel
set_option maxHeartbeats 4000000 in
set_option maxRecDepth 100000 in
theorem nr_e4_e : ∀ j : Nat, j < 64 → Cond.eq (.elem (.static "SignetRingModel" "ROUNDS" "[I") (.int (Int32.ofNat j))) (.int (tK j)) ∈ flatC narrow_1 := by decide +kernel
set_option maxHeartbeats 4000000 in
set_option maxRecDepth 100000 in
theorem nr_s0_x : Cond.exactly (.string "SignetRing$Signs" 82) "java/lang/String" ∈ flatC narrow_1 := by decide +kernel
set_option maxHeartbeats 4000000 in
set_option maxRecDepth 100000 in
theorem nr_s0_c : Cond.eq (.field (.string "SignetRing$Signs" 82) "java/lang/String" "coder" "B") (.int 0) ∈ flatC narrow_1 := by decide +kernel
set_option maxHeartbeats 4000000 in
set_option maxRecDepth 100000 in
theorem nr_s0_a : Cond.arrayOf (.field (.string "SignetRing$Signs" 82) "java/lang/String" "value" "[B") .byte ∈ flatC narrow_1 := by decide +kernel
set_option maxHeartbeats 4000000 in
set_option maxRecDepth 100000 in
theorem nr_s0_l : Cond.eq (.length (.field (.string "SignetRing$Signs" 82) "java/lang/String" "value" "[B")) (.int (Int32.ofNat 11)) ∈ flatC narrow_1 := by decide +kernel
set_option maxHeartbeats 4000000 in
set_option maxRecDepth 100000 in
theorem nr_s0_e : ∀ j : Nat, j < 11 → Cond.eq (.elem (.field (.string "SignetRing$Signs" 82) "java/lang/String" "value" "[B") (.int (Int32.ofNat j))) (.int (zs0 j)) ∈ flatC narrow_1 := by decide +kernel
set_option maxHeartbeats 4000000 in
set_option maxRecDepth 100000 in
theorem nr_s1_x : Cond.exactly (.string "SignetRing$Signs" 24) "java/lang/String" ∈ flatC narrow_1 := by decide +kernel
set_option maxHeartbeats 4000000 in
set_option maxRecDepth 100000 in
theorem nr_s1_c : Cond.eq (.field (.string "SignetRing$Signs" 24) "java/lang/String" "coder" "B") (.int 0) ∈ flatC narrow_1 := by decide +kernel
set_option maxHeartbeats 4000000 in
set_option maxRecDepth 100000 in
theorem nr_s1_a : Cond.arrayOf (.field (.string "SignetRing$Signs" 24) "java/lang/String" "value" "[B") .byte ∈ flatC narrow_1 := by decide +kernel
set_option maxHeartbeats 4000000 in
set_option maxRecDepth 100000 in
theorem nr_s1_l : Cond.eq (.length (.field (.string "SignetRing$Signs" 24) "java/lang/String" "value" "[B")) (.int (Int32.ofNat 11)) ∈ flatC narrow_1 := by decide +kernel
set_option maxHeartbeats 4000000 in
set_option maxRecDepth 100000 in
theorem nr_s1_e : ∀ j : Nat, j < 11 → Cond.eq (.elem (.field (.string "SignetRing$Signs" 24) "java/lang/String" "value" "[B") (.int (Int32.ofNat j))) (.int (zs1 j)) ∈ flatC narrow_1 := by decide +kernel
set_option maxHeartbeats 4000000 in
set_option maxRecDepth 100000 in
theorem nr_s2_x : Cond.exactly (.string "SignetRing$Signs" 26) "java/lang/String" ∈ flatC narrow_1 := by decide +kernel
set_option maxHeartbeats 4000000 in
set_option maxRecDepth 100000 in
theorem nr_s2_c : Cond.eq (.field (.string "SignetRing$Signs" 26) "java/lang/String" "coder" "B") (.int 0) ∈ flatC narrow_1 := by decide +kernel
set_option maxHeartbeats 4000000 in
set_option maxRecDepth 100000 in
theorem nr_s2_a : Cond.arrayOf (.field (.string "SignetRing$Signs" 26) "java/lang/String" "value" "[B") .byte ∈ flatC narrow_1 := by decide +kernel
set_option maxHeartbeats 4000000 in
set_option maxRecDepth 100000 in
theorem nr_s2_l : Cond.eq (.length (.field (.string "SignetRing$Signs" 26) "java/lang/String" "value" "[B")) (.int (Int32.ofNat 4)) ∈ flatC narrow_1 := by decide +kernel
set_option maxHeartbeats 4000000 in
set_option maxRecDepth 100000 in
theorem nr_s2_e : ∀ j : Nat, j < 4 → Cond.eq (.elem (.field (.string "SignetRing$Signs" 26) "java/lang/String" "value" "[B") (.int (Int32.ofNat j))) (.int (zs2 j)) ∈ flatC narrow_1 := by decide +kernel
set_option maxHeartbeats 4000000 in
set_option maxRecDepth 100000 in
theorem nr_s3_x : Cond.exactly (.string "SignetRing$Signs" 28) "java/lang/String" ∈ flatC narrow_1 := by decide +kernel
set_option maxHeartbeats 4000000 in
set_option maxRecDepth 100000 in
theorem nr_s3_c : Cond.eq (.field (.string "SignetRing$Signs" 28) "java/lang/String" "coder" "B") (.int 0) ∈ flatC narrow_1 := by decide +kernel
set_option maxHeartbeats 4000000 in
set_option maxRecDepth 100000 in
theorem nr_s3_a : Cond.arrayOf (.field (.string "SignetRing$Signs" 28) "java/lang/String" "value" "[B") .byte ∈ flatC narrow_1 := by decide +kernel
set_option maxHeartbeats 4000000 in
set_option maxRecDepth 100000 in
theorem nr_s3_l : Cond.eq (.length (.field (.string "SignetRing$Signs" 28) "java/lang/String" "value" "[B")) (.int (Int32.ofNat 13)) ∈ flatC narrow_1 := by decide +kernel
set_option maxHeartbeats 4000000 in
set_option maxRecDepth 100000 in
theorem nr_s3_e : ∀ j : Nat, j < 13 → Cond.eq (.elem (.field (.string "SignetRing$Signs" 28) "java/lang/String" "value" "[B") (.int (Int32.ofNat j))) (.int (zs3 j)) ∈ flatC narrow_1 := by decide +kernel
set_option maxHeartbeats 4000000 in
set_option maxRecDepth 100000 in
theorem nr_s4_x : Cond.exactly (.string "SignetRing$Signs" 80) "java/lang/String" ∈ flatC narrow_1 := by decide +kernel
set_option maxHeartbeats 4000000 in
set_option maxRecDepth 100000 in
theorem nr_s4_c : Cond.eq (.field (.string "SignetRing$Signs" 80) "java/lang/String" "coder" "B") (.int 0) ∈ flatC narrow_1 := by decide +kernel
set_option maxHeartbeats 4000000 in
set_option maxRecDepth 100000 in
theorem nr_s4_a : Cond.arrayOf (.field (.string "SignetRing$Signs" 80) "java/lang/String" "value" "[B") .byte ∈ flatC narrow_1 := by decide +kernel
set_option maxHeartbeats 4000000 in
set_option maxRecDepth 100000 in
theorem nr_s4_l : Cond.eq (.length (.field (.string "SignetRing$Signs" 80) "java/lang/String" "value" "[B")) (.int (Int32.ofNat 5)) ∈ flatC narrow_1 := by decide +kernel
set_option maxHeartbeats 4000000 in
set_option maxRecDepth 100000 in
theorem nr_s4_e : ∀ j : Nat, j < 5 → Cond.eq (.elem (.field (.string "SignetRing$Signs" 80) "java/lang/String" "value" "[B") (.int (Int32.ofNat j))) (.int (zs4 j)) ∈ flatC narrow_1 := by decide +kernel
set_option maxHeartbeats 4000000 in
set_option maxRecDepth 100000 in
theorem nr_s5_x : Cond.exactly (.string "SignetRing$Signs" 113) "java/lang/String" ∈ flatC narrow_1 := by decide +kernel
set_option maxHeartbeats 4000000 in
set_option maxRecDepth 100000 in
theorem nr_s5_c : Cond.eq (.field (.string "SignetRing$Signs" 113) "java/lang/String" "coder" "B") (.int 0) ∈ flatC narrow_1 := by decide +kernel
set_option maxHeartbeats 4000000 in
set_option maxRecDepth 100000 in
theorem nr_s5_a : Cond.arrayOf (.field (.string "SignetRing$Signs" 113) "java/lang/String" "value" "[B") .byte ∈ flatC narrow_1 := by decide +kernel
set_option maxHeartbeats 4000000 in
set_option maxRecDepth 100000 in
theorem nr_s5_l : Cond.eq (.length (.field (.string "SignetRing$Signs" 113) "java/lang/String" "value" "[B")) (.int (Int32.ofNat 9)) ∈ flatC narrow_1 := by decide +kernel
set_option maxHeartbeats 4000000 in
set_option maxRecDepth 100000 in
theorem nr_s5_e : ∀ j : Nat, j < 9 → Cond.eq (.elem (.field (.string "SignetRing$Signs" 113) "java/lang/String" "value" "[B") (.int (Int32.ofNat j))) (.int (zs5 j)) ∈ flatC narrow_1 := by decide +kernel
set_option maxHeartbeats 4000000 in
set_option maxRecDepth 100000 in
theorem nr_s6_x : Cond.exactly (.string "SignetRingModel" 259) "java/lang/String" ∈ flatC narrow_1 := by decide +kernel
set_option maxHeartbeats 4000000 in
set_option maxRecDepth 100000 in
theorem nr_s6_c : Cond.eq (.field (.string "SignetRingModel" 259) "java/lang/String" "coder" "B") (.int 0) ∈ flatC narrow_1 := by decide +kernel
set_option maxHeartbeats 4000000 in
set_option maxRecDepth 100000 in
theorem nr_s6_a : Cond.arrayOf (.field (.string "SignetRingModel" 259) "java/lang/String" "value" "[B") .byte ∈ flatC narrow_1 := by decide +kernel
set_option maxHeartbeats 4000000 in
set_option maxRecDepth 100000 in
theorem nr_s6_l : Cond.eq (.length (.field (.string "SignetRingModel" 259) "java/lang/String" "value" "[B")) (.int (Int32.ofNat 11)) ∈ flatC narrow_1 := by decide +kernel
set_option maxHeartbeats 4000000 in
set_option maxRecDepth 100000 in
theorem nr_s6_e : ∀ j : Nat, j < 11 → Cond.eq (.elem (.field (.string "SignetRingModel" 259) "java/lang/String" "value" "[B") (.int (Int32.ofNat j))) (.int (zs6 j)) ∈ flatC narrow_1 := by decide +kernel
set_option maxHeartbeats 4000000 in
set_option maxRecDepth 100000 in
theorem nr_s7_x : Cond.exactly (.string "SignetRingModel" 204) "java/lang/String" ∈ flatC narrow_1 := by decide +kernel
set_option maxHeartbeats 4000000 in
set_option maxRecDepth 100000 in
theorem nr_s7_c : Cond.eq (.field (.string "SignetRingModel" 204) "java/lang/String" "coder" "B") (.int 0) ∈ flatC narrow_1 := by decide +kernel
set_option maxHeartbeats 4000000 in
set_option maxRecDepth 100000 in
theorem nr_s7_a : Cond.arrayOf (.field (.string "SignetRingModel" 204) "java/lang/String" "value" "[B") .byte ∈ flatC narrow_1 := by decide +kernel
set_option maxHeartbeats 4000000 in
set_option maxRecDepth 100000 in
theorem nr_s7_l : Cond.eq (.length (.field (.string "SignetRingModel" 204) "java/lang/String" "value" "[B")) (.int (Int32.ofNat 11)) ∈ flatC narrow_1 := by decide +kernel
set_option maxHeartbeats 4000000 in
set_option maxRecDepth 100000 in
theorem nr_s7_e : ∀ j : Nat, j < 11 → Cond.eq (.elem (.field (.string "SignetRingModel" 204) "java/lang/String" "value" "[B") (.int (Int32.ofNat j))) (.int (zs7 j)) ∈ flatC narrow_1 := by decide +kernel
set_option maxHeartbeats 4000000 in
set_option maxRecDepth 100000 in
theorem nr_s8_x : Cond.exactly (.string "SignetRingModel" 206) "java/lang/String" ∈ flatC narrow_1 := by decide +kernel
set_option maxHeartbeats 4000000 in
set_option maxRecDepth 100000 in
theorem nr_s8_c : Cond.eq (.field (.string "SignetRingModel" 206) "java/lang/String" "coder" "B") (.int 0) ∈ flatC narrow_1 := by decide +kernel
set_option maxHeartbeats 4000000 in
set_option maxRecDepth 100000 in
theorem nr_s8_a : Cond.arrayOf (.field (.string "SignetRingModel" 206) "java/lang/String" "value" "[B") .byte ∈ flatC narrow_1 := by decide +kernel
set_option maxHeartbeats 4000000 in
set_option maxRecDepth 100000 in
theorem nr_s8_l : Cond.eq (.length (.field (.string "SignetRingModel" 206) "java/lang/String" "value" "[B")) (.int (Int32.ofNat 4)) ∈ flatC narrow_1 := by decide +kernel
set_option maxHeartbeats 4000000 in
set_option maxRecDepth 100000 in
theorem nr_s8_e : ∀ j : Nat, j < 4 → Cond.eq (.elem (.field (.string "SignetRingModel" 206) "java/lang/String" "value" "[B") (.int (Int32.ofNat j))) (.int (zs8 j)) ∈ flatC narrow_1 := by decide +kernel
set_option maxHeartbeats 4000000 in
set_option maxRecDepth 100000 in
theorem nr_s9_x : Cond.exactly (.string "SignetRingModel" 208) "java/lang/String" ∈ flatC narrow_1 := by decide +kernel
set_option maxHeartbeats 4000000 in
set_option maxRecDepth 100000 in
theorem nr_s9_c : Cond.eq (.field (.string "SignetRingModel" 208) "java/lang/String" "coder" "B") (.int 0) ∈ flatC narrow_1 := by decide +kernel
set_option maxHeartbeats 4000000 in
set_option maxRecDepth 100000 in
theorem nr_s9_a : Cond.arrayOf (.field (.string "SignetRingModel" 208) "java/lang/String" "value" "[B") .byte ∈ flatC narrow_1 := by decide +kernel
set_option maxHeartbeats 4000000 in
set_option maxRecDepth 100000 in
theorem nr_s9_l : Cond.eq (.length (.field (.string "SignetRingModel" 208) "java/lang/String" "value" "[B")) (.int (Int32.ofNat 13)) ∈ flatC narrow_1 := by decide +kernel
set_option maxHeartbeats 4000000 in
set_option maxRecDepth 100000 in
theorem nr_s9_e : ∀ j : Nat, j < 13 → Cond.eq (.elem (.field (.string "SignetRingModel" 208) "java/lang/String" "value" "[B") (.int (Int32.ofNat j))) (.int (zs9 j)) ∈ flatC narrow_1 := by decide +kernel
set_option maxHeartbeats 4000000 in
set_option maxRecDepth 100000 in
theorem nr_s10_x : Cond.exactly (.string "SignetRingModel" 249) "java/lang/String" ∈ flatC narrow_1 := by decide +kernel
set_option maxHeartbeats 4000000 in
set_option maxRecDepth 100000 in
theorem nr_s10_c : Cond.eq (.field (.string "SignetRingModel" 249) "java/lang/String" "coder" "B") (.int 0) ∈ flatC narrow_1 := by decide +kernel
set_option maxHeartbeats 4000000 in
set_option maxRecDepth 100000 in
theorem nr_s10_a : Cond.arrayOf (.field (.string "SignetRingModel" 249) "java/lang/String" "value" "[B") .byte ∈ flatC narrow_1 := by decide +kernel
set_option maxHeartbeats 4000000 in
set_option maxRecDepth 100000 in
theorem nr_s10_l : Cond.eq (.length (.field (.string "SignetRingModel" 249) "java/lang/String" "value" "[B")) (.int (Int32.ofNat 5)) ∈ flatC narrow_1 := by decide +kernel
set_option maxHeartbeats 4000000 in
set_option maxRecDepth 100000 in
theorem nr_s10_e : ∀ j : Nat, j < 5 → Cond.eq (.elem (.field (.string "SignetRingModel" 249) "java/lang/String" "value" "[B") (.int (Int32.ofNat j))) (.int (zs10 j)) ∈ flatC narrow_1 := by decide +kernel
set_option maxHeartbeats 4000000 in
set_option maxRecDepth 100000 in
theorem nr_s11_x : Cond.exactly (.string "SignetRingModel" 243) "java/lang/String" ∈ flatC narrow_1 := by decide +kernel
set_option maxHeartbeats 4000000 in
set_option maxRecDepth 100000 in
theorem nr_s11_c : Cond.eq (.field (.string "SignetRingModel" 243) "java/lang/String" "coder" "B") (.int 0) ∈ flatC narrow_1 := by decide +kernel
set_option maxHeartbeats 4000000 in
set_option maxRecDepth 100000 in
theorem nr_s11_a : Cond.arrayOf (.field (.string "SignetRingModel" 243) "java/lang/String" "value" "[B") .byte ∈ flatC narrow_1 := by decide +kernel
set_option maxHeartbeats 4000000 in
set_option maxRecDepth 100000 in
theorem nr_s11_l : Cond.eq (.length (.field (.string "SignetRingModel" 243) "java/lang/String" "value" "[B")) (.int (Int32.ofNat 9)) ∈ flatC narrow_1 := by decide +kernel
set_option maxHeartbeats 4000000 in
set_option maxRecDepth 100000 in
theorem nr_s11_e : ∀ j : Nat, j < 9 → Cond.eq (.elem (.field (.string "SignetRingModel" 243) "java/lang/String" "value" "[B") (.int (Int32.ofNat j))) (.int (zs11 j)) ∈ flatC narrow_1 := by decide +kernel
set_option maxHeartbeats 4000000 in
set_option maxRecDepth 100000 in
theorem nr_cs : Cond.eq (.static "java/lang/String" "COMPACT_STRINGS" "Z") (.int 1) ∈ flatC narrow_1 := by decide +kernel
set_option maxHeartbeats 4000000 in
set_option maxRecDepth 100000 in
theorem nr_nc : Cond.not (.castable "java/lang/IndexOutOfBoundsException" "java/lang/IllegalArgumentException") ∈ flatC narrow_1 := by decide +kernel
set_option maxHeartbeats 4000000 in
set_option maxRecDepth 100000 in
theorem nr_zq : Cond.isRef (.static "jdk/internal/util/Preconditions" "SIOOBE_FORMATTER" "Ljava/util/function/BiFunction;") ∈ flatC narrow_1 := by decide +kernel
theorem zz_strOf {args : Array Value} {s : State} {own : String} {k n : Nat} {f : Nat → Int32} {A : Nat → Prop} (B : ∀ w ∈ flatC narrow_1, w.before args s = true) (hn : n < 2 ^ 31) (hex : Cond.exactly (.string own k) "java/lang/String" ∈ flatC narrow_1) (hco : Cond.eq (.field (.string own k) "java/lang/String" "coder" "B") (.int 0) ∈ flatC narrow_1)
    (har : Cond.arrayOf (.field (.string own k) "java/lang/String" "value" "[B") .byte ∈ flatC narrow_1) (hle : Cond.eq (.length (.field (.string own k) "java/lang/String" "value" "[B")) (.int (Int32.ofNat n)) ∈ flatC narrow_1) (hel : ∀ j : Nat, j < n → Cond.eq (.elem (.field (.string own k) "java/lang/String" "value" "[B") (.int (Int32.ofNat j))) (.int (f j)) ∈ flatC narrow_1) (hA : ∀ a : Nat, a < s.heap.size → ¬ A a) :
    ∃ a t : Nat, (Term.string own k).eval args s none [] s = some (.ref a) ∧ zStr a t n f A s s.heap := by
  obtain ⟨a, c, cA, kA, q1, q2, q3, q4, q5, q6, -⟩ := Cond.exactly_spec (args := args) (first := s) (o := none) (s := s) (idx := []) (t := .string own k) (cls := "java/lang/String") (B _ hex)
  obtain ⟨t, ht, hT⟩ := va_Tof (f := fun j => .int (f j)) (A := A) hn (B _ har) (va_eqt (B _ hle)) (fun j hj => va_eqt (B _ (hel j hj))) hA
  exact ⟨a, t, q1, ⟨cA, q3, q5, by rw [q6]; exact q2, hA a (Array.getElem?_eq_some_iff.mp q3).1⟩, vk_OFof q1 (va_eqt (B _ hco)) hA, vk_OFof q1 ht hA, hT⟩
theorem zz_arrOf {args : Array Value} {s : State} {C nm d : String} {n : Nat} {f : Nat → Int32} {A : Nat → Prop} (B : ∀ w ∈ flatC narrow_1, w.before args s = true) (hn : n < 2 ^ 31) (har : Cond.arrayOf (.static C nm d) .int ∈ flatC narrow_1) (hle : Cond.eq (.length (.static C nm d)) (.int (Int32.ofNat n)) ∈ flatC narrow_1) (hel : ∀ j : Nat, j < n → Cond.eq (.elem (.static C nm d) (.int (Int32.ofNat j))) (.int (f j)) ∈ flatC narrow_1) (hA : ∀ a : Nat, a < s.heap.size → ¬ A a) :
    ∃ t : Nat, (Term.static C nm d).eval args s none [] s = some (.ref t) ∧ va_T .int t n (fun j => .int (f j)) A s s.heap := by
  obtain ⟨t, ht, hT⟩ := va_Tof (f := fun j => .int (f j)) (A := A) hn (B _ har) (va_eqt (B _ hle)) (fun j hj => va_eqt (B _ (hel j hj))) hA
  exact ⟨t, ht, hT⟩
theorem zz_cmp (x : Int64) : lg_cmp x x = 0 := by
  unfold lg_cmp
  rw [if_neg (Int64.lt_irrefl), if_pos rfl]

def zL : List Cond := [.methodLinkNest RX7 20 yX1_init "SignetRing", .methodLinkNest RX2 11 yX1_init "SignetRing", .methodLinkNest RX11 38 yX4_init "SignetRing", .methodLinkNest RX11 45 yX9_init "SignetRing", .methodLinkNest RX11 52 yX1_init "SignetRing", .methodLinkNest RX11 59 yX7_init "SignetRing", .methodLinkNest RX11 66 yX2_init "SignetRing", .declares (Bundle.init0 "java/lang/RuntimeException"), .declares (Bundle.init0 "java/lang/Exception"), .declares (Bundle.init0 "java/lang/Throwable"), .castable "java/lang/IndexOutOfBoundsException" "java/lang/IndexOutOfBoundsException", .declares (Bundle.init0 "java/lang/IndexOutOfBoundsException"), .castable "java/lang/ArrayIndexOutOfBoundsException" "java/lang/ArrayIndexOutOfBoundsException", .castable "java/lang/IllegalArgumentException" "java/lang/IllegalArgumentException"]
theorem zL_in : ∀ w ∈ zL, w ∈ lw_tbl := by decide +kernel
theorem zL_W : ∀ w ∈ zL, zW w = true := by decide +kernel
theorem in_RJ0 : ∀ w ∈ u_ws RJ0 TJ0 4, w ∈ lw_tbl := by decide +kernel
theorem in_RJ4 : ∀ w ∈ u_ws RJ4 TJ4 4, w ∈ lw_tbl := by decide +kernel
theorem in_RJx00060 : ∀ w ∈ u_ws RJx00060 TJx00060 6, w ∈ lw_tbl := by decide +kernel
theorem in_RJx4a65c : ∀ w ∈ u_ws RJx4a65c TJx4a65c 3, w ∈ lw_tbl := by decide +kernel
theorem in_RX0 : ∀ w ∈ u_ws RX0 TX0 3, w ∈ lw_tbl := by decide +kernel
theorem in_RX1 : ∀ w ∈ u_ws RX1 TX1 3, w ∈ lw_tbl := by decide +kernel
theorem in_RX2 : ∀ w ∈ u_ws RX2 TX2 5, w ∈ lw_tbl := by decide +kernel
theorem in_RX3 : ∀ w ∈ u_ws RX3 TX3 17, w ∈ lw_tbl := by decide +kernel
theorem in_RX4 : ∀ w ∈ u_ws RX4 TX4 6, w ∈ lw_tbl := by decide +kernel
theorem in_RX5 : ∀ w ∈ u_ws RX5 TX5 5, w ∈ lw_tbl := by decide +kernel
theorem in_RX6 : ∀ w ∈ u_ws RX6 TX6 11, w ∈ lw_tbl := by decide +kernel
theorem in_RX7 : ∀ w ∈ u_ws RX7 TX7 7, w ∈ lw_tbl := by decide +kernel
theorem in_RX8 : ∀ w ∈ u_ws RX8 TX8 18, w ∈ lw_tbl := by decide +kernel
theorem in_RX9 : ∀ w ∈ u_ws RX9 TX9 7, w ∈ lw_tbl := by decide +kernel
theorem in_RX10 : ∀ w ∈ u_ws RX10 TX10 3, w ∈ lw_tbl := by decide +kernel
theorem in_RX11 : ∀ w ∈ u_ws RX11 TX11 15, w ∈ lw_tbl := by decide +kernel
theorem in_RX12 : ∀ w ∈ u_ws RX12 TX12 64, w ∈ lw_tbl := by decide +kernel
theorem zz_arrRef {args : Array Value} {s : State} {t : Term} {ty : FieldType} (h : (Cond.arrayOf t ty).before args s = true) : ∃ a, t.eval args s none [] s = some (.ref a) := by
  cases hv : t.eval args s none [] s with
  | none => simp [Cond.before, Cond.holds, Cond.value, hv] at h
  | some w =>
    cases w with
    | ref a => exact ⟨a, rfl⟩
    | _ => simp [Cond.before, Cond.holds, Cond.value, hv] at h
abbrev zEL (e0 e1 e2 e3 e4 : Nat) : List (String × String × String × Value) := [("java/util/ArrayList", "DEFAULTCAPACITY_EMPTY_ELEMENTDATA", "[Ljava/lang/Object;", .ref e0), ("java/lang/String", "COMPACT_STRINGS", "Z", .int 1), ("SignetRing$Digest", "START_FIRST", "[I", .ref e1), ("SignetRing$Digest", "START_SECOND", "[I", .ref e2), ("SignetRing$Digest", "ROUNDS", "[I", .ref e3), ("SignetRingModel", "ROUNDS", "[I", .ref e4)]
abbrev zGL (e1 e2 e3 e4 sa0 sa1 sa2 sa3 sa4 sa5 sa6 sa7 sa8 sa9 sa10 sa11 st0 st1 st2 st3 st4 st5 st6 st7 st8 st9 st10 st11 : Nat) : List zGi := [.inl (e1, 8, tS1), .inl (e2, 8, tS2), .inl (e3, 64, tK), .inl (e4, 64, tK), .inr (.inl (sa0, st0, 11, zs0)), .inr (.inr (.inl (RX9, 82, "-----BEGIN ", sa0))), .inr (.inl (sa1, st1, 11, zs1)), .inr (.inr (.inl (RX9, 24, "SEALED KEYS", sa1))), .inr (.inl (sa2, st2, 4, zs2)), .inr (.inr (.inl (RX9, 26, "SEAL", sa2))), .inr (.inl (sa3, st3, 13, zs3)), .inr (.inr (.inl (RX9, 28, "SEALED LETTER", sa3))), .inr (.inl (sa4, st4, 5, zs4)), .inr (.inr (.inl (RX9, 80, "-----", sa4))), .inr (.inl (sa5, st5, 9, zs5)), .inr (.inr (.inl (RX9, 113, "-----END ", sa5))), .inr (.inl (sa6, st6, 11, zs6)), .inr (.inr (.inl (RX12, 259, "-----BEGIN ", sa6))), .inr (.inl (sa7, st7, 11, zs7)), .inr (.inr (.inl (RX12, 204, "SEALED KEYS", sa7))), .inr (.inl (sa8, st8, 4, zs8)), .inr (.inr (.inl (RX12, 206, "SEAL", sa8))), .inr (.inl (sa9, st9, 13, zs9)), .inr (.inr (.inl (RX12, 208, "SEALED LETTER", sa9))), .inr (.inl (sa10, st10, 5, zs10)), .inr (.inr (.inl (RX12, 249, "-----", sa10))), .inr (.inl (sa11, st11, 9, zs11)), .inr (.inr (.inl (RX12, 243, "-----END ", sa11))), .inr (.inr (.inr (.inl ("java/lang/IndexOutOfBoundsException", "java/lang/IllegalArgumentException")))), .inr (.inr (.inr (.inr ("jdk/internal/util/Preconditions", "SIOOBE_FORMATTER", "Ljava/util/function/BiFunction;"))))]
/-- the private methods of AbstractStringBuilder, on a StringBuilder -/
def zSel : List Cond := [.selects RJ4 yJ5_ensureCapacityInternal_d00df yJ5_ensureCapacityInternal_d00df, .selects RJ4 yJ5_newCapacity_0f7a4 yJ5_newCapacity_0f7a4, .selects RJ4 yJ5_inflateIfNeededFor_a7421 yJ5_inflateIfNeededFor_a7421, .selects RJ4 yJ5_putStringAt_47b60 yJ5_putStringAt_47b60]
abbrev zt : List Cond := zSel ++ lw_tbl
set_option maxHeartbeats 4000000 in
set_option maxRecDepth 100000 in
theorem zz_hts {args : Array Value} {s : State} (hts : ∀ w ∈ lw_tbl, w.before args s = true) : ∀ w ∈ zt, w.before args s = true := by
  intro w hw
  rcases List.mem_append.mp hw with h | h
  · exact (show ∀ w ∈ zSel, w.before args s = true from (List.forall_mem_cons.mpr ⟨zz_selP (n := 4) (hts (.instantiable RJ4 4) (by decide +kernel)) (hts (.privateMethod yJ5_ensureCapacityInternal_d00df) (by decide +kernel)) (hts (.instanceMethod yJ5_ensureCapacityInternal_d00df) (by decide +kernel)) (hts (.sameMethod RJ5 RJ5 "ensureCapacityInternal" "(I)V") (by decide +kernel)), (List.forall_mem_cons.mpr ⟨zz_selP (n := 4) (hts (.instantiable RJ4 4) (by decide +kernel)) (hts (.privateMethod yJ5_newCapacity_0f7a4) (by decide +kernel)) (hts (.instanceMethod yJ5_newCapacity_0f7a4) (by decide +kernel)) (hts (.sameMethod RJ5 RJ5 "newCapacity" "(I)I") (by decide +kernel)), (List.forall_mem_cons.mpr ⟨zz_selP (n := 4) (hts (.instantiable RJ4 4) (by decide +kernel)) (hts (.privateMethod yJ5_inflateIfNeededFor_a7421) (by decide +kernel)) (hts (.instanceMethod yJ5_inflateIfNeededFor_a7421) (by decide +kernel)) (hts (.sameMethod RJ5 RJ5 "inflateIfNeededFor" "(Ljava/lang/String;)V") (by decide +kernel)), (List.forall_mem_cons.mpr ⟨zz_selP (n := 4) (hts (.instantiable RJ4 4) (by decide +kernel)) (hts (.privateMethod yJ5_putStringAt_47b60) (by decide +kernel)) (hts (.instanceMethod yJ5_putStringAt_47b60) (by decide +kernel)) (hts (.sameMethod RJ5 RJ5 "putStringAt" "(ILjava/lang/String;)V") (by decide +kernel)), (fun _ h => nomatch h)⟩)⟩)⟩)⟩)) w h
  · exact hts w h
theorem it_RJ0 : ∀ w ∈ u_ws RJ0 TJ0 4, w ∈ zt := fun w h => List.mem_append_right _ (in_RJ0 w h)
theorem it_RJ4 : ∀ w ∈ u_ws RJ4 TJ4 4, w ∈ zt := fun w h => List.mem_append_right _ (in_RJ4 w h)
theorem it_RJx00060 : ∀ w ∈ u_ws RJx00060 TJx00060 6, w ∈ zt := fun w h => List.mem_append_right _ (in_RJx00060 w h)
theorem it_RJx4a65c : ∀ w ∈ u_ws RJx4a65c TJx4a65c 3, w ∈ zt := fun w h => List.mem_append_right _ (in_RJx4a65c w h)
theorem it_RX0 : ∀ w ∈ u_ws RX0 TX0 3, w ∈ zt := fun w h => List.mem_append_right _ (in_RX0 w h)
theorem it_RX1 : ∀ w ∈ u_ws RX1 TX1 3, w ∈ zt := fun w h => List.mem_append_right _ (in_RX1 w h)
theorem it_RX2 : ∀ w ∈ u_ws RX2 TX2 5, w ∈ zt := fun w h => List.mem_append_right _ (in_RX2 w h)
theorem it_RX3 : ∀ w ∈ u_ws RX3 TX3 17, w ∈ zt := fun w h => List.mem_append_right _ (in_RX3 w h)
theorem it_RX4 : ∀ w ∈ u_ws RX4 TX4 6, w ∈ zt := fun w h => List.mem_append_right _ (in_RX4 w h)
theorem it_RX5 : ∀ w ∈ u_ws RX5 TX5 5, w ∈ zt := fun w h => List.mem_append_right _ (in_RX5 w h)
theorem it_RX6 : ∀ w ∈ u_ws RX6 TX6 11, w ∈ zt := fun w h => List.mem_append_right _ (in_RX6 w h)
theorem it_RX7 : ∀ w ∈ u_ws RX7 TX7 7, w ∈ zt := fun w h => List.mem_append_right _ (in_RX7 w h)
theorem it_RX8 : ∀ w ∈ u_ws RX8 TX8 18, w ∈ zt := fun w h => List.mem_append_right _ (in_RX8 w h)
theorem it_RX9 : ∀ w ∈ u_ws RX9 TX9 7, w ∈ zt := fun w h => List.mem_append_right _ (in_RX9 w h)
theorem it_RX10 : ∀ w ∈ u_ws RX10 TX10 3, w ∈ zt := fun w h => List.mem_append_right _ (in_RX10 w h)
theorem it_RX11 : ∀ w ∈ u_ws RX11 TX11 15, w ∈ zt := fun w h => List.mem_append_right _ (in_RX11 w h)
theorem it_RX12 : ∀ w ∈ u_ws RX12 TX12 64, w ∈ zt := fun w h => List.mem_append_right _ (in_RX12 w h)
set_option maxHeartbeats 4000000 in
set_option maxRecDepth 100000 in
theorem zz_start {p : Program} {s : State} {m : MethodId} {meth : Method} {c : Code} {b L : Nat} {xs : Nat → Int32} (C0 : lw_At p s m meth c b L xs) : ∃ (D : va_G) (y : Nat → ClassId) (e0 e1 e2 e3 e4 sa0 sa1 sa2 sa3 sa4 sa5 sa6 sa7 sa8 sa9 sa10 sa11 st0 st1 st2 st3 st4 st5 st6 st7 st8 st9 st10 st11 : Nat), va_K D vwCl (zT y) s ∧ zN zL s ∧ zE (zEL e0 e1 e2 e3 e4) (fun q : Nat => s.heap.size ≤ q) s s.heap ∧ zAO s ∧ zQ zTh (fun q : Nat => s.heap.size ≤ q) s s.heap ∧ zG (zGL e1 e2 e3 e4 sa0 sa1 sa2 sa3 sa4 sa5 sa6 sa7 sa8 sa9 sa10 sa11 st0 st1 st2 st3 st4 st5 st6 st7 st8 st9 st10 st11) (fun q : Nat => s.heap.size ≤ q) s s.heap := by
  obtain ⟨hx, hb, hr, hml, hown, hts, hX, hbl, hlocks, hgv⟩ := C0
  obtain ⟨c0, i0, hKn0⟩ := u_known (C := RJ0) (T := TJ0) (N := 4) (n := 4) hts in_RJ0 (hts (.instantiable RJ0 4) (by decide +kernel))
  obtain ⟨c1, i1, hKn1⟩ := u_known (C := RJ4) (T := TJ4) (N := 4) (n := 4) hts in_RJ4 (hts (.instantiable RJ4 4) (by decide +kernel))
  obtain ⟨c2, i2, hKn2⟩ := u_known (C := RJx00060) (T := TJx00060) (N := 6) (n := 6) hts in_RJx00060 (hts (.instantiable RJx00060 6) (by decide +kernel))
  obtain ⟨c3, i3, hKn3⟩ := u_known (C := RJx4a65c) (T := TJx4a65c) (N := 3) (n := 3) hts in_RJx4a65c (hts (.instantiable RJx4a65c 3) (by decide +kernel))
  obtain ⟨c4, i4, hKn4⟩ := u_known (C := RX0) (T := TX0) (N := 3) (n := 3) hts in_RX0 (hts (.instantiable RX0 3) (by decide +kernel))
  obtain ⟨c5, i5, hKn5⟩ := u_known (C := RX1) (T := TX1) (N := 3) (n := 3) hts in_RX1 (hts (.instantiable RX1 3) (by decide +kernel))
  obtain ⟨c6, i6, hKn6⟩ := u_known (C := RX2) (T := TX2) (N := 5) (n := 5) hts in_RX2 (hts (.instantiable RX2 5) (by decide +kernel))
  obtain ⟨c7, i7, hKn7⟩ := u_known (C := RX3) (T := TX3) (N := 17) (n := 17) hts in_RX3 (hts (.instantiable RX3 17) (by decide +kernel))
  obtain ⟨c8, i8, hKn8⟩ := u_known (C := RX4) (T := TX4) (N := 6) (n := 6) hts in_RX4 (hts (.instantiable RX4 6) (by decide +kernel))
  obtain ⟨c9, i9, hKn9⟩ := u_known (C := RX5) (T := TX5) (N := 5) (n := 5) hts in_RX5 (hts (.instantiable RX5 5) (by decide +kernel))
  obtain ⟨c10, i10, hKn10⟩ := u_known (C := RX6) (T := TX6) (N := 11) (n := 11) hts in_RX6 (hts (.instantiable RX6 11) (by decide +kernel))
  obtain ⟨c11, i11, hKn11⟩ := u_known (C := RX7) (T := TX7) (N := 7) (n := 7) hts in_RX7 (hts (.instantiable RX7 7) (by decide +kernel))
  obtain ⟨c12, i12, hKn12⟩ := u_known (C := RX8) (T := TX8) (N := 18) (n := 18) hts in_RX8 (hts (.instantiable RX8 18) (by decide +kernel))
  obtain ⟨c13, i13, hKn13⟩ := u_known (C := RX9) (T := TX9) (N := 7) (n := 7) hts in_RX9 (hts (.instantiable RX9 7) (by decide +kernel))
  obtain ⟨c14, i14, hKn14⟩ := u_known (C := RX10) (T := TX10) (N := 3) (n := 3) hts in_RX10 (hts (.instantiable RX10 3) (by decide +kernel))
  obtain ⟨c15, i15, hKn15⟩ := u_known (C := RX11) (T := TX11) (N := 15) (n := 15) hts in_RX11 (hts (.instantiable RX11 15) (by decide +kernel))
  obtain ⟨c16, i16, hKn16⟩ := u_known (C := RX12) (T := TX12) (N := 64) (n := 64) hts in_RX12 (hts (.instantiable RX12 64) (by decide +kernel))
  obtain ⟨D, hKc⟩ : ∃ D : va_G, ∀ (k : Nat) (q : vw_C), vwCl[k]? = some q → u_Kn s q.1 q.2.1 q.2.2 (D.1 k) (D.2 k) := by
    refine ⟨(fun k => match k with | 0 => c0 | 1 => c1 | 2 => c2 | 3 => c3 | 4 => c4 | 5 => c5 | 6 => c6 | 7 => c7 | 8 => c8 | 9 => c9 | 10 => c10 | 11 => c11 | 12 => c12 | 13 => c13 | 14 => c14 | 15 => c15 | 16 => c16 | _ => c0, fun k => match k with | 0 => i0 | 1 => i1 | 2 => i2 | 3 => i3 | 4 => i4 | 5 => i5 | 6 => i6 | 7 => i7 | 8 => i8 | 9 => i9 | 10 => i10 | 11 => i11 | 12 => i12 | 13 => i13 | 14 => i14 | 15 => i15 | 16 => i16 | _ => i0), ?_⟩
    intro k q hq
    match k, hq with
    | 0, hq => cases hq; exact hKn0
    | 1, hq => cases hq; exact hKn1
    | 2, hq => cases hq; exact hKn2
    | 3, hq => cases hq; exact hKn3
    | 4, hq => cases hq; exact hKn4
    | 5, hq => cases hq; exact hKn5
    | 6, hq => cases hq; exact hKn6
    | 7, hq => cases hq; exact hKn7
    | 8, hq => cases hq; exact hKn8
    | 9, hq => cases hq; exact hKn9
    | 10, hq => cases hq; exact hKn10
    | 11, hq => cases hq; exact hKn11
    | 12, hq => cases hq; exact hKn12
    | 13, hq => cases hq; exact hKn13
    | 14, hq => cases hq; exact hKn14
    | 15, hq => cases hq; exact hKn15
    | 16, hq => cases hq; exact hKn16
    | k + 17, hq => simp at hq
  obtain ⟨yB, kB, mB, fB1, fB2, fB3⟩ := Cond.arrayClass_spec (hts (.arrayClass .byte) (by decide +kernel))
  obtain ⟨yI, kI, mI, fI1, fI2, fI3⟩ := Cond.arrayClass_spec (hts (.arrayClass .int) (by decide +kernel))
  obtain ⟨yJ, kJ, mJ, fJ1, fJ2, fJ3⟩ := Cond.arrayClass_spec (hts (.arrayClass .long) (by decide +kernel))
  obtain ⟨yZ, kZ, mZ, fZ1, fZ2, fZ3⟩ := Cond.arrayClass_spec (hts (.arrayClass .boolean) (by decide +kernel))
  obtain ⟨mO, yO, kO, fO1, fO2, fO3, fO4, fO5⟩ := Cond.arrayOver_spec (hts (.arrayOver (.object "java/lang/Object")) (by decide +kernel))
  obtain ⟨mA, yA, kA, fA1, fA2, fA3, fA4, fA5⟩ := arrayOverA_spec (hts (.arrayOver (.array .int)) (by decide +kernel))
  obtain ⟨e0, he0⟩ := zz_arrRef (flat_of_before _ hgv (.arrayOf (.static "java/util/ArrayList" "DEFAULTCAPACITY_EMPTY_ELEMENTDATA" "[Ljava/lang/Object;") (.object "java/lang/Object")) (by decide +kernel))
  have hA : ∀ a : Nat, a < s.heap.size → ¬ (fun q : Nat => s.heap.size ≤ q) a := fun a h q => absurd h (Nat.not_lt.mpr q)
  have hgn : narrow_1.before #[Value.ref b] s = true := by
    have h9 := hgv
    rw [Cond.before_and, Bool.and_eq_true] at h9
    exact h9.2
  have B : ∀ w ∈ flatC narrow_1, w.before #[Value.ref b] s = true := flat_of_before _ hgn
  obtain ⟨e1, he1, te1⟩ := zz_arrOf (A := (fun q : Nat => s.heap.size ≤ q)) B (by decide) nr_e1_0 nr_e1_1 nr_e1_e hA
  obtain ⟨e2, he2, te2⟩ := zz_arrOf (A := (fun q : Nat => s.heap.size ≤ q)) B (by decide) nr_e2_0 nr_e2_1 nr_e2_e hA
  obtain ⟨e3, he3, te3⟩ := zz_arrOf (A := (fun q : Nat => s.heap.size ≤ q)) B (by decide) nr_e3_0 nr_e3_1 nr_e3_e hA
  obtain ⟨e4, he4, te4⟩ := zz_arrOf (A := (fun q : Nat => s.heap.size ≤ q)) B (by decide) nr_e4_0 nr_e4_1 nr_e4_e hA
  obtain ⟨sa0, st0, hs0, ht0⟩ := zz_strOf (A := (fun q : Nat => s.heap.size ≤ q)) B (by decide) nr_s0_0 nr_s0_1 nr_s0_2 nr_s0_3 nr_s0_e hA
  obtain ⟨sa1, st1, hs1, ht1⟩ := zz_strOf (A := (fun q : Nat => s.heap.size ≤ q)) B (by decide) nr_s1_0 nr_s1_1 nr_s1_2 nr_s1_3 nr_s1_e hA
  obtain ⟨sa2, st2, hs2, ht2⟩ := zz_strOf (A := (fun q : Nat => s.heap.size ≤ q)) B (by decide) nr_s2_0 nr_s2_1 nr_s2_2 nr_s2_3 nr_s2_e hA
  obtain ⟨sa3, st3, hs3, ht3⟩ := zz_strOf (A := (fun q : Nat => s.heap.size ≤ q)) B (by decide) nr_s3_0 nr_s3_1 nr_s3_2 nr_s3_3 nr_s3_e hA
  obtain ⟨sa4, st4, hs4, ht4⟩ := zz_strOf (A := (fun q : Nat => s.heap.size ≤ q)) B (by decide) nr_s4_0 nr_s4_1 nr_s4_2 nr_s4_3 nr_s4_e hA
  obtain ⟨sa5, st5, hs5, ht5⟩ := zz_strOf (A := (fun q : Nat => s.heap.size ≤ q)) B (by decide) nr_s5_0 nr_s5_1 nr_s5_2 nr_s5_3 nr_s5_e hA
  obtain ⟨sa6, st6, hs6, ht6⟩ := zz_strOf (A := (fun q : Nat => s.heap.size ≤ q)) B (by decide) nr_s6_0 nr_s6_1 nr_s6_2 nr_s6_3 nr_s6_e hA
  obtain ⟨sa7, st7, hs7, ht7⟩ := zz_strOf (A := (fun q : Nat => s.heap.size ≤ q)) B (by decide) nr_s7_0 nr_s7_1 nr_s7_2 nr_s7_3 nr_s7_e hA
  obtain ⟨sa8, st8, hs8, ht8⟩ := zz_strOf (A := (fun q : Nat => s.heap.size ≤ q)) B (by decide) nr_s8_0 nr_s8_1 nr_s8_2 nr_s8_3 nr_s8_e hA
  obtain ⟨sa9, st9, hs9, ht9⟩ := zz_strOf (A := (fun q : Nat => s.heap.size ≤ q)) B (by decide) nr_s9_0 nr_s9_1 nr_s9_2 nr_s9_3 nr_s9_e hA
  obtain ⟨sa10, st10, hs10, ht10⟩ := zz_strOf (A := (fun q : Nat => s.heap.size ≤ q)) B (by decide) nr_s10_0 nr_s10_1 nr_s10_2 nr_s10_3 nr_s10_e hA
  obtain ⟨sa11, st11, hs11, ht11⟩ := zz_strOf (A := (fun q : Nat => s.heap.size ≤ q)) B (by decide) nr_s11_0 nr_s11_1 nr_s11_2 nr_s11_3 nr_s11_e hA
  refine ⟨D, fun k => match k with | 0 => yB | 1 => yI | 2 => yJ | 3 => yZ | 4 => yO | _ => yA, e0, e1, e2, e3, e4, sa0, sa1, sa2, sa3, sa4, sa5, sa6, sa7, sa8, sa9, sa10, sa11, st0, st1, st2, st3, st4, st5, st6, st7, st8, st9, st10, st11, ⟨hKc, ?_⟩, fun w hw => ⟨zL_W w hw, va_Nw.of (zW_on (zL_W w hw)) (hts w (zL_in w hw))⟩, ?_, over_moved (Vm.Alike.refl s.vm) (hts (.arrayOver (.array .int)) (by decide +kernel)), ?_, ?_⟩
  · intro k q hq
    match k, hq with
    | 0, hq => cases hq; exact ⟨fun n z => ⟨fun k h => (by cases h), kB, fB2, mB, fB3⟩, fB1⟩
    | 1, hq => cases hq; exact ⟨fun n z => ⟨fun k h => (by cases h), kI, fI2, mI, fI3⟩, fI1⟩
    | 2, hq => cases hq; exact ⟨fun n z => ⟨fun k h => (by cases h), kJ, fJ2, mJ, fJ3⟩, fJ1⟩
    | 3, hq => cases hq; exact ⟨fun n z => ⟨fun k h => (by cases h), kZ, fZ2, mZ, fZ3⟩, fZ1⟩
    | 4, hq => cases hq; exact ⟨fun n z => ⟨fun k h => (by cases h), kO, fO3, mO, fO4⟩, kO, mO, fO3, fO4, fO1, fO5⟩
    | 5, hq => cases hq; exact ⟨fun n z => ⟨fun k h => (by cases h), kA, fA3, mA, fA4⟩, fA5⟩
    | k + 6, hq => simp at hq
  · exact List.forall_mem_cons.mpr ⟨va_Zof (hts (.laysStatic "java/util/ArrayList" "DEFAULTCAPACITY_EMPTY_ELEMENTDATA" "[Ljava/lang/Object;") (by decide +kernel)) (hts (.initialized "java/util/ArrayList") (by decide +kernel)) he0 hA, List.forall_mem_cons.mpr ⟨va_Zof (hts (.laysStatic "java/lang/String" "COMPACT_STRINGS" "Z") (by decide +kernel)) (hts (.initialized "java/lang/String") (by decide +kernel)) (va_eqt (B _ nr_cs)) hA, List.forall_mem_cons.mpr ⟨va_Zof (hts (.laysStatic "SignetRing$Digest" "START_FIRST" "[I") (by decide +kernel)) (hts (.initialized "SignetRing$Digest") (by decide +kernel)) he1 hA, List.forall_mem_cons.mpr ⟨va_Zof (hts (.laysStatic "SignetRing$Digest" "START_SECOND" "[I") (by decide +kernel)) (hts (.initialized "SignetRing$Digest") (by decide +kernel)) he2 hA, List.forall_mem_cons.mpr ⟨va_Zof (hts (.laysStatic "SignetRing$Digest" "ROUNDS" "[I") (by decide +kernel)) (hts (.initialized "SignetRing$Digest") (by decide +kernel)) he3 hA, List.forall_mem_cons.mpr ⟨va_Zof (hts (.laysStatic "SignetRingModel" "ROUNDS" "[I") (by decide +kernel)) (hts (.initialized "SignetRingModel") (by decide +kernel)) he4 hA, (fun _ h => nomatch h)⟩⟩⟩⟩⟩⟩
  · refine List.forall_mem_cons.mpr ⟨?_, List.forall_mem_cons.mpr ⟨?_, fun _ h => nomatch h⟩⟩
    · exact vx_Zqof (hts (.laysStatic Bundle.tN "UNASSIGNED_STACK" Bundle.steD) (by decide +kernel)) (hts (.initialized Bundle.tN) (by decide +kernel)) (flat_of_before _ hgv (.isRef (.static Bundle.tN "UNASSIGNED_STACK" Bundle.steD)) (by decide +kernel)) hA
    · exact vx_Zqof (hts (.laysStatic Bundle.tN "SUPPRESSED_SENTINEL" Bundle.listD) (by decide +kernel)) (hts (.initialized Bundle.tN) (by decide +kernel)) (flat_of_before _ hgv (.isRef (.static Bundle.tN "SUPPRESSED_SENTINEL" Bundle.listD)) (by decide +kernel)) hA
  · exact List.forall_mem_cons.mpr ⟨te1, List.forall_mem_cons.mpr ⟨te2, List.forall_mem_cons.mpr ⟨te3, List.forall_mem_cons.mpr ⟨te4, List.forall_mem_cons.mpr ⟨ht0, List.forall_mem_cons.mpr ⟨vk_R.of (hts (.stringRef RX9 82 "-----BEGIN ") (by decide +kernel)) hs0, List.forall_mem_cons.mpr ⟨ht1, List.forall_mem_cons.mpr ⟨vk_R.of (hts (.stringRef RX9 24 "SEALED KEYS") (by decide +kernel)) hs1, List.forall_mem_cons.mpr ⟨ht2, List.forall_mem_cons.mpr ⟨vk_R.of (hts (.stringRef RX9 26 "SEAL") (by decide +kernel)) hs2, List.forall_mem_cons.mpr ⟨ht3, List.forall_mem_cons.mpr ⟨vk_R.of (hts (.stringRef RX9 28 "SEALED LETTER") (by decide +kernel)) hs3, List.forall_mem_cons.mpr ⟨ht4, List.forall_mem_cons.mpr ⟨vk_R.of (hts (.stringRef RX9 80 "-----") (by decide +kernel)) hs4, List.forall_mem_cons.mpr ⟨ht5, List.forall_mem_cons.mpr ⟨vk_R.of (hts (.stringRef RX9 113 "-----END ") (by decide +kernel)) hs5, List.forall_mem_cons.mpr ⟨ht6, List.forall_mem_cons.mpr ⟨vk_R.of (hts (.stringRef RX12 259 "-----BEGIN ") (by decide +kernel)) hs6, List.forall_mem_cons.mpr ⟨ht7, List.forall_mem_cons.mpr ⟨vk_R.of (hts (.stringRef RX12 204 "SEALED KEYS") (by decide +kernel)) hs7, List.forall_mem_cons.mpr ⟨ht8, List.forall_mem_cons.mpr ⟨vk_R.of (hts (.stringRef RX12 206 "SEAL") (by decide +kernel)) hs8, List.forall_mem_cons.mpr ⟨ht9, List.forall_mem_cons.mpr ⟨vk_R.of (hts (.stringRef RX12 208 "SEALED LETTER") (by decide +kernel)) hs9, List.forall_mem_cons.mpr ⟨ht10, List.forall_mem_cons.mpr ⟨vk_R.of (hts (.stringRef RX12 249 "-----") (by decide +kernel)) hs10, List.forall_mem_cons.mpr ⟨ht11, List.forall_mem_cons.mpr ⟨vk_R.of (hts (.stringRef RX12 243 "-----END ") (by decide +kernel)) hs11, List.forall_mem_cons.mpr ⟨va_Nc.of (B _ nr_nc), List.forall_mem_cons.mpr ⟨va_Zqof (hts (.laysStatic "jdk/internal/util/Preconditions" "SIOOBE_FORMATTER" "Ljava/util/function/BiFunction;") (by decide +kernel)) (hts (.initialized "jdk/internal/util/Preconditions") (by decide +kernel)) (B _ nr_zq) hA, (fun _ h => nomatch h)⟩⟩⟩⟩⟩⟩⟩⟩⟩⟩⟩⟩⟩⟩⟩⟩⟩⟩⟩⟩⟩⟩⟩⟩⟩⟩⟩⟩⟩⟩

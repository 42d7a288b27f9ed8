def wz_c_X0_pushText_11 : List Cond := .code yX0_pushText cX0_pushText 3 none :: ([.methodLink RX0 56 yJ0_length_8abf5, .instanceMethod yJ0_length_8abf5, .selects RJ0 yJ0_length_8abf5 yJ0_length_8abf5, .initialized RJ0, .methodLink RX0 62 yJ0_charAt_5068e, .instanceMethod yJ0_charAt_5068e, .selects RJ0 yJ0_charAt_5068e yJ0_charAt_5068e, .methodLink RX0 29 yX0_push, .instanceMethod yX0_push, .selects RX0 yX0_push yX0_push, .initialized RX0] ++ (wz_c_len_o_11 ++ (wz_c_chr_o_11 ++ (wz_c_X0_push ++ ([])))))
set_option maxRecDepth 100000 in
theorem gz_c_X0_pushText_11_c_len_o_11 : GoodIn wz_c_X0_pushText_11 wz_c_len_o_11 := goodIn_sub (fun w h => List.mem_cons_of_mem _ (List.mem_append_right _ (List.mem_append_left _ h))) (by decide +kernel)
set_option maxRecDepth 100000 in
theorem gz_c_X0_pushText_11_c_chr_o_11 : GoodIn wz_c_X0_pushText_11 wz_c_chr_o_11 := goodIn_sub (fun w h => List.mem_cons_of_mem _ (List.mem_append_right _ (List.mem_append_right _ (List.mem_append_left _ h)))) (by decide +kernel)
set_option maxRecDepth 100000 in
theorem gz_c_X0_pushText_11_c_X0_push : GoodIn wz_c_X0_pushText_11 wz_c_X0_push := goodIn_sub (fun w h => List.mem_cons_of_mem _ (List.mem_append_right _ (List.mem_append_right _ (List.mem_append_right _ (List.mem_append_left _ h))))) (by decide +kernel)
set_option maxRecDepth 100000 in
theorem gv_c_X0_pushText_11_c_len_o_11_56 : GoodIn wz_c_X0_pushText_11 (wsV RX0 56 RJ0 yJ0_length_8abf5 wz_c_len_o_11) := goodIn_app (goodIn_of _ (by decide +kernel)) gz_c_X0_pushText_11_c_len_o_11
set_option maxRecDepth 100000 in
theorem gv_c_X0_pushText_11_c_chr_o_11_62 : GoodIn wz_c_X0_pushText_11 (wsV RX0 62 RJ0 yJ0_charAt_5068e wz_c_chr_o_11) := goodIn_app (goodIn_of _ (by decide +kernel)) gz_c_X0_pushText_11_c_chr_o_11
set_option maxRecDepth 100000 in
theorem gv_c_X0_pushText_11_c_X0_push_29 : GoodIn wz_c_X0_pushText_11 (wsV RX0 29 RX0 yX0_push wz_c_X0_push) := goodIn_app (goodIn_of _ (by decide +kernel)) gz_c_X0_pushText_11_c_X0_push
set_option maxHeartbeats 4000000 in
set_option maxRecDepth 100000 in
theorem ax_c_X0_pushText_11_0 : ∀ k1 : Nat, k1 < 11 → 0 ≤ k1 → ¬ (11 : Int32) ≤ (nI k1) := by decide +kernel
set_option maxHeartbeats 4000000 in
set_option maxRecDepth 100000 in
theorem ax_c_X0_pushText_11_1 : ∀ k1 : Nat, k1 < 11 → 0 ≤ k1 → nI k1 + Int32.ofInt 1 = nI (k1 + 1) := by decide +kernel
set_option maxHeartbeats 4000000 in
set_option maxRecDepth 100000 in
theorem c_X0_pushText_11 (l : Launch) (D : va_G) (y : Nat → ClassId) (sz : Nat) (h0 : Nat) (rr : Nat) (N : Nat) (j : Nat) (sx : Nat) (tx : Nat) (w1 : Value) (g : Nat → Int32) (f : Nat → Int32) (hjn : j + 11 ≤ N) (hN : N ≤ 4096) : Met l yX0_pushText wz_c_X0_pushText_11 ({ frames := 4, cells := 0, slots := 0, locals := 85 }) (va_Pc [.ref h0, .ref sx] (zB D y [(h0, .inr (4, [.ref rr, w1, .int (nI j)])), (rr, .inl (y 0, N, .inl g))] sz [] [("java/lang/String", "COMPACT_STRINGS", "Z", .int 1)] [] [.inr (.inl (sx, tx, 11, f)), .inr (.inr (.inr (.inr ("jdk/internal/util/Preconditions", "SIOOBE_FORMATTER", "Ljava/util/function/BiFunction;"))))])) (va_Qv (fun _ : Unit => True) (fun _ t => ∃ fz0 : Nat → Int32, va_P D vwCl [(h0, .inr (4, [.ref rr, w1, .int (nI (j + 11))])), (rr, .inl (y 0, N, .inl fz0))] t.heap ∧ va_D (va_A [(h0, .inr (4, [.ref rr, w1, .int (nI j)])), (rr, .inl (y 0, N, .inl g))] sz) [(h0, .inr (4, [.ref rr, w1, .int (nI (j + 11))])), (rr, .inl (y 0, N, .inl fz0))]) (va_A [(h0, .inr (4, [.ref rr, w1, .int (nI j)])), (rr, .inl (y 0, N, .inl g))] sz)) 0 0 (va_A [(h0, .inr (4, [.ref rr, w1, .int (nI j)])), (rr, .inl (y 0, N, .inl g))] sz) := by
  refine Met.ofW (cc := cX0_pushText) (maxL := 3) (ret := none) (by decide) rfl ?_
  intro p e s m args below meth c s₁ B hml hv
  obtain ⟨rfl, hsz, hP, hK, hD0, hN, hE, hO, hT, hG⟩ := hv
  have hx := B.exec
  have hb := B.bytes
  have hr := B.returns
  have hts := atoms_spec (ws := wz_c_X0_pushText_11) B.pre
  have hown : s.vm.findClass RX0 = some m.cls := findClass_of_methodNamed B.named
  have hlocks := B.notSynchronized
  subst hsz
  have hD := hD0.self (sz := s.heap.size)
  generalize hAe : va_A [(h0, .inr (4, [.ref rr, w1, .int (nI j)])), (rr, .inl (y 0, N, .inl g))] s.heap.size = A at hD hE hT hG ⊢
  have hA : ∀ q : Nat, s.heap.size ≤ q → A q := fun q h => by rw [← hAe]; exact Or.inr h
  have hS : va_S A s.heap s.heap [] := va_S.rf
  have hl := lv_entry ([.ref h0, .ref sx]) (n := 3) (Nat.le_of_ble_eq_true rfl)
  rw [lg_entry_eq]
  generalize (lg_sl ([.ref h0, .ref sx]) ++ List.replicate (3 - (lg_sl ([.ref h0, .ref sx])).length) Slot.unset).toArray = ls at hl ⊢
  have hl : lv_has ls 3 [(0, .ref h0), (1, .ref sx)] := hl
  refine lv_iconst (v := 0) hx hb dX0_pushText_0 (by decide) ?_
  refine lv_istore_n (lv' := [(2, .int 0), (0, .ref h0), (1, .ref sx)]) hx hb dX0_pushText_1 rfl hl (by decide) rfl (fun ls hl => ?_)
  have hl : lv_has ls 3 [(2, .int (nI 0)), (0, .ref h0), (1, .ref sx)] := lv_sub hl [0, 1, 2] rfl
  refine zz_loop (I := fun (k1 : Nat) (ls : Array Slot) (H : Heap) (locs : List Loc) => ∃ ge0 : Nat → Int32, va_P D vwCl [(h0, .inr (4, [.ref rr, w1, .int (nI (j + k1))])), (rr, .inl (y 0, N, .inl ge0))] H ∧ va_D A [(h0, .inr (4, [.ref rr, w1, .int (nI (j + k1))])), (rr, .inl (y 0, N, .inl ge0))] ∧ va_S A s.heap H locs ∧ lv_has ls 3 [(2, .int (nI k1)), (0, .ref h0), (1, .ref sx)]) 0 11 (by decide) ⟨_, hP, hD, hS, hl⟩ (fun k1 ls H locs hk10 hk11 hI ih => ?_) (fun ls H locs hI => ?_)
  · obtain ⟨ge0, hP, hD, hS, hl⟩ := hI
    have hl : lv_has ls 3 [(2, .int (nI k1)), (0, .ref h0), (1, .ref sx)] := hl
    have hP : va_P D vwCl [(h0, .inr (4, [.ref rr, w1, .int (nI (j + k1))])), (rr, .inl (y 0, N, .inl ge0))] H := hP
    have hD : va_D A [(h0, .inr (4, [.ref rr, w1, .int (nI (j + k1))])), (rr, .inl (y 0, N, .inl ge0))] := hD
    refine lv_iload_n hx hb dX0_pushText_2 rfl (lv_at hl 0 rfl) ?_
    refine lv_aload_n hx hb dX0_pushText_3 rfl (lv_at hl 2 rfl) ?_
    have hPc := hP.sub (ws' := []) [] rfl
    have hDc := hD.sub (ws' := []) [] (by decide) rfl
    have hFc := va_free (wc := []) hD hS hA [] rfl
    refine va_calli (va_runV (As := []) (rest := [.int (nI k1)]) ⟨hx, hb, hml, hown, hts⟩ (c_len_o_11 l D y H.size sx tx f) (cwV 0 hts gv_c_X0_pushText_11_c_len_o_11_56 rfl rfl rfl (by decide +kernel) ⟨(Nat.le_of_ble_eq_true rfl), (Nat.le_of_ble_eq_true rfl)⟩) (zB.preV hPc hDc hK hN hE hO hT hG hS hFc (fun _ h => nomatch h) (List.forall_mem_cons.mpr ⟨List.mem_of_getElem? (i := 0) rfl, (fun _ h => nomatch h)⟩) (fun _ h => nomatch h) (List.forall_mem_cons.mpr ⟨List.mem_of_getElem? (i := 0) rfl, (fun _ h => nomatch h)⟩) (zStr.recv (show zStr sx tx 11 f A s s.heap from (hG (.inr (.inl (sx, tx, 11, f))) (List.mem_of_getElem? (i := 0) rfl))) hS)) rfl rfl hl.1 rfl (lv_room (Nat.le_of_ble_eq_true rfl)) dX0_pushText_4 ⟨(Nat.le_of_ble_eq_true rfl), (Nat.le_of_ble_eq_true rfl)⟩) hS (fun q _ h => hFc q h) hFc (fun r1 u t H1 locs ht hvm hw hB hz1 hk1 hS => ?_)
    obtain ⟨hP1, hD1⟩ := hB
    rw [ht] at hP1
    obtain ⟨hP, hD⟩ := va_join (wr := [(h0, .inr (4, [.ref rr, w1, .int (nI (j + k1))])), (rr, .inl (y 0, N, .inl ge0))]) (w1 := []) hP hD [] [0, 1] rfl rfl (by decide) (by decide) hk1 hFc hP1 hD1
    generalize H1 = H at hP hS ⊢
    have hP : va_P D vwCl [(h0, .inr (4, [.ref rr, w1, .int (nI (j + k1))])), (rr, .inl (y 0, N, .inl ge0))] H := hP
    have hD : va_D A [(h0, .inr (4, [.ref rr, w1, .int (nI (j + k1))])), (rr, .inl (y 0, N, .inl ge0))] := hD
    have hw : r1 = 11 := hw
    subst hw
    refine lv_icmp_ge (tgt := 25) hx hb dX0_pushText_7 (by decide) (fun c9 => absurd c9 (ax_c_X0_pushText_11_0 k1 hk11 hk10)) (fun _ => ?_)
    refine lv_aload_n hx hb dX0_pushText_10 rfl (lv_at hl 1 rfl) ?_
    refine lv_aload_n hx hb dX0_pushText_11 rfl (lv_at hl 2 rfl) ?_
    refine lv_iload_n hx hb dX0_pushText_12 rfl (lv_at hl 0 rfl) ?_
    have hPc := hP.sub (ws' := []) [] rfl
    have hDc := hD.sub (ws' := []) [] (by decide) rfl
    have hFc := va_free (wc := []) hD hS hA [] rfl
    refine va_calli (va_runV (As := [.int (nI k1)]) (rest := [.ref h0]) ⟨hx, hb, hml, hown, hts⟩ (c_chr_o_11 l D y H.size k1 sx tx f (by omega)) (cwV 1 hts gv_c_X0_pushText_11_c_chr_o_11_62 rfl rfl rfl (by decide +kernel) ⟨(Nat.le_of_ble_eq_true rfl), (Nat.le_of_ble_eq_true rfl)⟩) (zB.preV hPc hDc hK hN hE hO hT hG hS hFc (fun _ h => nomatch h) (List.forall_mem_cons.mpr ⟨List.mem_of_getElem? (i := 0) rfl, (fun _ h => nomatch h)⟩) (fun _ h => nomatch h) (List.forall_mem_cons.mpr ⟨List.mem_of_getElem? (i := 0) rfl, (List.forall_mem_cons.mpr ⟨List.mem_of_getElem? (i := 1) rfl, (fun _ h => nomatch h)⟩)⟩) (zStr.recv (show zStr sx tx 11 f A s s.heap from (hG (.inr (.inl (sx, tx, 11, f))) (List.mem_of_getElem? (i := 0) rfl))) hS)) rfl rfl hl.1 rfl (lv_room (Nat.le_of_ble_eq_true rfl)) dX0_pushText_13 ⟨(Nat.le_of_ble_eq_true rfl), (Nat.le_of_ble_eq_true rfl)⟩) hS (fun q _ h => hFc q h) hFc (fun r2 u t H1 locs ht hvm hw hB hz1 hk1 hS => ?_)
    obtain ⟨hP1, hD1⟩ := hB
    rw [ht] at hP1
    obtain ⟨hP, hD⟩ := va_join (wr := [(h0, .inr (4, [.ref rr, w1, .int (nI (j + k1))])), (rr, .inl (y 0, N, .inl ge0))]) (w1 := []) hP hD [] [0, 1] rfl rfl (by decide) (by decide) hk1 hFc hP1 hD1
    generalize H1 = H at hP hS ⊢
    have hP : va_P D vwCl [(h0, .inr (4, [.ref rr, w1, .int (nI (j + k1))])), (rr, .inl (y 0, N, .inl ge0))] H := hP
    have hD : va_D A [(h0, .inr (4, [.ref rr, w1, .int (nI (j + k1))])), (rr, .inl (y 0, N, .inl ge0))] := hD
    have hw : r2 = (f k1) &&& (255 : Int32) := hw
    subst hw
    have hPc := hP.sub (ws' := [(h0, .inr (4, [.ref rr, w1, .int (nI (j + k1))])), (rr, .inl (y 0, N, .inl ge0))]) [0, 1] rfl
    have hDc := hD.sub (ws' := [(h0, .inr (4, [.ref rr, w1, .int (nI (j + k1))])), (rr, .inl (y 0, N, .inl ge0))]) [0, 1] (by decide) rfl
    have hFc := va_free (wc := [(h0, .inr (4, [.ref rr, w1, .int (nI (j + k1))])), (rr, .inl (y 0, N, .inl ge0))]) hD hS hA [0, 1] rfl
    refine va_callv (va_runV (As := [.int ((f k1) &&& (255 : Int32))]) (rest := []) ⟨hx, hb, hml, hown, hts⟩ (c_X0_push l D y H.size h0 rr N ((j + k1)) w1 ge0 ((f k1) &&& (255 : Int32)) (by omega) (by omega)) (cwV 1 hts gv_c_X0_pushText_11_c_X0_push_29 rfl rfl rfl (by decide +kernel) ⟨(Nat.le_of_ble_eq_true rfl), (Nat.le_of_ble_eq_true rfl)⟩) (zB.preV hPc hDc hK hN hE hO hT hG hS hFc (fun _ h => nomatch h) (fun _ h => nomatch h) (fun _ h => nomatch h) (fun _ h => nomatch h) (va_recv hK hPc (ci := 4) (q0 := 0) rfl rfl)) rfl rfl hl.1 rfl (lv_room (Nat.le_of_ble_eq_true rfl)) dX0_pushText_16 ⟨(Nat.le_of_ble_eq_true rfl), (Nat.le_of_ble_eq_true rfl)⟩) hS (fun q _ h => hFc q h) hFc (fun u t H1 locs ht hvm hw hB hz1 hk1 hS => ?_)
    obtain ⟨f3, hP1, hD1⟩ := hB
    rw [ht] at hP1
    obtain ⟨hP, hD⟩ := va_join (wr := []) (w1 := [(h0, .inr (4, [.ref rr, w1, .int (nI ((j + k1) + 1))])), (rr, .inl (y 0, N, .inl f3))]) hP hD [0, 1] [] rfl rfl (by decide) (by decide) hk1 hFc hP1 hD1
    generalize H1 = H at hP hS ⊢
    have hP : va_P D vwCl [(h0, .inr (4, [.ref rr, w1, .int (nI ((j + k1) + 1))])), (rr, .inl (y 0, N, .inl f3))] H := hP
    have hD : va_D A [(h0, .inr (4, [.ref rr, w1, .int (nI ((j + k1) + 1))])), (rr, .inl (y 0, N, .inl f3))] := hD
    refine lv_iinc (v := nI (k1 + 1)) (lv' := [(2, .int (nI (k1 + 1))), (0, .ref h0), (1, .ref sx)]) hx hb dX0_pushText_19 hl (k := 0) rfl (ax_c_X0_pushText_11_1 k1 hk11 hk10) (by decide) rfl (fun ls hl => ?_)
    refine lv_goto (tgt := 2) hx hb dX0_pushText_22 (by decide) ?_
    exact ih ls H locs ⟨_, hP, hD, hS, lv_sub hl [0, 1, 2] rfl⟩
  · obtain ⟨ge0, hP, hD, hS, hl⟩ := hI
    have hl : lv_has ls 3 [(2, .int (nI 11)), (0, .ref h0), (1, .ref sx)] := hl
    have hP : va_P D vwCl [(h0, .inr (4, [.ref rr, w1, .int (nI (j + 11))])), (rr, .inl (y 0, N, .inl ge0))] H := hP
    have hD : va_D A [(h0, .inr (4, [.ref rr, w1, .int (nI (j + 11))])), (rr, .inl (y 0, N, .inl ge0))] := hD
    refine lv_iload_n hx hb dX0_pushText_2 rfl (lv_at hl 0 rfl) ?_
    refine lv_aload_n hx hb dX0_pushText_3 rfl (lv_at hl 2 rfl) ?_
    have hPc := hP.sub (ws' := []) [] rfl
    have hDc := hD.sub (ws' := []) [] (by decide) rfl
    have hFc := va_free (wc := []) hD hS hA [] rfl
    refine va_calli (va_runV (As := []) (rest := [.int (nI 11)]) ⟨hx, hb, hml, hown, hts⟩ (c_len_o_11 l D y H.size sx tx f) (cwV 0 hts gv_c_X0_pushText_11_c_len_o_11_56 rfl rfl rfl (by decide +kernel) ⟨(Nat.le_of_ble_eq_true rfl), (Nat.le_of_ble_eq_true rfl)⟩) (zB.preV hPc hDc hK hN hE hO hT hG hS hFc (fun _ h => nomatch h) (List.forall_mem_cons.mpr ⟨List.mem_of_getElem? (i := 0) rfl, (fun _ h => nomatch h)⟩) (fun _ h => nomatch h) (List.forall_mem_cons.mpr ⟨List.mem_of_getElem? (i := 0) rfl, (fun _ h => nomatch h)⟩) (zStr.recv (show zStr sx tx 11 f A s s.heap from (hG (.inr (.inl (sx, tx, 11, f))) (List.mem_of_getElem? (i := 0) rfl))) hS)) rfl rfl hl.1 rfl (lv_room (Nat.le_of_ble_eq_true rfl)) dX0_pushText_4 ⟨(Nat.le_of_ble_eq_true rfl), (Nat.le_of_ble_eq_true rfl)⟩) hS (fun q _ h => hFc q h) hFc (fun r4 u t H1 locs ht hvm hw hB hz1 hk1 hS => ?_)
    obtain ⟨hP1, hD1⟩ := hB
    rw [ht] at hP1
    obtain ⟨hP, hD⟩ := va_join (wr := [(h0, .inr (4, [.ref rr, w1, .int (nI (j + 11))])), (rr, .inl (y 0, N, .inl ge0))]) (w1 := []) hP hD [] [0, 1] rfl rfl (by decide) (by decide) hk1 hFc hP1 hD1
    generalize H1 = H at hP hS ⊢
    have hP : va_P D vwCl [(h0, .inr (4, [.ref rr, w1, .int (nI (j + 11))])), (rr, .inl (y 0, N, .inl ge0))] H := hP
    have hD : va_D A [(h0, .inr (4, [.ref rr, w1, .int (nI (j + 11))])), (rr, .inl (y 0, N, .inl ge0))] := hD
    have hw : r4 = 11 := hw
    subst hw
    refine lv_icmp_ge (tgt := 25) hx hb dX0_pushText_7 (by decide) (fun _ => ?_) (fun c9 => absurd (by decide) c9)
    have hP9 := hP.sub (ws' := [(h0, .inr (4, [.ref rr, w1, .int (nI (j + 11))])), (rr, .inl (y 0, N, .inl ge0))]) [0, 1] rfl
    have hD9 := hD.sub (ws' := [(h0, .inr (4, [.ref rr, w1, .int (nI (j + 11))])), (rr, .inl (y 0, N, .inl ge0))]) [0, 1] (by decide) rfl
    refine W.widen (k := 0) (n := 0) (Nat.le_of_ble_eq_true rfl) (Nat.le_of_ble_eq_true rfl) ?_
    exact W.vret hx hb hr (fun t ht hW => ⟨⟨(), rfl, trivial, ge0, by rw [ht]; exact hP9, hD9⟩, hS.F ht⟩) hS.2.2 dX0_pushText_25
def wz_c_X0_pushText_4 : List Cond := .code yX0_pushText cX0_pushText 3 none :: ([.methodLink RX0 56 yJ0_length_8abf5, .instanceMethod yJ0_length_8abf5, .selects RJ0 yJ0_length_8abf5 yJ0_length_8abf5, .initialized RJ0, .methodLink RX0 62 yJ0_charAt_5068e, .instanceMethod yJ0_charAt_5068e, .selects RJ0 yJ0_charAt_5068e yJ0_charAt_5068e, .methodLink RX0 29 yX0_push, .instanceMethod yX0_push, .selects RX0 yX0_push yX0_push, .initialized RX0] ++ (wz_c_len_o_4 ++ (wz_c_chr_o_4 ++ (wz_c_X0_push ++ ([])))))
set_option maxRecDepth 100000 in
theorem gz_c_X0_pushText_4_c_len_o_4 : GoodIn wz_c_X0_pushText_4 wz_c_len_o_4 := goodIn_sub (fun w h => List.mem_cons_of_mem _ (List.mem_append_right _ (List.mem_append_left _ h))) (by decide +kernel)
set_option maxRecDepth 100000 in
theorem gz_c_X0_pushText_4_c_chr_o_4 : GoodIn wz_c_X0_pushText_4 wz_c_chr_o_4 := goodIn_sub (fun w h => List.mem_cons_of_mem _ (List.mem_append_right _ (List.mem_append_right _ (List.mem_append_left _ h)))) (by decide +kernel)
set_option maxRecDepth 100000 in
theorem gz_c_X0_pushText_4_c_X0_push : GoodIn wz_c_X0_pushText_4 wz_c_X0_push := goodIn_sub (fun w h => List.mem_cons_of_mem _ (List.mem_append_right _ (List.mem_append_right _ (List.mem_append_right _ (List.mem_append_left _ h))))) (by decide +kernel)
set_option maxRecDepth 100000 in
theorem gv_c_X0_pushText_4_c_len_o_4_56 : GoodIn wz_c_X0_pushText_4 (wsV RX0 56 RJ0 yJ0_length_8abf5 wz_c_len_o_4) := goodIn_app (goodIn_of _ (by decide +kernel)) gz_c_X0_pushText_4_c_len_o_4
set_option maxRecDepth 100000 in
theorem gv_c_X0_pushText_4_c_chr_o_4_62 : GoodIn wz_c_X0_pushText_4 (wsV RX0 62 RJ0 yJ0_charAt_5068e wz_c_chr_o_4) := goodIn_app (goodIn_of _ (by decide +kernel)) gz_c_X0_pushText_4_c_chr_o_4
set_option maxRecDepth 100000 in
theorem gv_c_X0_pushText_4_c_X0_push_29 : GoodIn wz_c_X0_pushText_4 (wsV RX0 29 RX0 yX0_push wz_c_X0_push) := goodIn_app (goodIn_of _ (by decide +kernel)) gz_c_X0_pushText_4_c_X0_push
set_option maxHeartbeats 4000000 in
set_option maxRecDepth 100000 in
theorem ax_c_X0_pushText_4_0 : ∀ k1 : Nat, k1 < 4 → 0 ≤ k1 → ¬ (4 : Int32) ≤ (nI k1) := by decide +kernel
set_option maxHeartbeats 4000000 in
set_option maxRecDepth 100000 in
theorem ax_c_X0_pushText_4_1 : ∀ k1 : Nat, k1 < 4 → 0 ≤ k1 → nI k1 + Int32.ofInt 1 = nI (k1 + 1) := by decide +kernel
set_option maxHeartbeats 4000000 in
set_option maxRecDepth 100000 in
theorem c_X0_pushText_4 (l : Launch) (D : va_G) (y : Nat → ClassId) (sz : Nat) (h0 : Nat) (rr : Nat) (N : Nat) (j : Nat) (sx : Nat) (tx : Nat) (w1 : Value) (g : Nat → Int32) (f : Nat → Int32) (hjn : j + 4 ≤ N) (hN : N ≤ 4096) : Met l yX0_pushText wz_c_X0_pushText_4 ({ frames := 4, cells := 0, slots := 0, locals := 85 }) (va_Pc [.ref h0, .ref sx] (zB D y [(h0, .inr (4, [.ref rr, w1, .int (nI j)])), (rr, .inl (y 0, N, .inl g))] sz [] [("java/lang/String", "COMPACT_STRINGS", "Z", .int 1)] [] [.inr (.inl (sx, tx, 4, f)), .inr (.inr (.inr (.inr ("jdk/internal/util/Preconditions", "SIOOBE_FORMATTER", "Ljava/util/function/BiFunction;"))))])) (va_Qv (fun _ : Unit => True) (fun _ t => ∃ fz0 : Nat → Int32, va_P D vwCl [(h0, .inr (4, [.ref rr, w1, .int (nI (j + 4))])), (rr, .inl (y 0, N, .inl fz0))] t.heap ∧ va_D (va_A [(h0, .inr (4, [.ref rr, w1, .int (nI j)])), (rr, .inl (y 0, N, .inl g))] sz) [(h0, .inr (4, [.ref rr, w1, .int (nI (j + 4))])), (rr, .inl (y 0, N, .inl fz0))]) (va_A [(h0, .inr (4, [.ref rr, w1, .int (nI j)])), (rr, .inl (y 0, N, .inl g))] sz)) 0 0 (va_A [(h0, .inr (4, [.ref rr, w1, .int (nI j)])), (rr, .inl (y 0, N, .inl g))] sz) := by
  refine Met.ofW (cc := cX0_pushText) (maxL := 3) (ret := none) (by decide) rfl ?_
  intro p e s m args below meth c s₁ B hml hv
  obtain ⟨rfl, hsz, hP, hK, hD0, hN, hE, hO, hT, hG⟩ := hv
  have hx := B.exec
  have hb := B.bytes
  have hr := B.returns
  have hts := atoms_spec (ws := wz_c_X0_pushText_4) B.pre
  have hown : s.vm.findClass RX0 = some m.cls := findClass_of_methodNamed B.named
  have hlocks := B.notSynchronized
  subst hsz
  have hD := hD0.self (sz := s.heap.size)
  generalize hAe : va_A [(h0, .inr (4, [.ref rr, w1, .int (nI j)])), (rr, .inl (y 0, N, .inl g))] s.heap.size = A at hD hE hT hG ⊢
  have hA : ∀ q : Nat, s.heap.size ≤ q → A q := fun q h => by rw [← hAe]; exact Or.inr h
  have hS : va_S A s.heap s.heap [] := va_S.rf
  have hl := lv_entry ([.ref h0, .ref sx]) (n := 3) (Nat.le_of_ble_eq_true rfl)
  rw [lg_entry_eq]
  generalize (lg_sl ([.ref h0, .ref sx]) ++ List.replicate (3 - (lg_sl ([.ref h0, .ref sx])).length) Slot.unset).toArray = ls at hl ⊢
  have hl : lv_has ls 3 [(0, .ref h0), (1, .ref sx)] := hl
  refine lv_iconst (v := 0) hx hb dX0_pushText_0 (by decide) ?_
  refine lv_istore_n (lv' := [(2, .int 0), (0, .ref h0), (1, .ref sx)]) hx hb dX0_pushText_1 rfl hl (by decide) rfl (fun ls hl => ?_)
  have hl : lv_has ls 3 [(2, .int (nI 0)), (0, .ref h0), (1, .ref sx)] := lv_sub hl [0, 1, 2] rfl
  refine zz_loop (I := fun (k1 : Nat) (ls : Array Slot) (H : Heap) (locs : List Loc) => ∃ ge0 : Nat → Int32, va_P D vwCl [(h0, .inr (4, [.ref rr, w1, .int (nI (j + k1))])), (rr, .inl (y 0, N, .inl ge0))] H ∧ va_D A [(h0, .inr (4, [.ref rr, w1, .int (nI (j + k1))])), (rr, .inl (y 0, N, .inl ge0))] ∧ va_S A s.heap H locs ∧ lv_has ls 3 [(2, .int (nI k1)), (0, .ref h0), (1, .ref sx)]) 0 4 (by decide) ⟨_, hP, hD, hS, hl⟩ (fun k1 ls H locs hk10 hk11 hI ih => ?_) (fun ls H locs hI => ?_)
  · obtain ⟨ge0, hP, hD, hS, hl⟩ := hI
    have hl : lv_has ls 3 [(2, .int (nI k1)), (0, .ref h0), (1, .ref sx)] := hl
    have hP : va_P D vwCl [(h0, .inr (4, [.ref rr, w1, .int (nI (j + k1))])), (rr, .inl (y 0, N, .inl ge0))] H := hP
    have hD : va_D A [(h0, .inr (4, [.ref rr, w1, .int (nI (j + k1))])), (rr, .inl (y 0, N, .inl ge0))] := hD
    refine lv_iload_n hx hb dX0_pushText_2 rfl (lv_at hl 0 rfl) ?_
    refine lv_aload_n hx hb dX0_pushText_3 rfl (lv_at hl 2 rfl) ?_
    have hPc := hP.sub (ws' := []) [] rfl
    have hDc := hD.sub (ws' := []) [] (by decide) rfl
    have hFc := va_free (wc := []) hD hS hA [] rfl
    refine va_calli (va_runV (As := []) (rest := [.int (nI k1)]) ⟨hx, hb, hml, hown, hts⟩ (c_len_o_4 l D y H.size sx tx f) (cwV 0 hts gv_c_X0_pushText_4_c_len_o_4_56 rfl rfl rfl (by decide +kernel) ⟨(Nat.le_of_ble_eq_true rfl), (Nat.le_of_ble_eq_true rfl)⟩) (zB.preV hPc hDc hK hN hE hO hT hG hS hFc (fun _ h => nomatch h) (List.forall_mem_cons.mpr ⟨List.mem_of_getElem? (i := 0) rfl, (fun _ h => nomatch h)⟩) (fun _ h => nomatch h) (List.forall_mem_cons.mpr ⟨List.mem_of_getElem? (i := 0) rfl, (fun _ h => nomatch h)⟩) (zStr.recv (show zStr sx tx 4 f A s s.heap from (hG (.inr (.inl (sx, tx, 4, f))) (List.mem_of_getElem? (i := 0) rfl))) hS)) rfl rfl hl.1 rfl (lv_room (Nat.le_of_ble_eq_true rfl)) dX0_pushText_4 ⟨(Nat.le_of_ble_eq_true rfl), (Nat.le_of_ble_eq_true rfl)⟩) hS (fun q _ h => hFc q h) hFc (fun r1 u t H1 locs ht hvm hw hB hz1 hk1 hS => ?_)
    obtain ⟨hP1, hD1⟩ := hB
    rw [ht] at hP1
    obtain ⟨hP, hD⟩ := va_join (wr := [(h0, .inr (4, [.ref rr, w1, .int (nI (j + k1))])), (rr, .inl (y 0, N, .inl ge0))]) (w1 := []) hP hD [] [0, 1] rfl rfl (by decide) (by decide) hk1 hFc hP1 hD1
    generalize H1 = H at hP hS ⊢
    have hP : va_P D vwCl [(h0, .inr (4, [.ref rr, w1, .int (nI (j + k1))])), (rr, .inl (y 0, N, .inl ge0))] H := hP
    have hD : va_D A [(h0, .inr (4, [.ref rr, w1, .int (nI (j + k1))])), (rr, .inl (y 0, N, .inl ge0))] := hD
    have hw : r1 = 4 := hw
    subst hw
    refine lv_icmp_ge (tgt := 25) hx hb dX0_pushText_7 (by decide) (fun c9 => absurd c9 (ax_c_X0_pushText_4_0 k1 hk11 hk10)) (fun _ => ?_)
    refine lv_aload_n hx hb dX0_pushText_10 rfl (lv_at hl 1 rfl) ?_
    refine lv_aload_n hx hb dX0_pushText_11 rfl (lv_at hl 2 rfl) ?_
    refine lv_iload_n hx hb dX0_pushText_12 rfl (lv_at hl 0 rfl) ?_
    have hPc := hP.sub (ws' := []) [] rfl
    have hDc := hD.sub (ws' := []) [] (by decide) rfl
    have hFc := va_free (wc := []) hD hS hA [] rfl
    refine va_calli (va_runV (As := [.int (nI k1)]) (rest := [.ref h0]) ⟨hx, hb, hml, hown, hts⟩ (c_chr_o_4 l D y H.size k1 sx tx f (by omega)) (cwV 1 hts gv_c_X0_pushText_4_c_chr_o_4_62 rfl rfl rfl (by decide +kernel) ⟨(Nat.le_of_ble_eq_true rfl), (Nat.le_of_ble_eq_true rfl)⟩) (zB.preV hPc hDc hK hN hE hO hT hG hS hFc (fun _ h => nomatch h) (List.forall_mem_cons.mpr ⟨List.mem_of_getElem? (i := 0) rfl, (fun _ h => nomatch h)⟩) (fun _ h => nomatch h) (List.forall_mem_cons.mpr ⟨List.mem_of_getElem? (i := 0) rfl, (List.forall_mem_cons.mpr ⟨List.mem_of_getElem? (i := 1) rfl, (fun _ h => nomatch h)⟩)⟩) (zStr.recv (show zStr sx tx 4 f A s s.heap from (hG (.inr (.inl (sx, tx, 4, f))) (List.mem_of_getElem? (i := 0) rfl))) hS)) rfl rfl hl.1 rfl (lv_room (Nat.le_of_ble_eq_true rfl)) dX0_pushText_13 ⟨(Nat.le_of_ble_eq_true rfl), (Nat.le_of_ble_eq_true rfl)⟩) hS (fun q _ h => hFc q h) hFc (fun r2 u t H1 locs ht hvm hw hB hz1 hk1 hS => ?_)
    obtain ⟨hP1, hD1⟩ := hB
    rw [ht] at hP1
    obtain ⟨hP, hD⟩ := va_join (wr := [(h0, .inr (4, [.ref rr, w1, .int (nI (j + k1))])), (rr, .inl (y 0, N, .inl ge0))]) (w1 := []) hP hD [] [0, 1] rfl rfl (by decide) (by decide) hk1 hFc hP1 hD1
    generalize H1 = H at hP hS ⊢
    have hP : va_P D vwCl [(h0, .inr (4, [.ref rr, w1, .int (nI (j + k1))])), (rr, .inl (y 0, N, .inl ge0))] H := hP
    have hD : va_D A [(h0, .inr (4, [.ref rr, w1, .int (nI (j + k1))])), (rr, .inl (y 0, N, .inl ge0))] := hD
    have hw : r2 = (f k1) &&& (255 : Int32) := hw
    subst hw
    have hPc := hP.sub (ws' := [(h0, .inr (4, [.ref rr, w1, .int (nI (j + k1))])), (rr, .inl (y 0, N, .inl ge0))]) [0, 1] rfl
    have hDc := hD.sub (ws' := [(h0, .inr (4, [.ref rr, w1, .int (nI (j + k1))])), (rr, .inl (y 0, N, .inl ge0))]) [0, 1] (by decide) rfl
    have hFc := va_free (wc := [(h0, .inr (4, [.ref rr, w1, .int (nI (j + k1))])), (rr, .inl (y 0, N, .inl ge0))]) hD hS hA [0, 1] rfl
    refine va_callv (va_runV (As := [.int ((f k1) &&& (255 : Int32))]) (rest := []) ⟨hx, hb, hml, hown, hts⟩ (c_X0_push l D y H.size h0 rr N ((j + k1)) w1 ge0 ((f k1) &&& (255 : Int32)) (by omega) (by omega)) (cwV 1 hts gv_c_X0_pushText_4_c_X0_push_29 rfl rfl rfl (by decide +kernel) ⟨(Nat.le_of_ble_eq_true rfl), (Nat.le_of_ble_eq_true rfl)⟩) (zB.preV hPc hDc hK hN hE hO hT hG hS hFc (fun _ h => nomatch h) (fun _ h => nomatch h) (fun _ h => nomatch h) (fun _ h => nomatch h) (va_recv hK hPc (ci := 4) (q0 := 0) rfl rfl)) rfl rfl hl.1 rfl (lv_room (Nat.le_of_ble_eq_true rfl)) dX0_pushText_16 ⟨(Nat.le_of_ble_eq_true rfl), (Nat.le_of_ble_eq_true rfl)⟩) hS (fun q _ h => hFc q h) hFc (fun u t H1 locs ht hvm hw hB hz1 hk1 hS => ?_)
    obtain ⟨f3, hP1, hD1⟩ := hB
    rw [ht] at hP1
    obtain ⟨hP, hD⟩ := va_join (wr := []) (w1 := [(h0, .inr (4, [.ref rr, w1, .int (nI ((j + k1) + 1))])), (rr, .inl (y 0, N, .inl f3))]) hP hD [0, 1] [] rfl rfl (by decide) (by decide) hk1 hFc hP1 hD1
    generalize H1 = H at hP hS ⊢
    have hP : va_P D vwCl [(h0, .inr (4, [.ref rr, w1, .int (nI ((j + k1) + 1))])), (rr, .inl (y 0, N, .inl f3))] H := hP
    have hD : va_D A [(h0, .inr (4, [.ref rr, w1, .int (nI ((j + k1) + 1))])), (rr, .inl (y 0, N, .inl f3))] := hD
    refine lv_iinc (v := nI (k1 + 1)) (lv' := [(2, .int (nI (k1 + 1))), (0, .ref h0), (1, .ref sx)]) hx hb dX0_pushText_19 hl (k := 0) rfl (ax_c_X0_pushText_4_1 k1 hk11 hk10) (by decide) rfl (fun ls hl => ?_)
    refine lv_goto (tgt := 2) hx hb dX0_pushText_22 (by decide) ?_
    exact ih ls H locs ⟨_, hP, hD, hS, lv_sub hl [0, 1, 2] rfl⟩
  · obtain ⟨ge0, hP, hD, hS, hl⟩ := hI
    have hl : lv_has ls 3 [(2, .int (nI 4)), (0, .ref h0), (1, .ref sx)] := hl
    have hP : va_P D vwCl [(h0, .inr (4, [.ref rr, w1, .int (nI (j + 4))])), (rr, .inl (y 0, N, .inl ge0))] H := hP
    have hD : va_D A [(h0, .inr (4, [.ref rr, w1, .int (nI (j + 4))])), (rr, .inl (y 0, N, .inl ge0))] := hD
    refine lv_iload_n hx hb dX0_pushText_2 rfl (lv_at hl 0 rfl) ?_
    refine lv_aload_n hx hb dX0_pushText_3 rfl (lv_at hl 2 rfl) ?_
    have hPc := hP.sub (ws' := []) [] rfl
    have hDc := hD.sub (ws' := []) [] (by decide) rfl
    have hFc := va_free (wc := []) hD hS hA [] rfl
    refine va_calli (va_runV (As := []) (rest := [.int (nI 4)]) ⟨hx, hb, hml, hown, hts⟩ (c_len_o_4 l D y H.size sx tx f) (cwV 0 hts gv_c_X0_pushText_4_c_len_o_4_56 rfl rfl rfl (by decide +kernel) ⟨(Nat.le_of_ble_eq_true rfl), (Nat.le_of_ble_eq_true rfl)⟩) (zB.preV hPc hDc hK hN hE hO hT hG hS hFc (fun _ h => nomatch h) (List.forall_mem_cons.mpr ⟨List.mem_of_getElem? (i := 0) rfl, (fun _ h => nomatch h)⟩) (fun _ h => nomatch h) (List.forall_mem_cons.mpr ⟨List.mem_of_getElem? (i := 0) rfl, (fun _ h => nomatch h)⟩) (zStr.recv (show zStr sx tx 4 f A s s.heap from (hG (.inr (.inl (sx, tx, 4, f))) (List.mem_of_getElem? (i := 0) rfl))) hS)) rfl rfl hl.1 rfl (lv_room (Nat.le_of_ble_eq_true rfl)) dX0_pushText_4 ⟨(Nat.le_of_ble_eq_true rfl), (Nat.le_of_ble_eq_true rfl)⟩) hS (fun q _ h => hFc q h) hFc (fun r4 u t H1 locs ht hvm hw hB hz1 hk1 hS => ?_)
    obtain ⟨hP1, hD1⟩ := hB
    rw [ht] at hP1
    obtain ⟨hP, hD⟩ := va_join (wr := [(h0, .inr (4, [.ref rr, w1, .int (nI (j + 4))])), (rr, .inl (y 0, N, .inl ge0))]) (w1 := []) hP hD [] [0, 1] rfl rfl (by decide) (by decide) hk1 hFc hP1 hD1
    generalize H1 = H at hP hS ⊢
    have hP : va_P D vwCl [(h0, .inr (4, [.ref rr, w1, .int (nI (j + 4))])), (rr, .inl (y 0, N, .inl ge0))] H := hP
    have hD : va_D A [(h0, .inr (4, [.ref rr, w1, .int (nI (j + 4))])), (rr, .inl (y 0, N, .inl ge0))] := hD
    have hw : r4 = 4 := hw
    subst hw
    refine lv_icmp_ge (tgt := 25) hx hb dX0_pushText_7 (by decide) (fun _ => ?_) (fun c9 => absurd (by decide) c9)
    have hP9 := hP.sub (ws' := [(h0, .inr (4, [.ref rr, w1, .int (nI (j + 4))])), (rr, .inl (y 0, N, .inl ge0))]) [0, 1] rfl
    have hD9 := hD.sub (ws' := [(h0, .inr (4, [.ref rr, w1, .int (nI (j + 4))])), (rr, .inl (y 0, N, .inl ge0))]) [0, 1] (by decide) rfl
    refine W.widen (k := 0) (n := 0) (Nat.le_of_ble_eq_true rfl) (Nat.le_of_ble_eq_true rfl) ?_
    exact W.vret hx hb hr (fun t ht hW => ⟨⟨(), rfl, trivial, ge0, by rw [ht]; exact hP9, hD9⟩, hS.F ht⟩) hS.2.2 dX0_pushText_25
def wz_c_X0_pushText_13 : List Cond := .code yX0_pushText cX0_pushText 3 none :: ([.methodLink RX0 56 yJ0_length_8abf5, .instanceMethod yJ0_length_8abf5, .selects RJ0 yJ0_length_8abf5 yJ0_length_8abf5, .initialized RJ0, .methodLink RX0 62 yJ0_charAt_5068e, .instanceMethod yJ0_charAt_5068e, .selects RJ0 yJ0_charAt_5068e yJ0_charAt_5068e, .methodLink RX0 29 yX0_push, .instanceMethod yX0_push, .selects RX0 yX0_push yX0_push, .initialized RX0] ++ (wz_c_len_o_13 ++ (wz_c_chr_o_13 ++ (wz_c_X0_push ++ ([])))))
set_option maxRecDepth 100000 in
theorem gz_c_X0_pushText_13_c_len_o_13 : GoodIn wz_c_X0_pushText_13 wz_c_len_o_13 := goodIn_sub (fun w h => List.mem_cons_of_mem _ (List.mem_append_right _ (List.mem_append_left _ h))) (by decide +kernel)
set_option maxRecDepth 100000 in
theorem gz_c_X0_pushText_13_c_chr_o_13 : GoodIn wz_c_X0_pushText_13 wz_c_chr_o_13 := goodIn_sub (fun w h => List.mem_cons_of_mem _ (List.mem_append_right _ (List.mem_append_right _ (List.mem_append_left _ h)))) (by decide +kernel)
set_option maxRecDepth 100000 in
theorem gz_c_X0_pushText_13_c_X0_push : GoodIn wz_c_X0_pushText_13 wz_c_X0_push := goodIn_sub (fun w h => List.mem_cons_of_mem _ (List.mem_append_right _ (List.mem_append_right _ (List.mem_append_right _ (List.mem_append_left _ h))))) (by decide +kernel)
set_option maxRecDepth 100000 in
theorem gv_c_X0_pushText_13_c_len_o_13_56 : GoodIn wz_c_X0_pushText_13 (wsV RX0 56 RJ0 yJ0_length_8abf5 wz_c_len_o_13) := goodIn_app (goodIn_of _ (by decide +kernel)) gz_c_X0_pushText_13_c_len_o_13
set_option maxRecDepth 100000 in
theorem gv_c_X0_pushText_13_c_chr_o_13_62 : GoodIn wz_c_X0_pushText_13 (wsV RX0 62 RJ0 yJ0_charAt_5068e wz_c_chr_o_13) := goodIn_app (goodIn_of _ (by decide +kernel)) gz_c_X0_pushText_13_c_chr_o_13
set_option maxRecDepth 100000 in
theorem gv_c_X0_pushText_13_c_X0_push_29 : GoodIn wz_c_X0_pushText_13 (wsV RX0 29 RX0 yX0_push wz_c_X0_push) := goodIn_app (goodIn_of _ (by decide +kernel)) gz_c_X0_pushText_13_c_X0_push
set_option maxHeartbeats 4000000 in
set_option maxRecDepth 100000 in
theorem ax_c_X0_pushText_13_0 : ∀ k1 : Nat, k1 < 13 → 0 ≤ k1 → ¬ (13 : Int32) ≤ (nI k1) := by decide +kernel
set_option maxHeartbeats 4000000 in
set_option maxRecDepth 100000 in
theorem ax_c_X0_pushText_13_1 : ∀ k1 : Nat, k1 < 13 → 0 ≤ k1 → nI k1 + Int32.ofInt 1 = nI (k1 + 1) := by decide +kernel
set_option maxHeartbeats 4000000 in
set_option maxRecDepth 100000 in
theorem c_X0_pushText_13 (l : Launch) (D : va_G) (y : Nat → ClassId) (sz : Nat) (h0 : Nat) (rr : Nat) (N : Nat) (j : Nat) (sx : Nat) (tx : Nat) (w1 : Value) (g : Nat → Int32) (f : Nat → Int32) (hjn : j + 13 ≤ N) (hN : N ≤ 4096) : Met l yX0_pushText wz_c_X0_pushText_13 ({ frames := 4, cells := 0, slots := 0, locals := 85 }) (va_Pc [.ref h0, .ref sx] (zB D y [(h0, .inr (4, [.ref rr, w1, .int (nI j)])), (rr, .inl (y 0, N, .inl g))] sz [] [("java/lang/String", "COMPACT_STRINGS", "Z", .int 1)] [] [.inr (.inl (sx, tx, 13, f)), .inr (.inr (.inr (.inr ("jdk/internal/util/Preconditions", "SIOOBE_FORMATTER", "Ljava/util/function/BiFunction;"))))])) (va_Qv (fun _ : Unit => True) (fun _ t => ∃ fz0 : Nat → Int32, va_P D vwCl [(h0, .inr (4, [.ref rr, w1, .int (nI (j + 13))])), (rr, .inl (y 0, N, .inl fz0))] t.heap ∧ va_D (va_A [(h0, .inr (4, [.ref rr, w1, .int (nI j)])), (rr, .inl (y 0, N, .inl g))] sz) [(h0, .inr (4, [.ref rr, w1, .int (nI (j + 13))])), (rr, .inl (y 0, N, .inl fz0))]) (va_A [(h0, .inr (4, [.ref rr, w1, .int (nI j)])), (rr, .inl (y 0, N, .inl g))] sz)) 0 0 (va_A [(h0, .inr (4, [.ref rr, w1, .int (nI j)])), (rr, .inl (y 0, N, .inl g))] sz) := by
  refine Met.ofW (cc := cX0_pushText) (maxL := 3) (ret := none) (by decide) rfl ?_
  intro p e s m args below meth c s₁ B hml hv
  obtain ⟨rfl, hsz, hP, hK, hD0, hN, hE, hO, hT, hG⟩ := hv
  have hx := B.exec
  have hb := B.bytes
  have hr := B.returns
  have hts := atoms_spec (ws := wz_c_X0_pushText_13) B.pre
  have hown : s.vm.findClass RX0 = some m.cls := findClass_of_methodNamed B.named
  have hlocks := B.notSynchronized
  subst hsz
  have hD := hD0.self (sz := s.heap.size)
  generalize hAe : va_A [(h0, .inr (4, [.ref rr, w1, .int (nI j)])), (rr, .inl (y 0, N, .inl g))] s.heap.size = A at hD hE hT hG ⊢
  have hA : ∀ q : Nat, s.heap.size ≤ q → A q := fun q h => by rw [← hAe]; exact Or.inr h
  have hS : va_S A s.heap s.heap [] := va_S.rf
  have hl := lv_entry ([.ref h0, .ref sx]) (n := 3) (Nat.le_of_ble_eq_true rfl)
  rw [lg_entry_eq]
  generalize (lg_sl ([.ref h0, .ref sx]) ++ List.replicate (3 - (lg_sl ([.ref h0, .ref sx])).length) Slot.unset).toArray = ls at hl ⊢
  have hl : lv_has ls 3 [(0, .ref h0), (1, .ref sx)] := hl
  refine lv_iconst (v := 0) hx hb dX0_pushText_0 (by decide) ?_
  refine lv_istore_n (lv' := [(2, .int 0), (0, .ref h0), (1, .ref sx)]) hx hb dX0_pushText_1 rfl hl (by decide) rfl (fun ls hl => ?_)
  have hl : lv_has ls 3 [(2, .int (nI 0)), (0, .ref h0), (1, .ref sx)] := lv_sub hl [0, 1, 2] rfl
  refine zz_loop (I := fun (k1 : Nat) (ls : Array Slot) (H : Heap) (locs : List Loc) => ∃ ge0 : Nat → Int32, va_P D vwCl [(h0, .inr (4, [.ref rr, w1, .int (nI (j + k1))])), (rr, .inl (y 0, N, .inl ge0))] H ∧ va_D A [(h0, .inr (4, [.ref rr, w1, .int (nI (j + k1))])), (rr, .inl (y 0, N, .inl ge0))] ∧ va_S A s.heap H locs ∧ lv_has ls 3 [(2, .int (nI k1)), (0, .ref h0), (1, .ref sx)]) 0 13 (by decide) ⟨_, hP, hD, hS, hl⟩ (fun k1 ls H locs hk10 hk11 hI ih => ?_) (fun ls H locs hI => ?_)
  · obtain ⟨ge0, hP, hD, hS, hl⟩ := hI
    have hl : lv_has ls 3 [(2, .int (nI k1)), (0, .ref h0), (1, .ref sx)] := hl
    have hP : va_P D vwCl [(h0, .inr (4, [.ref rr, w1, .int (nI (j + k1))])), (rr, .inl (y 0, N, .inl ge0))] H := hP
    have hD : va_D A [(h0, .inr (4, [.ref rr, w1, .int (nI (j + k1))])), (rr, .inl (y 0, N, .inl ge0))] := hD
    refine lv_iload_n hx hb dX0_pushText_2 rfl (lv_at hl 0 rfl) ?_
    refine lv_aload_n hx hb dX0_pushText_3 rfl (lv_at hl 2 rfl) ?_
    have hPc := hP.sub (ws' := []) [] rfl
    have hDc := hD.sub (ws' := []) [] (by decide) rfl
    have hFc := va_free (wc := []) hD hS hA [] rfl
    refine va_calli (va_runV (As := []) (rest := [.int (nI k1)]) ⟨hx, hb, hml, hown, hts⟩ (c_len_o_13 l D y H.size sx tx f) (cwV 0 hts gv_c_X0_pushText_13_c_len_o_13_56 rfl rfl rfl (by decide +kernel) ⟨(Nat.le_of_ble_eq_true rfl), (Nat.le_of_ble_eq_true rfl)⟩) (zB.preV hPc hDc hK hN hE hO hT hG hS hFc (fun _ h => nomatch h) (List.forall_mem_cons.mpr ⟨List.mem_of_getElem? (i := 0) rfl, (fun _ h => nomatch h)⟩) (fun _ h => nomatch h) (List.forall_mem_cons.mpr ⟨List.mem_of_getElem? (i := 0) rfl, (fun _ h => nomatch h)⟩) (zStr.recv (show zStr sx tx 13 f A s s.heap from (hG (.inr (.inl (sx, tx, 13, f))) (List.mem_of_getElem? (i := 0) rfl))) hS)) rfl rfl hl.1 rfl (lv_room (Nat.le_of_ble_eq_true rfl)) dX0_pushText_4 ⟨(Nat.le_of_ble_eq_true rfl), (Nat.le_of_ble_eq_true rfl)⟩) hS (fun q _ h => hFc q h) hFc (fun r1 u t H1 locs ht hvm hw hB hz1 hk1 hS => ?_)
    obtain ⟨hP1, hD1⟩ := hB
    rw [ht] at hP1
    obtain ⟨hP, hD⟩ := va_join (wr := [(h0, .inr (4, [.ref rr, w1, .int (nI (j + k1))])), (rr, .inl (y 0, N, .inl ge0))]) (w1 := []) hP hD [] [0, 1] rfl rfl (by decide) (by decide) hk1 hFc hP1 hD1
    generalize H1 = H at hP hS ⊢
    have hP : va_P D vwCl [(h0, .inr (4, [.ref rr, w1, .int (nI (j + k1))])), (rr, .inl (y 0, N, .inl ge0))] H := hP
    have hD : va_D A [(h0, .inr (4, [.ref rr, w1, .int (nI (j + k1))])), (rr, .inl (y 0, N, .inl ge0))] := hD
    have hw : r1 = 13 := hw
    subst hw
    refine lv_icmp_ge (tgt := 25) hx hb dX0_pushText_7 (by decide) (fun c9 => absurd c9 (ax_c_X0_pushText_13_0 k1 hk11 hk10)) (fun _ => ?_)
    refine lv_aload_n hx hb dX0_pushText_10 rfl (lv_at hl 1 rfl) ?_
    refine lv_aload_n hx hb dX0_pushText_11 rfl (lv_at hl 2 rfl) ?_
    refine lv_iload_n hx hb dX0_pushText_12 rfl (lv_at hl 0 rfl) ?_
    have hPc := hP.sub (ws' := []) [] rfl
    have hDc := hD.sub (ws' := []) [] (by decide) rfl
    have hFc := va_free (wc := []) hD hS hA [] rfl
    refine va_calli (va_runV (As := [.int (nI k1)]) (rest := [.ref h0]) ⟨hx, hb, hml, hown, hts⟩ (c_chr_o_13 l D y H.size k1 sx tx f (by omega)) (cwV 1 hts gv_c_X0_pushText_13_c_chr_o_13_62 rfl rfl rfl (by decide +kernel) ⟨(Nat.le_of_ble_eq_true rfl), (Nat.le_of_ble_eq_true rfl)⟩) (zB.preV hPc hDc hK hN hE hO hT hG hS hFc (fun _ h => nomatch h) (List.forall_mem_cons.mpr ⟨List.mem_of_getElem? (i := 0) rfl, (fun _ h => nomatch h)⟩) (fun _ h => nomatch h) (List.forall_mem_cons.mpr ⟨List.mem_of_getElem? (i := 0) rfl, (List.forall_mem_cons.mpr ⟨List.mem_of_getElem? (i := 1) rfl, (fun _ h => nomatch h)⟩)⟩) (zStr.recv (show zStr sx tx 13 f A s s.heap from (hG (.inr (.inl (sx, tx, 13, f))) (List.mem_of_getElem? (i := 0) rfl))) hS)) rfl rfl hl.1 rfl (lv_room (Nat.le_of_ble_eq_true rfl)) dX0_pushText_13 ⟨(Nat.le_of_ble_eq_true rfl), (Nat.le_of_ble_eq_true rfl)⟩) hS (fun q _ h => hFc q h) hFc (fun r2 u t H1 locs ht hvm hw hB hz1 hk1 hS => ?_)
    obtain ⟨hP1, hD1⟩ := hB
    rw [ht] at hP1
    obtain ⟨hP, hD⟩ := va_join (wr := [(h0, .inr (4, [.ref rr, w1, .int (nI (j + k1))])), (rr, .inl (y 0, N, .inl ge0))]) (w1 := []) hP hD [] [0, 1] rfl rfl (by decide) (by decide) hk1 hFc hP1 hD1
    generalize H1 = H at hP hS ⊢
    have hP : va_P D vwCl [(h0, .inr (4, [.ref rr, w1, .int (nI (j + k1))])), (rr, .inl (y 0, N, .inl ge0))] H := hP
    have hD : va_D A [(h0, .inr (4, [.ref rr, w1, .int (nI (j + k1))])), (rr, .inl (y 0, N, .inl ge0))] := hD
    have hw : r2 = (f k1) &&& (255 : Int32) := hw
    subst hw
    have hPc := hP.sub (ws' := [(h0, .inr (4, [.ref rr, w1, .int (nI (j + k1))])), (rr, .inl (y 0, N, .inl ge0))]) [0, 1] rfl
    have hDc := hD.sub (ws' := [(h0, .inr (4, [.ref rr, w1, .int (nI (j + k1))])), (rr, .inl (y 0, N, .inl ge0))]) [0, 1] (by decide) rfl
    have hFc := va_free (wc := [(h0, .inr (4, [.ref rr, w1, .int (nI (j + k1))])), (rr, .inl (y 0, N, .inl ge0))]) hD hS hA [0, 1] rfl
    refine va_callv (va_runV (As := [.int ((f k1) &&& (255 : Int32))]) (rest := []) ⟨hx, hb, hml, hown, hts⟩ (c_X0_push l D y H.size h0 rr N ((j + k1)) w1 ge0 ((f k1) &&& (255 : Int32)) (by omega) (by omega)) (cwV 1 hts gv_c_X0_pushText_13_c_X0_push_29 rfl rfl rfl (by decide +kernel) ⟨(Nat.le_of_ble_eq_true rfl), (Nat.le_of_ble_eq_true rfl)⟩) (zB.preV hPc hDc hK hN hE hO hT hG hS hFc (fun _ h => nomatch h) (fun _ h => nomatch h) (fun _ h => nomatch h) (fun _ h => nomatch h) (va_recv hK hPc (ci := 4) (q0 := 0) rfl rfl)) rfl rfl hl.1 rfl (lv_room (Nat.le_of_ble_eq_true rfl)) dX0_pushText_16 ⟨(Nat.le_of_ble_eq_true rfl), (Nat.le_of_ble_eq_true rfl)⟩) hS (fun q _ h => hFc q h) hFc (fun u t H1 locs ht hvm hw hB hz1 hk1 hS => ?_)
    obtain ⟨f3, hP1, hD1⟩ := hB
    rw [ht] at hP1
    obtain ⟨hP, hD⟩ := va_join (wr := []) (w1 := [(h0, .inr (4, [.ref rr, w1, .int (nI ((j + k1) + 1))])), (rr, .inl (y 0, N, .inl f3))]) hP hD [0, 1] [] rfl rfl (by decide) (by decide) hk1 hFc hP1 hD1
    generalize H1 = H at hP hS ⊢
    have hP : va_P D vwCl [(h0, .inr (4, [.ref rr, w1, .int (nI ((j + k1) + 1))])), (rr, .inl (y 0, N, .inl f3))] H := hP
    have hD : va_D A [(h0, .inr (4, [.ref rr, w1, .int (nI ((j + k1) + 1))])), (rr, .inl (y 0, N, .inl f3))] := hD
    refine lv_iinc (v := nI (k1 + 1)) (lv' := [(2, .int (nI (k1 + 1))), (0, .ref h0), (1, .ref sx)]) hx hb dX0_pushText_19 hl (k := 0) rfl (ax_c_X0_pushText_13_1 k1 hk11 hk10) (by decide) rfl (fun ls hl => ?_)
    refine lv_goto (tgt := 2) hx hb dX0_pushText_22 (by decide) ?_
    exact ih ls H locs ⟨_, hP, hD, hS, lv_sub hl [0, 1, 2] rfl⟩
  · obtain ⟨ge0, hP, hD, hS, hl⟩ := hI
    have hl : lv_has ls 3 [(2, .int (nI 13)), (0, .ref h0), (1, .ref sx)] := hl
    have hP : va_P D vwCl [(h0, .inr (4, [.ref rr, w1, .int (nI (j + 13))])), (rr, .inl (y 0, N, .inl ge0))] H := hP
    have hD : va_D A [(h0, .inr (4, [.ref rr, w1, .int (nI (j + 13))])), (rr, .inl (y 0, N, .inl ge0))] := hD
    refine lv_iload_n hx hb dX0_pushText_2 rfl (lv_at hl 0 rfl) ?_
    refine lv_aload_n hx hb dX0_pushText_3 rfl (lv_at hl 2 rfl) ?_
    have hPc := hP.sub (ws' := []) [] rfl
    have hDc := hD.sub (ws' := []) [] (by decide) rfl
    have hFc := va_free (wc := []) hD hS hA [] rfl
    refine va_calli (va_runV (As := []) (rest := [.int (nI 13)]) ⟨hx, hb, hml, hown, hts⟩ (c_len_o_13 l D y H.size sx tx f) (cwV 0 hts gv_c_X0_pushText_13_c_len_o_13_56 rfl rfl rfl (by decide +kernel) ⟨(Nat.le_of_ble_eq_true rfl), (Nat.le_of_ble_eq_true rfl)⟩) (zB.preV hPc hDc hK hN hE hO hT hG hS hFc (fun _ h => nomatch h) (List.forall_mem_cons.mpr ⟨List.mem_of_getElem? (i := 0) rfl, (fun _ h => nomatch h)⟩) (fun _ h => nomatch h) (List.forall_mem_cons.mpr ⟨List.mem_of_getElem? (i := 0) rfl, (fun _ h => nomatch h)⟩) (zStr.recv (show zStr sx tx 13 f A s s.heap from (hG (.inr (.inl (sx, tx, 13, f))) (List.mem_of_getElem? (i := 0) rfl))) hS)) rfl rfl hl.1 rfl (lv_room (Nat.le_of_ble_eq_true rfl)) dX0_pushText_4 ⟨(Nat.le_of_ble_eq_true rfl), (Nat.le_of_ble_eq_true rfl)⟩) hS (fun q _ h => hFc q h) hFc (fun r4 u t H1 locs ht hvm hw hB hz1 hk1 hS => ?_)
    obtain ⟨hP1, hD1⟩ := hB
    rw [ht] at hP1
    obtain ⟨hP, hD⟩ := va_join (wr := [(h0, .inr (4, [.ref rr, w1, .int (nI (j + 13))])), (rr, .inl (y 0, N, .inl ge0))]) (w1 := []) hP hD [] [0, 1] rfl rfl (by decide) (by decide) hk1 hFc hP1 hD1
    generalize H1 = H at hP hS ⊢
    have hP : va_P D vwCl [(h0, .inr (4, [.ref rr, w1, .int (nI (j + 13))])), (rr, .inl (y 0, N, .inl ge0))] H := hP
    have hD : va_D A [(h0, .inr (4, [.ref rr, w1, .int (nI (j + 13))])), (rr, .inl (y 0, N, .inl ge0))] := hD
    have hw : r4 = 13 := hw
    subst hw
    refine lv_icmp_ge (tgt := 25) hx hb dX0_pushText_7 (by decide) (fun _ => ?_) (fun c9 => absurd (by decide) c9)
    have hP9 := hP.sub (ws' := [(h0, .inr (4, [.ref rr, w1, .int (nI (j + 13))])), (rr, .inl (y 0, N, .inl ge0))]) [0, 1] rfl
    have hD9 := hD.sub (ws' := [(h0, .inr (4, [.ref rr, w1, .int (nI (j + 13))])), (rr, .inl (y 0, N, .inl ge0))]) [0, 1] (by decide) rfl
    refine W.widen (k := 0) (n := 0) (Nat.le_of_ble_eq_true rfl) (Nat.le_of_ble_eq_true rfl) ?_
    exact W.vret hx hb hr (fun t ht hW => ⟨⟨(), rfl, trivial, ge0, by rw [ht]; exact hP9, hD9⟩, hS.F ht⟩) hS.2.2 dX0_pushText_25
def wz_c_X0_pushText_5 : List Cond := .code yX0_pushText cX0_pushText 3 none :: ([.methodLink RX0 56 yJ0_length_8abf5, .instanceMethod yJ0_length_8abf5, .selects RJ0 yJ0_length_8abf5 yJ0_length_8abf5, .initialized RJ0, .methodLink RX0 62 yJ0_charAt_5068e, .instanceMethod yJ0_charAt_5068e, .selects RJ0 yJ0_charAt_5068e yJ0_charAt_5068e, .methodLink RX0 29 yX0_push, .instanceMethod yX0_push, .selects RX0 yX0_push yX0_push, .initialized RX0] ++ (wz_c_len_o_5 ++ (wz_c_chr_o_5 ++ (wz_c_X0_push ++ ([])))))
set_option maxRecDepth 100000 in
theorem gz_c_X0_pushText_5_c_len_o_5 : GoodIn wz_c_X0_pushText_5 wz_c_len_o_5 := goodIn_sub (fun w h => List.mem_cons_of_mem _ (List.mem_append_right _ (List.mem_append_left _ h))) (by decide +kernel)
set_option maxRecDepth 100000 in
theorem gz_c_X0_pushText_5_c_chr_o_5 : GoodIn wz_c_X0_pushText_5 wz_c_chr_o_5 := goodIn_sub (fun w h => List.mem_cons_of_mem _ (List.mem_append_right _ (List.mem_append_right _ (List.mem_append_left _ h)))) (by decide +kernel)
set_option maxRecDepth 100000 in
theorem gz_c_X0_pushText_5_c_X0_push : GoodIn wz_c_X0_pushText_5 wz_c_X0_push := goodIn_sub (fun w h => List.mem_cons_of_mem _ (List.mem_append_right _ (List.mem_append_right _ (List.mem_append_right _ (List.mem_append_left _ h))))) (by decide +kernel)
set_option maxRecDepth 100000 in
theorem gv_c_X0_pushText_5_c_len_o_5_56 : GoodIn wz_c_X0_pushText_5 (wsV RX0 56 RJ0 yJ0_length_8abf5 wz_c_len_o_5) := goodIn_app (goodIn_of _ (by decide +kernel)) gz_c_X0_pushText_5_c_len_o_5
set_option maxRecDepth 100000 in
theorem gv_c_X0_pushText_5_c_chr_o_5_62 : GoodIn wz_c_X0_pushText_5 (wsV RX0 62 RJ0 yJ0_charAt_5068e wz_c_chr_o_5) := goodIn_app (goodIn_of _ (by decide +kernel)) gz_c_X0_pushText_5_c_chr_o_5
set_option maxRecDepth 100000 in
theorem gv_c_X0_pushText_5_c_X0_push_29 : GoodIn wz_c_X0_pushText_5 (wsV RX0 29 RX0 yX0_push wz_c_X0_push) := goodIn_app (goodIn_of _ (by decide +kernel)) gz_c_X0_pushText_5_c_X0_push
set_option maxHeartbeats 4000000 in
set_option maxRecDepth 100000 in
theorem ax_c_X0_pushText_5_0 : ∀ k1 : Nat, k1 < 5 → 0 ≤ k1 → ¬ (5 : Int32) ≤ (nI k1) := by decide +kernel
set_option maxHeartbeats 4000000 in
set_option maxRecDepth 100000 in
theorem ax_c_X0_pushText_5_1 : ∀ k1 : Nat, k1 < 5 → 0 ≤ k1 → nI k1 + Int32.ofInt 1 = nI (k1 + 1) := by decide +kernel
set_option maxHeartbeats 4000000 in
set_option maxRecDepth 100000 in
theorem c_X0_pushText_5 (l : Launch) (D : va_G) (y : Nat → ClassId) (sz : Nat) (h0 : Nat) (rr : Nat) (N : Nat) (j : Nat) (sx : Nat) (tx : Nat) (w1 : Value) (g : Nat → Int32) (f : Nat → Int32) (hjn : j + 5 ≤ N) (hN : N ≤ 4096) : Met l yX0_pushText wz_c_X0_pushText_5 ({ frames := 4, cells := 0, slots := 0, locals := 85 }) (va_Pc [.ref h0, .ref sx] (zB D y [(h0, .inr (4, [.ref rr, w1, .int (nI j)])), (rr, .inl (y 0, N, .inl g))] sz [] [("java/lang/String", "COMPACT_STRINGS", "Z", .int 1)] [] [.inr (.inl (sx, tx, 5, f)), .inr (.inr (.inr (.inr ("jdk/internal/util/Preconditions", "SIOOBE_FORMATTER", "Ljava/util/function/BiFunction;"))))])) (va_Qv (fun _ : Unit => True) (fun _ t => ∃ fz0 : Nat → Int32, va_P D vwCl [(h0, .inr (4, [.ref rr, w1, .int (nI (j + 5))])), (rr, .inl (y 0, N, .inl fz0))] t.heap ∧ va_D (va_A [(h0, .inr (4, [.ref rr, w1, .int (nI j)])), (rr, .inl (y 0, N, .inl g))] sz) [(h0, .inr (4, [.ref rr, w1, .int (nI (j + 5))])), (rr, .inl (y 0, N, .inl fz0))]) (va_A [(h0, .inr (4, [.ref rr, w1, .int (nI j)])), (rr, .inl (y 0, N, .inl g))] sz)) 0 0 (va_A [(h0, .inr (4, [.ref rr, w1, .int (nI j)])), (rr, .inl (y 0, N, .inl g))] sz) := by
  refine Met.ofW (cc := cX0_pushText) (maxL := 3) (ret := none) (by decide) rfl ?_
  intro p e s m args below meth c s₁ B hml hv
  obtain ⟨rfl, hsz, hP, hK, hD0, hN, hE, hO, hT, hG⟩ := hv
  have hx := B.exec
  have hb := B.bytes
  have hr := B.returns
  have hts := atoms_spec (ws := wz_c_X0_pushText_5) B.pre
  have hown : s.vm.findClass RX0 = some m.cls := findClass_of_methodNamed B.named
  have hlocks := B.notSynchronized
  subst hsz
  have hD := hD0.self (sz := s.heap.size)
  generalize hAe : va_A [(h0, .inr (4, [.ref rr, w1, .int (nI j)])), (rr, .inl (y 0, N, .inl g))] s.heap.size = A at hD hE hT hG ⊢
  have hA : ∀ q : Nat, s.heap.size ≤ q → A q := fun q h => by rw [← hAe]; exact Or.inr h
  have hS : va_S A s.heap s.heap [] := va_S.rf
  have hl := lv_entry ([.ref h0, .ref sx]) (n := 3) (Nat.le_of_ble_eq_true rfl)
  rw [lg_entry_eq]
  generalize (lg_sl ([.ref h0, .ref sx]) ++ List.replicate (3 - (lg_sl ([.ref h0, .ref sx])).length) Slot.unset).toArray = ls at hl ⊢
  have hl : lv_has ls 3 [(0, .ref h0), (1, .ref sx)] := hl
  refine lv_iconst (v := 0) hx hb dX0_pushText_0 (by decide) ?_
  refine lv_istore_n (lv' := [(2, .int 0), (0, .ref h0), (1, .ref sx)]) hx hb dX0_pushText_1 rfl hl (by decide) rfl (fun ls hl => ?_)
  have hl : lv_has ls 3 [(2, .int (nI 0)), (0, .ref h0), (1, .ref sx)] := lv_sub hl [0, 1, 2] rfl
  refine zz_loop (I := fun (k1 : Nat) (ls : Array Slot) (H : Heap) (locs : List Loc) => ∃ ge0 : Nat → Int32, va_P D vwCl [(h0, .inr (4, [.ref rr, w1, .int (nI (j + k1))])), (rr, .inl (y 0, N, .inl ge0))] H ∧ va_D A [(h0, .inr (4, [.ref rr, w1, .int (nI (j + k1))])), (rr, .inl (y 0, N, .inl ge0))] ∧ va_S A s.heap H locs ∧ lv_has ls 3 [(2, .int (nI k1)), (0, .ref h0), (1, .ref sx)]) 0 5 (by decide) ⟨_, hP, hD, hS, hl⟩ (fun k1 ls H locs hk10 hk11 hI ih => ?_) (fun ls H locs hI => ?_)
  · obtain ⟨ge0, hP, hD, hS, hl⟩ := hI
    have hl : lv_has ls 3 [(2, .int (nI k1)), (0, .ref h0), (1, .ref sx)] := hl
    have hP : va_P D vwCl [(h0, .inr (4, [.ref rr, w1, .int (nI (j + k1))])), (rr, .inl (y 0, N, .inl ge0))] H := hP
    have hD : va_D A [(h0, .inr (4, [.ref rr, w1, .int (nI (j + k1))])), (rr, .inl (y 0, N, .inl ge0))] := hD
    refine lv_iload_n hx hb dX0_pushText_2 rfl (lv_at hl 0 rfl) ?_
    refine lv_aload_n hx hb dX0_pushText_3 rfl (lv_at hl 2 rfl) ?_
    have hPc := hP.sub (ws' := []) [] rfl
    have hDc := hD.sub (ws' := []) [] (by decide) rfl
    have hFc := va_free (wc := []) hD hS hA [] rfl
    refine va_calli (va_runV (As := []) (rest := [.int (nI k1)]) ⟨hx, hb, hml, hown, hts⟩ (c_len_o_5 l D y H.size sx tx f) (cwV 0 hts gv_c_X0_pushText_5_c_len_o_5_56 rfl rfl rfl (by decide +kernel) ⟨(Nat.le_of_ble_eq_true rfl), (Nat.le_of_ble_eq_true rfl)⟩) (zB.preV hPc hDc hK hN hE hO hT hG hS hFc (fun _ h => nomatch h) (List.forall_mem_cons.mpr ⟨List.mem_of_getElem? (i := 0) rfl, (fun _ h => nomatch h)⟩) (fun _ h => nomatch h) (List.forall_mem_cons.mpr ⟨List.mem_of_getElem? (i := 0) rfl, (fun _ h => nomatch h)⟩) (zStr.recv (show zStr sx tx 5 f A s s.heap from (hG (.inr (.inl (sx, tx, 5, f))) (List.mem_of_getElem? (i := 0) rfl))) hS)) rfl rfl hl.1 rfl (lv_room (Nat.le_of_ble_eq_true rfl)) dX0_pushText_4 ⟨(Nat.le_of_ble_eq_true rfl), (Nat.le_of_ble_eq_true rfl)⟩) hS (fun q _ h => hFc q h) hFc (fun r1 u t H1 locs ht hvm hw hB hz1 hk1 hS => ?_)
    obtain ⟨hP1, hD1⟩ := hB
    rw [ht] at hP1
    obtain ⟨hP, hD⟩ := va_join (wr := [(h0, .inr (4, [.ref rr, w1, .int (nI (j + k1))])), (rr, .inl (y 0, N, .inl ge0))]) (w1 := []) hP hD [] [0, 1] rfl rfl (by decide) (by decide) hk1 hFc hP1 hD1
    generalize H1 = H at hP hS ⊢
    have hP : va_P D vwCl [(h0, .inr (4, [.ref rr, w1, .int (nI (j + k1))])), (rr, .inl (y 0, N, .inl ge0))] H := hP
    have hD : va_D A [(h0, .inr (4, [.ref rr, w1, .int (nI (j + k1))])), (rr, .inl (y 0, N, .inl ge0))] := hD
    have hw : r1 = 5 := hw
    subst hw
    refine lv_icmp_ge (tgt := 25) hx hb dX0_pushText_7 (by decide) (fun c9 => absurd c9 (ax_c_X0_pushText_5_0 k1 hk11 hk10)) (fun _ => ?_)
    refine lv_aload_n hx hb dX0_pushText_10 rfl (lv_at hl 1 rfl) ?_
    refine lv_aload_n hx hb dX0_pushText_11 rfl (lv_at hl 2 rfl) ?_
    refine lv_iload_n hx hb dX0_pushText_12 rfl (lv_at hl 0 rfl) ?_
    have hPc := hP.sub (ws' := []) [] rfl
    have hDc := hD.sub (ws' := []) [] (by decide) rfl
    have hFc := va_free (wc := []) hD hS hA [] rfl
    refine va_calli (va_runV (As := [.int (nI k1)]) (rest := [.ref h0]) ⟨hx, hb, hml, hown, hts⟩ (c_chr_o_5 l D y H.size k1 sx tx f (by omega)) (cwV 1 hts gv_c_X0_pushText_5_c_chr_o_5_62 rfl rfl rfl (by decide +kernel) ⟨(Nat.le_of_ble_eq_true rfl), (Nat.le_of_ble_eq_true rfl)⟩) (zB.preV hPc hDc hK hN hE hO hT hG hS hFc (fun _ h => nomatch h) (List.forall_mem_cons.mpr ⟨List.mem_of_getElem? (i := 0) rfl, (fun _ h => nomatch h)⟩) (fun _ h => nomatch h) (List.forall_mem_cons.mpr ⟨List.mem_of_getElem? (i := 0) rfl, (List.forall_mem_cons.mpr ⟨List.mem_of_getElem? (i := 1) rfl, (fun _ h => nomatch h)⟩)⟩) (zStr.recv (show zStr sx tx 5 f A s s.heap from (hG (.inr (.inl (sx, tx, 5, f))) (List.mem_of_getElem? (i := 0) rfl))) hS)) rfl rfl hl.1 rfl (lv_room (Nat.le_of_ble_eq_true rfl)) dX0_pushText_13 ⟨(Nat.le_of_ble_eq_true rfl), (Nat.le_of_ble_eq_true rfl)⟩) hS (fun q _ h => hFc q h) hFc (fun r2 u t H1 locs ht hvm hw hB hz1 hk1 hS => ?_)
    obtain ⟨hP1, hD1⟩ := hB
    rw [ht] at hP1
    obtain ⟨hP, hD⟩ := va_join (wr := [(h0, .inr (4, [.ref rr, w1, .int (nI (j + k1))])), (rr, .inl (y 0, N, .inl ge0))]) (w1 := []) hP hD [] [0, 1] rfl rfl (by decide) (by decide) hk1 hFc hP1 hD1
    generalize H1 = H at hP hS ⊢
    have hP : va_P D vwCl [(h0, .inr (4, [.ref rr, w1, .int (nI (j + k1))])), (rr, .inl (y 0, N, .inl ge0))] H := hP
    have hD : va_D A [(h0, .inr (4, [.ref rr, w1, .int (nI (j + k1))])), (rr, .inl (y 0, N, .inl ge0))] := hD
    have hw : r2 = (f k1) &&& (255 : Int32) := hw
    subst hw
    have hPc := hP.sub (ws' := [(h0, .inr (4, [.ref rr, w1, .int (nI (j + k1))])), (rr, .inl (y 0, N, .inl ge0))]) [0, 1] rfl
    have hDc := hD.sub (ws' := [(h0, .inr (4, [.ref rr, w1, .int (nI (j + k1))])), (rr, .inl (y 0, N, .inl ge0))]) [0, 1] (by decide) rfl
    have hFc := va_free (wc := [(h0, .inr (4, [.ref rr, w1, .int (nI (j + k1))])), (rr, .inl (y 0, N, .inl ge0))]) hD hS hA [0, 1] rfl
    refine va_callv (va_runV (As := [.int ((f k1) &&& (255 : Int32))]) (rest := []) ⟨hx, hb, hml, hown, hts⟩ (c_X0_push l D y H.size h0 rr N ((j + k1)) w1 ge0 ((f k1) &&& (255 : Int32)) (by omega) (by omega)) (cwV 1 hts gv_c_X0_pushText_5_c_X0_push_29 rfl rfl rfl (by decide +kernel) ⟨(Nat.le_of_ble_eq_true rfl), (Nat.le_of_ble_eq_true rfl)⟩) (zB.preV hPc hDc hK hN hE hO hT hG hS hFc (fun _ h => nomatch h) (fun _ h => nomatch h) (fun _ h => nomatch h) (fun _ h => nomatch h) (va_recv hK hPc (ci := 4) (q0 := 0) rfl rfl)) rfl rfl hl.1 rfl (lv_room (Nat.le_of_ble_eq_true rfl)) dX0_pushText_16 ⟨(Nat.le_of_ble_eq_true rfl), (Nat.le_of_ble_eq_true rfl)⟩) hS (fun q _ h => hFc q h) hFc (fun u t H1 locs ht hvm hw hB hz1 hk1 hS => ?_)
    obtain ⟨f3, hP1, hD1⟩ := hB
    rw [ht] at hP1
    obtain ⟨hP, hD⟩ := va_join (wr := []) (w1 := [(h0, .inr (4, [.ref rr, w1, .int (nI ((j + k1) + 1))])), (rr, .inl (y 0, N, .inl f3))]) hP hD [0, 1] [] rfl rfl (by decide) (by decide) hk1 hFc hP1 hD1
    generalize H1 = H at hP hS ⊢
    have hP : va_P D vwCl [(h0, .inr (4, [.ref rr, w1, .int (nI ((j + k1) + 1))])), (rr, .inl (y 0, N, .inl f3))] H := hP
    have hD : va_D A [(h0, .inr (4, [.ref rr, w1, .int (nI ((j + k1) + 1))])), (rr, .inl (y 0, N, .inl f3))] := hD
    refine lv_iinc (v := nI (k1 + 1)) (lv' := [(2, .int (nI (k1 + 1))), (0, .ref h0), (1, .ref sx)]) hx hb dX0_pushText_19 hl (k := 0) rfl (ax_c_X0_pushText_5_1 k1 hk11 hk10) (by decide) rfl (fun ls hl => ?_)
    refine lv_goto (tgt := 2) hx hb dX0_pushText_22 (by decide) ?_
    exact ih ls H locs ⟨_, hP, hD, hS, lv_sub hl [0, 1, 2] rfl⟩
  · obtain ⟨ge0, hP, hD, hS, hl⟩ := hI
    have hl : lv_has ls 3 [(2, .int (nI 5)), (0, .ref h0), (1, .ref sx)] := hl
    have hP : va_P D vwCl [(h0, .inr (4, [.ref rr, w1, .int (nI (j + 5))])), (rr, .inl (y 0, N, .inl ge0))] H := hP
    have hD : va_D A [(h0, .inr (4, [.ref rr, w1, .int (nI (j + 5))])), (rr, .inl (y 0, N, .inl ge0))] := hD
    refine lv_iload_n hx hb dX0_pushText_2 rfl (lv_at hl 0 rfl) ?_
    refine lv_aload_n hx hb dX0_pushText_3 rfl (lv_at hl 2 rfl) ?_
    have hPc := hP.sub (ws' := []) [] rfl
    have hDc := hD.sub (ws' := []) [] (by decide) rfl
    have hFc := va_free (wc := []) hD hS hA [] rfl
    refine va_calli (va_runV (As := []) (rest := [.int (nI 5)]) ⟨hx, hb, hml, hown, hts⟩ (c_len_o_5 l D y H.size sx tx f) (cwV 0 hts gv_c_X0_pushText_5_c_len_o_5_56 rfl rfl rfl (by decide +kernel) ⟨(Nat.le_of_ble_eq_true rfl), (Nat.le_of_ble_eq_true rfl)⟩) (zB.preV hPc hDc hK hN hE hO hT hG hS hFc (fun _ h => nomatch h) (List.forall_mem_cons.mpr ⟨List.mem_of_getElem? (i := 0) rfl, (fun _ h => nomatch h)⟩) (fun _ h => nomatch h) (List.forall_mem_cons.mpr ⟨List.mem_of_getElem? (i := 0) rfl, (fun _ h => nomatch h)⟩) (zStr.recv (show zStr sx tx 5 f A s s.heap from (hG (.inr (.inl (sx, tx, 5, f))) (List.mem_of_getElem? (i := 0) rfl))) hS)) rfl rfl hl.1 rfl (lv_room (Nat.le_of_ble_eq_true rfl)) dX0_pushText_4 ⟨(Nat.le_of_ble_eq_true rfl), (Nat.le_of_ble_eq_true rfl)⟩) hS (fun q _ h => hFc q h) hFc (fun r4 u t H1 locs ht hvm hw hB hz1 hk1 hS => ?_)
    obtain ⟨hP1, hD1⟩ := hB
    rw [ht] at hP1
    obtain ⟨hP, hD⟩ := va_join (wr := [(h0, .inr (4, [.ref rr, w1, .int (nI (j + 5))])), (rr, .inl (y 0, N, .inl ge0))]) (w1 := []) hP hD [] [0, 1] rfl rfl (by decide) (by decide) hk1 hFc hP1 hD1
    generalize H1 = H at hP hS ⊢
    have hP : va_P D vwCl [(h0, .inr (4, [.ref rr, w1, .int (nI (j + 5))])), (rr, .inl (y 0, N, .inl ge0))] H := hP
    have hD : va_D A [(h0, .inr (4, [.ref rr, w1, .int (nI (j + 5))])), (rr, .inl (y 0, N, .inl ge0))] := hD
    have hw : r4 = 5 := hw
    subst hw
    refine lv_icmp_ge (tgt := 25) hx hb dX0_pushText_7 (by decide) (fun _ => ?_) (fun c9 => absurd (by decide) c9)
    have hP9 := hP.sub (ws' := [(h0, .inr (4, [.ref rr, w1, .int (nI (j + 5))])), (rr, .inl (y 0, N, .inl ge0))]) [0, 1] rfl
    have hD9 := hD.sub (ws' := [(h0, .inr (4, [.ref rr, w1, .int (nI (j + 5))])), (rr, .inl (y 0, N, .inl ge0))]) [0, 1] (by decide) rfl
    refine W.widen (k := 0) (n := 0) (Nat.le_of_ble_eq_true rfl) (Nat.le_of_ble_eq_true rfl) ?_
    exact W.vret hx hb hr (fun t ht hW => ⟨⟨(), rfl, trivial, ge0, by rw [ht]; exact hP9, hD9⟩, hS.F ht⟩) hS.2.2 dX0_pushText_25
def wz_c_X0_pushText_9 : List Cond := .code yX0_pushText cX0_pushText 3 none :: ([.methodLink RX0 56 yJ0_length_8abf5, .instanceMethod yJ0_length_8abf5, .selects RJ0 yJ0_length_8abf5 yJ0_length_8abf5, .initialized RJ0, .methodLink RX0 62 yJ0_charAt_5068e, .instanceMethod yJ0_charAt_5068e, .selects RJ0 yJ0_charAt_5068e yJ0_charAt_5068e, .methodLink RX0 29 yX0_push, .instanceMethod yX0_push, .selects RX0 yX0_push yX0_push, .initialized RX0] ++ (wz_c_len_o_9 ++ (wz_c_chr_o_9 ++ (wz_c_X0_push ++ ([])))))
set_option maxRecDepth 100000 in
theorem gz_c_X0_pushText_9_c_len_o_9 : GoodIn wz_c_X0_pushText_9 wz_c_len_o_9 := goodIn_sub (fun w h => List.mem_cons_of_mem _ (List.mem_append_right _ (List.mem_append_left _ h))) (by decide +kernel)
set_option maxRecDepth 100000 in
theorem gz_c_X0_pushText_9_c_chr_o_9 : GoodIn wz_c_X0_pushText_9 wz_c_chr_o_9 := goodIn_sub (fun w h => List.mem_cons_of_mem _ (List.mem_append_right _ (List.mem_append_right _ (List.mem_append_left _ h)))) (by decide +kernel)
set_option maxRecDepth 100000 in
theorem gz_c_X0_pushText_9_c_X0_push : GoodIn wz_c_X0_pushText_9 wz_c_X0_push := goodIn_sub (fun w h => List.mem_cons_of_mem _ (List.mem_append_right _ (List.mem_append_right _ (List.mem_append_right _ (List.mem_append_left _ h))))) (by decide +kernel)
set_option maxRecDepth 100000 in
theorem gv_c_X0_pushText_9_c_len_o_9_56 : GoodIn wz_c_X0_pushText_9 (wsV RX0 56 RJ0 yJ0_length_8abf5 wz_c_len_o_9) := goodIn_app (goodIn_of _ (by decide +kernel)) gz_c_X0_pushText_9_c_len_o_9
set_option maxRecDepth 100000 in
theorem gv_c_X0_pushText_9_c_chr_o_9_62 : GoodIn wz_c_X0_pushText_9 (wsV RX0 62 RJ0 yJ0_charAt_5068e wz_c_chr_o_9) := goodIn_app (goodIn_of _ (by decide +kernel)) gz_c_X0_pushText_9_c_chr_o_9
set_option maxRecDepth 100000 in
theorem gv_c_X0_pushText_9_c_X0_push_29 : GoodIn wz_c_X0_pushText_9 (wsV RX0 29 RX0 yX0_push wz_c_X0_push) := goodIn_app (goodIn_of _ (by decide +kernel)) gz_c_X0_pushText_9_c_X0_push
set_option maxHeartbeats 4000000 in
set_option maxRecDepth 100000 in
theorem ax_c_X0_pushText_9_0 : ∀ k1 : Nat, k1 < 9 → 0 ≤ k1 → ¬ (9 : Int32) ≤ (nI k1) := by decide +kernel
set_option maxHeartbeats 4000000 in
set_option maxRecDepth 100000 in
theorem ax_c_X0_pushText_9_1 : ∀ k1 : Nat, k1 < 9 → 0 ≤ k1 → nI k1 + Int32.ofInt 1 = nI (k1 + 1) := by decide +kernel
set_option maxHeartbeats 4000000 in
set_option maxRecDepth 100000 in
theorem c_X0_pushText_9 (l : Launch) (D : va_G) (y : Nat → ClassId) (sz : Nat) (h0 : Nat) (rr : Nat) (N : Nat) (j : Nat) (sx : Nat) (tx : Nat) (w1 : Value) (g : Nat → Int32) (f : Nat → Int32) (hjn : j + 9 ≤ N) (hN : N ≤ 4096) : Met l yX0_pushText wz_c_X0_pushText_9 ({ frames := 4, cells := 0, slots := 0, locals := 85 }) (va_Pc [.ref h0, .ref sx] (zB D y [(h0, .inr (4, [.ref rr, w1, .int (nI j)])), (rr, .inl (y 0, N, .inl g))] sz [] [("java/lang/String", "COMPACT_STRINGS", "Z", .int 1)] [] [.inr (.inl (sx, tx, 9, f)), .inr (.inr (.inr (.inr ("jdk/internal/util/Preconditions", "SIOOBE_FORMATTER", "Ljava/util/function/BiFunction;"))))])) (va_Qv (fun _ : Unit => True) (fun _ t => ∃ fz0 : Nat → Int32, va_P D vwCl [(h0, .inr (4, [.ref rr, w1, .int (nI (j + 9))])), (rr, .inl (y 0, N, .inl fz0))] t.heap ∧ va_D (va_A [(h0, .inr (4, [.ref rr, w1, .int (nI j)])), (rr, .inl (y 0, N, .inl g))] sz) [(h0, .inr (4, [.ref rr, w1, .int (nI (j + 9))])), (rr, .inl (y 0, N, .inl fz0))]) (va_A [(h0, .inr (4, [.ref rr, w1, .int (nI j)])), (rr, .inl (y 0, N, .inl g))] sz)) 0 0 (va_A [(h0, .inr (4, [.ref rr, w1, .int (nI j)])), (rr, .inl (y 0, N, .inl g))] sz) := by
  refine Met.ofW (cc := cX0_pushText) (maxL := 3) (ret := none) (by decide) rfl ?_
  intro p e s m args below meth c s₁ B hml hv
  obtain ⟨rfl, hsz, hP, hK, hD0, hN, hE, hO, hT, hG⟩ := hv
  have hx := B.exec
  have hb := B.bytes
  have hr := B.returns
  have hts := atoms_spec (ws := wz_c_X0_pushText_9) B.pre
  have hown : s.vm.findClass RX0 = some m.cls := findClass_of_methodNamed B.named
  have hlocks := B.notSynchronized
  subst hsz
  have hD := hD0.self (sz := s.heap.size)
  generalize hAe : va_A [(h0, .inr (4, [.ref rr, w1, .int (nI j)])), (rr, .inl (y 0, N, .inl g))] s.heap.size = A at hD hE hT hG ⊢
  have hA : ∀ q : Nat, s.heap.size ≤ q → A q := fun q h => by rw [← hAe]; exact Or.inr h
  have hS : va_S A s.heap s.heap [] := va_S.rf
  have hl := lv_entry ([.ref h0, .ref sx]) (n := 3) (Nat.le_of_ble_eq_true rfl)
  rw [lg_entry_eq]
  generalize (lg_sl ([.ref h0, .ref sx]) ++ List.replicate (3 - (lg_sl ([.ref h0, .ref sx])).length) Slot.unset).toArray = ls at hl ⊢
  have hl : lv_has ls 3 [(0, .ref h0), (1, .ref sx)] := hl
  refine lv_iconst (v := 0) hx hb dX0_pushText_0 (by decide) ?_
  refine lv_istore_n (lv' := [(2, .int 0), (0, .ref h0), (1, .ref sx)]) hx hb dX0_pushText_1 rfl hl (by decide) rfl (fun ls hl => ?_)
  have hl : lv_has ls 3 [(2, .int (nI 0)), (0, .ref h0), (1, .ref sx)] := lv_sub hl [0, 1, 2] rfl
  refine zz_loop (I := fun (k1 : Nat) (ls : Array Slot) (H : Heap) (locs : List Loc) => ∃ ge0 : Nat → Int32, va_P D vwCl [(h0, .inr (4, [.ref rr, w1, .int (nI (j + k1))])), (rr, .inl (y 0, N, .inl ge0))] H ∧ va_D A [(h0, .inr (4, [.ref rr, w1, .int (nI (j + k1))])), (rr, .inl (y 0, N, .inl ge0))] ∧ va_S A s.heap H locs ∧ lv_has ls 3 [(2, .int (nI k1)), (0, .ref h0), (1, .ref sx)]) 0 9 (by decide) ⟨_, hP, hD, hS, hl⟩ (fun k1 ls H locs hk10 hk11 hI ih => ?_) (fun ls H locs hI => ?_)
  · obtain ⟨ge0, hP, hD, hS, hl⟩ := hI
    have hl : lv_has ls 3 [(2, .int (nI k1)), (0, .ref h0), (1, .ref sx)] := hl
    have hP : va_P D vwCl [(h0, .inr (4, [.ref rr, w1, .int (nI (j + k1))])), (rr, .inl (y 0, N, .inl ge0))] H := hP
    have hD : va_D A [(h0, .inr (4, [.ref rr, w1, .int (nI (j + k1))])), (rr, .inl (y 0, N, .inl ge0))] := hD
    refine lv_iload_n hx hb dX0_pushText_2 rfl (lv_at hl 0 rfl) ?_
    refine lv_aload_n hx hb dX0_pushText_3 rfl (lv_at hl 2 rfl) ?_
    have hPc := hP.sub (ws' := []) [] rfl
    have hDc := hD.sub (ws' := []) [] (by decide) rfl
    have hFc := va_free (wc := []) hD hS hA [] rfl
    refine va_calli (va_runV (As := []) (rest := [.int (nI k1)]) ⟨hx, hb, hml, hown, hts⟩ (c_len_o_9 l D y H.size sx tx f) (cwV 0 hts gv_c_X0_pushText_9_c_len_o_9_56 rfl rfl rfl (by decide +kernel) ⟨(Nat.le_of_ble_eq_true rfl), (Nat.le_of_ble_eq_true rfl)⟩) (zB.preV hPc hDc hK hN hE hO hT hG hS hFc (fun _ h => nomatch h) (List.forall_mem_cons.mpr ⟨List.mem_of_getElem? (i := 0) rfl, (fun _ h => nomatch h)⟩) (fun _ h => nomatch h) (List.forall_mem_cons.mpr ⟨List.mem_of_getElem? (i := 0) rfl, (fun _ h => nomatch h)⟩) (zStr.recv (show zStr sx tx 9 f A s s.heap from (hG (.inr (.inl (sx, tx, 9, f))) (List.mem_of_getElem? (i := 0) rfl))) hS)) rfl rfl hl.1 rfl (lv_room (Nat.le_of_ble_eq_true rfl)) dX0_pushText_4 ⟨(Nat.le_of_ble_eq_true rfl), (Nat.le_of_ble_eq_true rfl)⟩) hS (fun q _ h => hFc q h) hFc (fun r1 u t H1 locs ht hvm hw hB hz1 hk1 hS => ?_)
    obtain ⟨hP1, hD1⟩ := hB
    rw [ht] at hP1
    obtain ⟨hP, hD⟩ := va_join (wr := [(h0, .inr (4, [.ref rr, w1, .int (nI (j + k1))])), (rr, .inl (y 0, N, .inl ge0))]) (w1 := []) hP hD [] [0, 1] rfl rfl (by decide) (by decide) hk1 hFc hP1 hD1
    generalize H1 = H at hP hS ⊢
    have hP : va_P D vwCl [(h0, .inr (4, [.ref rr, w1, .int (nI (j + k1))])), (rr, .inl (y 0, N, .inl ge0))] H := hP
    have hD : va_D A [(h0, .inr (4, [.ref rr, w1, .int (nI (j + k1))])), (rr, .inl (y 0, N, .inl ge0))] := hD
    have hw : r1 = 9 := hw
    subst hw
    refine lv_icmp_ge (tgt := 25) hx hb dX0_pushText_7 (by decide) (fun c9 => absurd c9 (ax_c_X0_pushText_9_0 k1 hk11 hk10)) (fun _ => ?_)
    refine lv_aload_n hx hb dX0_pushText_10 rfl (lv_at hl 1 rfl) ?_
    refine lv_aload_n hx hb dX0_pushText_11 rfl (lv_at hl 2 rfl) ?_
    refine lv_iload_n hx hb dX0_pushText_12 rfl (lv_at hl 0 rfl) ?_
    have hPc := hP.sub (ws' := []) [] rfl
    have hDc := hD.sub (ws' := []) [] (by decide) rfl
    have hFc := va_free (wc := []) hD hS hA [] rfl
    refine va_calli (va_runV (As := [.int (nI k1)]) (rest := [.ref h0]) ⟨hx, hb, hml, hown, hts⟩ (c_chr_o_9 l D y H.size k1 sx tx f (by omega)) (cwV 1 hts gv_c_X0_pushText_9_c_chr_o_9_62 rfl rfl rfl (by decide +kernel) ⟨(Nat.le_of_ble_eq_true rfl), (Nat.le_of_ble_eq_true rfl)⟩) (zB.preV hPc hDc hK hN hE hO hT hG hS hFc (fun _ h => nomatch h) (List.forall_mem_cons.mpr ⟨List.mem_of_getElem? (i := 0) rfl, (fun _ h => nomatch h)⟩) (fun _ h => nomatch h) (List.forall_mem_cons.mpr ⟨List.mem_of_getElem? (i := 0) rfl, (List.forall_mem_cons.mpr ⟨List.mem_of_getElem? (i := 1) rfl, (fun _ h => nomatch h)⟩)⟩) (zStr.recv (show zStr sx tx 9 f A s s.heap from (hG (.inr (.inl (sx, tx, 9, f))) (List.mem_of_getElem? (i := 0) rfl))) hS)) rfl rfl hl.1 rfl (lv_room (Nat.le_of_ble_eq_true rfl)) dX0_pushText_13 ⟨(Nat.le_of_ble_eq_true rfl), (Nat.le_of_ble_eq_true rfl)⟩) hS (fun q _ h => hFc q h) hFc (fun r2 u t H1 locs ht hvm hw hB hz1 hk1 hS => ?_)
    obtain ⟨hP1, hD1⟩ := hB
    rw [ht] at hP1
    obtain ⟨hP, hD⟩ := va_join (wr := [(h0, .inr (4, [.ref rr, w1, .int (nI (j + k1))])), (rr, .inl (y 0, N, .inl ge0))]) (w1 := []) hP hD [] [0, 1] rfl rfl (by decide) (by decide) hk1 hFc hP1 hD1
    generalize H1 = H at hP hS ⊢
    have hP : va_P D vwCl [(h0, .inr (4, [.ref rr, w1, .int (nI (j + k1))])), (rr, .inl (y 0, N, .inl ge0))] H := hP
    have hD : va_D A [(h0, .inr (4, [.ref rr, w1, .int (nI (j + k1))])), (rr, .inl (y 0, N, .inl ge0))] := hD
    have hw : r2 = (f k1) &&& (255 : Int32) := hw
    subst hw
    have hPc := hP.sub (ws' := [(h0, .inr (4, [.ref rr, w1, .int (nI (j + k1))])), (rr, .inl (y 0, N, .inl ge0))]) [0, 1] rfl
    have hDc := hD.sub (ws' := [(h0, .inr (4, [.ref rr, w1, .int (nI (j + k1))])), (rr, .inl (y 0, N, .inl ge0))]) [0, 1] (by decide) rfl
    have hFc := va_free (wc := [(h0, .inr (4, [.ref rr, w1, .int (nI (j + k1))])), (rr, .inl (y 0, N, .inl ge0))]) hD hS hA [0, 1] rfl
    refine va_callv (va_runV (As := [.int ((f k1) &&& (255 : Int32))]) (rest := []) ⟨hx, hb, hml, hown, hts⟩ (c_X0_push l D y H.size h0 rr N ((j + k1)) w1 ge0 ((f k1) &&& (255 : Int32)) (by omega) (by omega)) (cwV 1 hts gv_c_X0_pushText_9_c_X0_push_29 rfl rfl rfl (by decide +kernel) ⟨(Nat.le_of_ble_eq_true rfl), (Nat.le_of_ble_eq_true rfl)⟩) (zB.preV hPc hDc hK hN hE hO hT hG hS hFc (fun _ h => nomatch h) (fun _ h => nomatch h) (fun _ h => nomatch h) (fun _ h => nomatch h) (va_recv hK hPc (ci := 4) (q0 := 0) rfl rfl)) rfl rfl hl.1 rfl (lv_room (Nat.le_of_ble_eq_true rfl)) dX0_pushText_16 ⟨(Nat.le_of_ble_eq_true rfl), (Nat.le_of_ble_eq_true rfl)⟩) hS (fun q _ h => hFc q h) hFc (fun u t H1 locs ht hvm hw hB hz1 hk1 hS => ?_)
    obtain ⟨f3, hP1, hD1⟩ := hB
    rw [ht] at hP1
    obtain ⟨hP, hD⟩ := va_join (wr := []) (w1 := [(h0, .inr (4, [.ref rr, w1, .int (nI ((j + k1) + 1))])), (rr, .inl (y 0, N, .inl f3))]) hP hD [0, 1] [] rfl rfl (by decide) (by decide) hk1 hFc hP1 hD1
    generalize H1 = H at hP hS ⊢
    have hP : va_P D vwCl [(h0, .inr (4, [.ref rr, w1, .int (nI ((j + k1) + 1))])), (rr, .inl (y 0, N, .inl f3))] H := hP
    have hD : va_D A [(h0, .inr (4, [.ref rr, w1, .int (nI ((j + k1) + 1))])), (rr, .inl (y 0, N, .inl f3))] := hD
    refine lv_iinc (v := nI (k1 + 1)) (lv' := [(2, .int (nI (k1 + 1))), (0, .ref h0), (1, .ref sx)]) hx hb dX0_pushText_19 hl (k := 0) rfl (ax_c_X0_pushText_9_1 k1 hk11 hk10) (by decide) rfl (fun ls hl => ?_)
    refine lv_goto (tgt := 2) hx hb dX0_pushText_22 (by decide) ?_
    exact ih ls H locs ⟨_, hP, hD, hS, lv_sub hl [0, 1, 2] rfl⟩
  · obtain ⟨ge0, hP, hD, hS, hl⟩ := hI
    have hl : lv_has ls 3 [(2, .int (nI 9)), (0, .ref h0), (1, .ref sx)] := hl
    have hP : va_P D vwCl [(h0, .inr (4, [.ref rr, w1, .int (nI (j + 9))])), (rr, .inl (y 0, N, .inl ge0))] H := hP
    have hD : va_D A [(h0, .inr (4, [.ref rr, w1, .int (nI (j + 9))])), (rr, .inl (y 0, N, .inl ge0))] := hD
    refine lv_iload_n hx hb dX0_pushText_2 rfl (lv_at hl 0 rfl) ?_
    refine lv_aload_n hx hb dX0_pushText_3 rfl (lv_at hl 2 rfl) ?_
    have hPc := hP.sub (ws' := []) [] rfl
    have hDc := hD.sub (ws' := []) [] (by decide) rfl
    have hFc := va_free (wc := []) hD hS hA [] rfl
    refine va_calli (va_runV (As := []) (rest := [.int (nI 9)]) ⟨hx, hb, hml, hown, hts⟩ (c_len_o_9 l D y H.size sx tx f) (cwV 0 hts gv_c_X0_pushText_9_c_len_o_9_56 rfl rfl rfl (by decide +kernel) ⟨(Nat.le_of_ble_eq_true rfl), (Nat.le_of_ble_eq_true rfl)⟩) (zB.preV hPc hDc hK hN hE hO hT hG hS hFc (fun _ h => nomatch h) (List.forall_mem_cons.mpr ⟨List.mem_of_getElem? (i := 0) rfl, (fun _ h => nomatch h)⟩) (fun _ h => nomatch h) (List.forall_mem_cons.mpr ⟨List.mem_of_getElem? (i := 0) rfl, (fun _ h => nomatch h)⟩) (zStr.recv (show zStr sx tx 9 f A s s.heap from (hG (.inr (.inl (sx, tx, 9, f))) (List.mem_of_getElem? (i := 0) rfl))) hS)) rfl rfl hl.1 rfl (lv_room (Nat.le_of_ble_eq_true rfl)) dX0_pushText_4 ⟨(Nat.le_of_ble_eq_true rfl), (Nat.le_of_ble_eq_true rfl)⟩) hS (fun q _ h => hFc q h) hFc (fun r4 u t H1 locs ht hvm hw hB hz1 hk1 hS => ?_)
    obtain ⟨hP1, hD1⟩ := hB
    rw [ht] at hP1
    obtain ⟨hP, hD⟩ := va_join (wr := [(h0, .inr (4, [.ref rr, w1, .int (nI (j + 9))])), (rr, .inl (y 0, N, .inl ge0))]) (w1 := []) hP hD [] [0, 1] rfl rfl (by decide) (by decide) hk1 hFc hP1 hD1
    generalize H1 = H at hP hS ⊢
    have hP : va_P D vwCl [(h0, .inr (4, [.ref rr, w1, .int (nI (j + 9))])), (rr, .inl (y 0, N, .inl ge0))] H := hP
    have hD : va_D A [(h0, .inr (4, [.ref rr, w1, .int (nI (j + 9))])), (rr, .inl (y 0, N, .inl ge0))] := hD
    have hw : r4 = 9 := hw
    subst hw
    refine lv_icmp_ge (tgt := 25) hx hb dX0_pushText_7 (by decide) (fun _ => ?_) (fun c9 => absurd (by decide) c9)
    have hP9 := hP.sub (ws' := [(h0, .inr (4, [.ref rr, w1, .int (nI (j + 9))])), (rr, .inl (y 0, N, .inl ge0))]) [0, 1] rfl
    have hD9 := hD.sub (ws' := [(h0, .inr (4, [.ref rr, w1, .int (nI (j + 9))])), (rr, .inl (y 0, N, .inl ge0))]) [0, 1] (by decide) rfl
    refine W.widen (k := 0) (n := 0) (Nat.le_of_ble_eq_true rfl) (Nat.le_of_ble_eq_true rfl) ?_
    exact W.vret hx hb hr (fun t ht hW => ⟨⟨(), rfl, trivial, ge0, by rw [ht]; exact hP9, hD9⟩, hS.F ht⟩) hS.2.2 dX0_pushText_25
def wz_c_X9_signOf_14 : List Cond := .code yX9_signOf cX9_signOf 1 (some .int) :: ([] ++ ([]))
set_option maxHeartbeats 4000000 in
set_option maxRecDepth 100000 in
theorem c_X9_signOf_14 (l : Launch) (D : va_G) (y : Nat → ClassId) (sz : Nat)  : Met l yX9_signOf wz_c_X9_signOf_14 ({ frames := 0, cells := 0, slots := 0, locals := 0 }) (va_Pc [.int 14] (zB D y [] sz [] [] [] [])) (va_Qi (fun (r : Int32) (_ : Unit) => r = 79) (fun _ t => va_P D vwCl [] t.heap ∧ va_D (va_A [] sz) []) (va_A [] sz)) 0 0 (va_A [] sz) := by
  refine Met.ofW (cc := cX9_signOf) (maxL := 1) (ret := (some .int)) (by decide) rfl ?_
  intro p e s m args below meth c s₁ B hml hv
  obtain ⟨rfl, hsz, hP, hK, hD0, hN, hE, hO, hT, hG⟩ := hv
  have hx := B.exec
  have hb := B.bytes
  have hr := B.returns
  have hts := atoms_spec (ws := wz_c_X9_signOf_14) B.pre
  have hown : s.vm.findClass RX9 = some m.cls := findClass_of_methodNamed B.named
  have hlocks := B.notSynchronized
  subst hsz
  have hD := hD0.self (sz := s.heap.size)
  generalize hAe : va_A [] s.heap.size = A at hD hE hT hG ⊢
  have hA : ∀ q : Nat, s.heap.size ≤ q → A q := fun q h => by rw [← hAe]; exact Or.inr h
  have hS : va_S A s.heap s.heap [] := va_S.rf
  have hl := lv_entry ([.int 14]) (n := 1) (Nat.le_of_ble_eq_true rfl)
  rw [lg_entry_eq]
  generalize (lg_sl ([.int 14]) ++ List.replicate (1 - (lg_sl ([.int 14])).length) Slot.unset).toArray = ls at hl ⊢
  have hl : lv_has ls 1 [(0, .int 14)] := hl
  refine lv_iload_n hx hb dX9_signOf_0 rfl (lv_at hl 0 rfl) ?_
  refine lv_bipush (v := 26) hx hb dX9_signOf_1 (by decide) ?_
  refine lv_icmp_ge (tgt := 11) hx hb dX9_signOf_3 (by decide) (fun c9 => absurd c9 (by decide)) (fun _ => ?_)
  refine lv_bipush (v := 65) hx hb dX9_signOf_6 (by decide) ?_
  refine lv_iload_n hx hb dX9_signOf_8 rfl (lv_at hl 0 rfl) ?_
  refine lv_iadd hx hb dX9_signOf_9 ?_
  refine lv_topi (fun v1 ev1 => ?_)
  have ev1 : v1 = 79 := ev1.trans (by decide +kernel)
  subst ev1
  have hP9 := hP.sub (ws' := []) [] rfl
  have hD9 := hD.sub (ws' := []) [] (by decide) rfl
  refine W.widen (k := 0) (n := 0) (Nat.le_of_ble_eq_true rfl) (Nat.le_of_ble_eq_true rfl) ?_
  exact W.iret (v := 79) hx hb hr (fun t ht hW => ⟨⟨79, (), rfl, rfl, by rw [ht]; exact hP9, hD9⟩, hS.F ht⟩) hS.2.2 dX9_signOf_10
def wz_c_X9_signOf_19 : List Cond := .code yX9_signOf cX9_signOf 1 (some .int) :: ([] ++ ([]))
set_option maxHeartbeats 4000000 in
set_option maxRecDepth 100000 in
theorem c_X9_signOf_19 (l : Launch) (D : va_G) (y : Nat → ClassId) (sz : Nat)  : Met l yX9_signOf wz_c_X9_signOf_19 ({ frames := 0, cells := 0, slots := 0, locals := 0 }) (va_Pc [.int 19] (zB D y [] sz [] [] [] [])) (va_Qi (fun (r : Int32) (_ : Unit) => r = 84) (fun _ t => va_P D vwCl [] t.heap ∧ va_D (va_A [] sz) []) (va_A [] sz)) 0 0 (va_A [] sz) := by
  refine Met.ofW (cc := cX9_signOf) (maxL := 1) (ret := (some .int)) (by decide) rfl ?_
  intro p e s m args below meth c s₁ B hml hv
  obtain ⟨rfl, hsz, hP, hK, hD0, hN, hE, hO, hT, hG⟩ := hv
  have hx := B.exec
  have hb := B.bytes
  have hr := B.returns
  have hts := atoms_spec (ws := wz_c_X9_signOf_19) B.pre
  have hown : s.vm.findClass RX9 = some m.cls := findClass_of_methodNamed B.named
  have hlocks := B.notSynchronized
  subst hsz
  have hD := hD0.self (sz := s.heap.size)
  generalize hAe : va_A [] s.heap.size = A at hD hE hT hG ⊢
  have hA : ∀ q : Nat, s.heap.size ≤ q → A q := fun q h => by rw [← hAe]; exact Or.inr h
  have hS : va_S A s.heap s.heap [] := va_S.rf
  have hl := lv_entry ([.int 19]) (n := 1) (Nat.le_of_ble_eq_true rfl)
  rw [lg_entry_eq]
  generalize (lg_sl ([.int 19]) ++ List.replicate (1 - (lg_sl ([.int 19])).length) Slot.unset).toArray = ls at hl ⊢
  have hl : lv_has ls 1 [(0, .int 19)] := hl
  refine lv_iload_n hx hb dX9_signOf_0 rfl (lv_at hl 0 rfl) ?_
  refine lv_bipush (v := 26) hx hb dX9_signOf_1 (by decide) ?_
  refine lv_icmp_ge (tgt := 11) hx hb dX9_signOf_3 (by decide) (fun c9 => absurd c9 (by decide)) (fun _ => ?_)
  refine lv_bipush (v := 65) hx hb dX9_signOf_6 (by decide) ?_
  refine lv_iload_n hx hb dX9_signOf_8 rfl (lv_at hl 0 rfl) ?_
  refine lv_iadd hx hb dX9_signOf_9 ?_
  refine lv_topi (fun v1 ev1 => ?_)
  have ev1 : v1 = 84 := ev1.trans (by decide +kernel)
  subst ev1
  have hP9 := hP.sub (ws' := []) [] rfl
  have hD9 := hD.sub (ws' := []) [] (by decide) rfl
  refine W.widen (k := 0) (n := 0) (Nat.le_of_ble_eq_true rfl) (Nat.le_of_ble_eq_true rfl) ?_
  exact W.iret (v := 84) hx hb hr (fun t ht hW => ⟨⟨84, (), rfl, rfl, by rw [ht]; exact hP9, hD9⟩, hS.F ht⟩) hS.2.2 dX9_signOf_10
def wz_c_X9_signOf_45 : List Cond := .code yX9_signOf cX9_signOf 1 (some .int) :: ([] ++ ([]))
set_option maxHeartbeats 4000000 in
set_option maxRecDepth 100000 in
theorem c_X9_signOf_45 (l : Launch) (D : va_G) (y : Nat → ClassId) (sz : Nat)  : Met l yX9_signOf wz_c_X9_signOf_45 ({ frames := 0, cells := 0, slots := 0, locals := 0 }) (va_Pc [.int 45] (zB D y [] sz [] [] [] [])) (va_Qi (fun (r : Int32) (_ : Unit) => r = 116) (fun _ t => va_P D vwCl [] t.heap ∧ va_D (va_A [] sz) []) (va_A [] sz)) 0 0 (va_A [] sz) := by
  refine Met.ofW (cc := cX9_signOf) (maxL := 1) (ret := (some .int)) (by decide) rfl ?_
  intro p e s m args below meth c s₁ B hml hv
  obtain ⟨rfl, hsz, hP, hK, hD0, hN, hE, hO, hT, hG⟩ := hv
  have hx := B.exec
  have hb := B.bytes
  have hr := B.returns
  have hts := atoms_spec (ws := wz_c_X9_signOf_45) B.pre
  have hown : s.vm.findClass RX9 = some m.cls := findClass_of_methodNamed B.named
  have hlocks := B.notSynchronized
  subst hsz
  have hD := hD0.self (sz := s.heap.size)
  generalize hAe : va_A [] s.heap.size = A at hD hE hT hG ⊢
  have hA : ∀ q : Nat, s.heap.size ≤ q → A q := fun q h => by rw [← hAe]; exact Or.inr h
  have hS : va_S A s.heap s.heap [] := va_S.rf
  have hl := lv_entry ([.int 45]) (n := 1) (Nat.le_of_ble_eq_true rfl)
  rw [lg_entry_eq]
  generalize (lg_sl ([.int 45]) ++ List.replicate (1 - (lg_sl ([.int 45])).length) Slot.unset).toArray = ls at hl ⊢
  have hl : lv_has ls 1 [(0, .int 45)] := hl
  refine lv_iload_n hx hb dX9_signOf_0 rfl (lv_at hl 0 rfl) ?_
  refine lv_bipush (v := 26) hx hb dX9_signOf_1 (by decide) ?_
  refine lv_icmp_ge (tgt := 11) hx hb dX9_signOf_3 (by decide) (fun _ => ?_) (fun c9 => absurd (by decide) c9)
  refine lv_iload_n hx hb dX9_signOf_11 rfl (lv_at hl 0 rfl) ?_
  refine lv_bipush (v := 52) hx hb dX9_signOf_12 (by decide) ?_
  refine lv_icmp_ge (tgt := 25) hx hb dX9_signOf_14 (by decide) (fun c9 => absurd c9 (by decide)) (fun _ => ?_)
  refine lv_bipush (v := 97) hx hb dX9_signOf_17 (by decide) ?_
  refine lv_iload_n hx hb dX9_signOf_19 rfl (lv_at hl 0 rfl) ?_
  refine lv_iadd hx hb dX9_signOf_20 ?_
  refine lv_topi (fun v1 ev1 => ?_)
  have ev1 : v1 = 142 := ev1.trans (by decide +kernel)
  subst ev1
  refine lv_bipush (v := 26) hx hb dX9_signOf_21 (by decide) ?_
  refine lv_isub hx hb dX9_signOf_23 ?_
  refine lv_topi (fun v2 ev2 => ?_)
  have ev2 : v2 = 116 := ev2.trans (by decide +kernel)
  subst ev2
  have hP9 := hP.sub (ws' := []) [] rfl
  have hD9 := hD.sub (ws' := []) [] (by decide) rfl
  refine W.widen (k := 0) (n := 0) (Nat.le_of_ble_eq_true rfl) (Nat.le_of_ble_eq_true rfl) ?_
  exact W.iret (v := 116) hx hb hr (fun t ht hW => ⟨⟨116, (), rfl, rfl, by rw [ht]; exact hP9, hD9⟩, hS.F ht⟩) hS.2.2 dX9_signOf_24
def wz_c_X9_signOf_48 : List Cond := .code yX9_signOf cX9_signOf 1 (some .int) :: ([] ++ ([]))
set_option maxHeartbeats 4000000 in
set_option maxRecDepth 100000 in
theorem c_X9_signOf_48 (l : Launch) (D : va_G) (y : Nat → ClassId) (sz : Nat)  : Met l yX9_signOf wz_c_X9_signOf_48 ({ frames := 0, cells := 0, slots := 0, locals := 0 }) (va_Pc [.int 48] (zB D y [] sz [] [] [] [])) (va_Qi (fun (r : Int32) (_ : Unit) => r = 119) (fun _ t => va_P D vwCl [] t.heap ∧ va_D (va_A [] sz) []) (va_A [] sz)) 0 0 (va_A [] sz) := by
  refine Met.ofW (cc := cX9_signOf) (maxL := 1) (ret := (some .int)) (by decide) rfl ?_
  intro p e s m args below meth c s₁ B hml hv
  obtain ⟨rfl, hsz, hP, hK, hD0, hN, hE, hO, hT, hG⟩ := hv
  have hx := B.exec
  have hb := B.bytes
  have hr := B.returns
  have hts := atoms_spec (ws := wz_c_X9_signOf_48) B.pre
  have hown : s.vm.findClass RX9 = some m.cls := findClass_of_methodNamed B.named
  have hlocks := B.notSynchronized
  subst hsz
  have hD := hD0.self (sz := s.heap.size)
  generalize hAe : va_A [] s.heap.size = A at hD hE hT hG ⊢
  have hA : ∀ q : Nat, s.heap.size ≤ q → A q := fun q h => by rw [← hAe]; exact Or.inr h
  have hS : va_S A s.heap s.heap [] := va_S.rf
  have hl := lv_entry ([.int 48]) (n := 1) (Nat.le_of_ble_eq_true rfl)
  rw [lg_entry_eq]
  generalize (lg_sl ([.int 48]) ++ List.replicate (1 - (lg_sl ([.int 48])).length) Slot.unset).toArray = ls at hl ⊢
  have hl : lv_has ls 1 [(0, .int 48)] := hl
  refine lv_iload_n hx hb dX9_signOf_0 rfl (lv_at hl 0 rfl) ?_
  refine lv_bipush (v := 26) hx hb dX9_signOf_1 (by decide) ?_
  refine lv_icmp_ge (tgt := 11) hx hb dX9_signOf_3 (by decide) (fun _ => ?_) (fun c9 => absurd (by decide) c9)
  refine lv_iload_n hx hb dX9_signOf_11 rfl (lv_at hl 0 rfl) ?_
  refine lv_bipush (v := 52) hx hb dX9_signOf_12 (by decide) ?_
  refine lv_icmp_ge (tgt := 25) hx hb dX9_signOf_14 (by decide) (fun c9 => absurd c9 (by decide)) (fun _ => ?_)
  refine lv_bipush (v := 97) hx hb dX9_signOf_17 (by decide) ?_
  refine lv_iload_n hx hb dX9_signOf_19 rfl (lv_at hl 0 rfl) ?_
  refine lv_iadd hx hb dX9_signOf_20 ?_
  refine lv_topi (fun v1 ev1 => ?_)
  have ev1 : v1 = 145 := ev1.trans (by decide +kernel)
  subst ev1
  refine lv_bipush (v := 26) hx hb dX9_signOf_21 (by decide) ?_
  refine lv_isub hx hb dX9_signOf_23 ?_
  refine lv_topi (fun v2 ev2 => ?_)
  have ev2 : v2 = 119 := ev2.trans (by decide +kernel)
  subst ev2
  have hP9 := hP.sub (ws' := []) [] rfl
  have hD9 := hD.sub (ws' := []) [] (by decide) rfl
  refine W.widen (k := 0) (n := 0) (Nat.le_of_ble_eq_true rfl) (Nat.le_of_ble_eq_true rfl) ?_
  exact W.iret (v := 119) hx hb hr (fun t ht hW => ⟨⟨119, (), rfl, rfl, by rw [ht]; exact hP9, hD9⟩, hS.F ht⟩) hS.2.2 dX9_signOf_24
def wz_c_X9_writeGroup : List Cond := .code yX9_writeGroup cX9_writeGroup 5 none :: ([.methodLink RX9 161 yX9_signOf, .static yX9_signOf, .initialized RX9, .methodLink RX9 135 yX0_push, .instanceMethod yX0_push, .selects RX0 yX0_push yX0_push, .initialized RX0] ++ (wz_c_X9_signOf_45 ++ (wz_c_X0_push ++ (wz_c_X9_signOf_48 ++ (wz_c_X9_signOf_19 ++ (wz_c_X9_signOf_14 ++ ([])))))))
set_option maxRecDepth 100000 in
theorem gz_c_X9_writeGroup_c_X9_signOf_45 : GoodIn wz_c_X9_writeGroup wz_c_X9_signOf_45 := goodIn_sub (fun w h => List.mem_cons_of_mem _ (List.mem_append_right _ (List.mem_append_left _ h))) (by decide +kernel)
set_option maxRecDepth 100000 in
theorem gz_c_X9_writeGroup_c_X0_push : GoodIn wz_c_X9_writeGroup wz_c_X0_push := goodIn_sub (fun w h => List.mem_cons_of_mem _ (List.mem_append_right _ (List.mem_append_right _ (List.mem_append_left _ h)))) (by decide +kernel)
set_option maxRecDepth 100000 in
theorem gz_c_X9_writeGroup_c_X9_signOf_48 : GoodIn wz_c_X9_writeGroup wz_c_X9_signOf_48 := goodIn_sub (fun w h => List.mem_cons_of_mem _ (List.mem_append_right _ (List.mem_append_right _ (List.mem_append_right _ (List.mem_append_left _ h))))) (by decide +kernel)
set_option maxRecDepth 100000 in
theorem gz_c_X9_writeGroup_c_X9_signOf_19 : GoodIn wz_c_X9_writeGroup wz_c_X9_signOf_19 := goodIn_sub (fun w h => List.mem_cons_of_mem _ (List.mem_append_right _ (List.mem_append_right _ (List.mem_append_right _ (List.mem_append_right _ (List.mem_append_left _ h)))))) (by decide +kernel)
set_option maxRecDepth 100000 in
theorem gz_c_X9_writeGroup_c_X9_signOf_14 : GoodIn wz_c_X9_writeGroup wz_c_X9_signOf_14 := goodIn_sub (fun w h => List.mem_cons_of_mem _ (List.mem_append_right _ (List.mem_append_right _ (List.mem_append_right _ (List.mem_append_right _ (List.mem_append_right _ (List.mem_append_left _ h))))))) (by decide +kernel)
set_option maxRecDepth 100000 in
theorem gv_c_X9_writeGroup_c_X9_signOf_45_161 : GoodIn wz_c_X9_writeGroup (va_wsS RX9 161 yX9_signOf wz_c_X9_signOf_45) := goodIn_app (goodIn_of _ (by decide +kernel)) gz_c_X9_writeGroup_c_X9_signOf_45
set_option maxRecDepth 100000 in
theorem gv_c_X9_writeGroup_c_X0_push_135 : GoodIn wz_c_X9_writeGroup (wsV RX9 135 RX0 yX0_push wz_c_X0_push) := goodIn_app (goodIn_of _ (by decide +kernel)) gz_c_X9_writeGroup_c_X0_push
set_option maxRecDepth 100000 in
theorem gv_c_X9_writeGroup_c_X9_signOf_48_161 : GoodIn wz_c_X9_writeGroup (va_wsS RX9 161 yX9_signOf wz_c_X9_signOf_48) := goodIn_app (goodIn_of _ (by decide +kernel)) gz_c_X9_writeGroup_c_X9_signOf_48
set_option maxRecDepth 100000 in
theorem gv_c_X9_writeGroup_c_X9_signOf_19_161 : GoodIn wz_c_X9_writeGroup (va_wsS RX9 161 yX9_signOf wz_c_X9_signOf_19) := goodIn_app (goodIn_of _ (by decide +kernel)) gz_c_X9_writeGroup_c_X9_signOf_19
set_option maxRecDepth 100000 in
theorem gv_c_X9_writeGroup_c_X9_signOf_14_161 : GoodIn wz_c_X9_writeGroup (va_wsS RX9 161 yX9_signOf wz_c_X9_signOf_14) := goodIn_app (goodIn_of _ (by decide +kernel)) gz_c_X9_writeGroup_c_X9_signOf_14
set_option maxHeartbeats 4000000 in
set_option maxRecDepth 100000 in
theorem c_X9_writeGroup (l : Launch) (D : va_G) (y : Nat → ClassId) (sz : Nat) (to : Nat) (rr : Nat) (N : Nat) (j : Nat) (w1 : Value) (g : Nat → Int32) (hjn : j + 4 ≤ N) (hN : N ≤ 4096) : Met l yX9_writeGroup wz_c_X9_writeGroup ({ frames := 1, cells := 0, slots := 0, locals := 21 }) (va_Pc [.long 11994318, .int 3, .ref to] (zB D y [(to, .inr (4, [.ref rr, w1, .int (nI j)])), (rr, .inl (y 0, N, .inl g))] sz [] [] [] [])) (va_Qv (fun _ : Unit => True) (fun _ t => ∃ fz0 : Nat → Int32, va_P D vwCl [(to, .inr (4, [.ref rr, w1, .int (nI ((((j + 1) + 1) + 1) + 1))])), (rr, .inl (y 0, N, .inl fz0))] t.heap ∧ va_D (va_A [(to, .inr (4, [.ref rr, w1, .int (nI j)])), (rr, .inl (y 0, N, .inl g))] sz) [(to, .inr (4, [.ref rr, w1, .int (nI ((((j + 1) + 1) + 1) + 1))])), (rr, .inl (y 0, N, .inl fz0))]) (va_A [(to, .inr (4, [.ref rr, w1, .int (nI j)])), (rr, .inl (y 0, N, .inl g))] sz)) 0 0 (va_A [(to, .inr (4, [.ref rr, w1, .int (nI j)])), (rr, .inl (y 0, N, .inl g))] sz) := by
  refine Met.ofW (cc := cX9_writeGroup) (maxL := 5) (ret := none) (by decide) rfl ?_
  intro p e s m args below meth c s₁ B hml hv
  obtain ⟨rfl, hsz, hP, hK, hD0, hN, hE, hO, hT, hG⟩ := hv
  have hx := B.exec
  have hb := B.bytes
  have hr := B.returns
  have hts := atoms_spec (ws := wz_c_X9_writeGroup) B.pre
  have hown : s.vm.findClass RX9 = some m.cls := findClass_of_methodNamed B.named
  have hlocks := B.notSynchronized
  subst hsz
  have hD := hD0.self (sz := s.heap.size)
  generalize hAe : va_A [(to, .inr (4, [.ref rr, w1, .int (nI j)])), (rr, .inl (y 0, N, .inl g))] s.heap.size = A at hD hE hT hG ⊢
  have hA : ∀ q : Nat, s.heap.size ≤ q → A q := fun q h => by rw [← hAe]; exact Or.inr h
  have hS : va_S A s.heap s.heap [] := va_S.rf
  have hl := lv_entry ([.long 11994318, .int 3, .ref to]) (n := 5) (Nat.le_of_ble_eq_true rfl)
  rw [lg_entry_eq]
  generalize (lg_sl ([.long 11994318, .int 3, .ref to]) ++ List.replicate (5 - (lg_sl ([.long 11994318, .int 3, .ref to])).length) Slot.unset).toArray = ls at hl ⊢
  have hl : lv_has ls 5 [(0, .long 11994318), (2, .int 3), (3, .ref to)] := hl
  refine lv_iconst (v := 0) hx hb dX9_writeGroup_0 (by decide) ?_
  refine lv_istore (lv' := [(4, .int 0), (0, .long 11994318), (2, .int 3), (3, .ref to)]) hx hb dX9_writeGroup_1 hl (by decide) rfl (fun ls hl => ?_)
  refine lv_iload hx hb dX9_writeGroup_3 (lv_at hl 0 rfl) ?_
  refine lv_iconst (v := 4) hx hb dX9_writeGroup_5 (by decide) ?_
  refine lv_icmp_ge (tgt := 47) hx hb dX9_writeGroup_6 (by decide) (fun c9 => absurd c9 (by decide)) (fun _ => ?_)
  refine lv_aload_n hx hb dX9_writeGroup_9 rfl (lv_at hl 3 rfl) ?_
  refine lv_iload hx hb dX9_writeGroup_10 (lv_at hl 0 rfl) ?_
  refine lv_iload_n hx hb dX9_writeGroup_12 rfl (lv_at hl 2 rfl) ?_
  refine lv_icmp_gt (tgt := 36) hx hb dX9_writeGroup_13 (by decide) (fun c9 => absurd c9 (by decide)) (fun _ => ?_)
  refine lv_lload_n hx hb dX9_writeGroup_16 rfl (lv_at hl 1 rfl) ?_
  refine lv_bipush (v := 18) hx hb dX9_writeGroup_17 (by decide) ?_
  refine lv_bipush (v := 6) hx hb dX9_writeGroup_19 (by decide) ?_
  refine lv_iload hx hb dX9_writeGroup_21 (lv_at hl 0 rfl) ?_
  refine lv_imul hx hb dX9_writeGroup_23 ?_
  refine lv_topi (fun v1 ev1 => ?_)
  have ev1 : v1 = 0 := ev1.trans (by decide +kernel)
  subst ev1
  refine lv_isub hx hb dX9_writeGroup_24 ?_
  refine lv_topi (fun v2 ev2 => ?_)
  have ev2 : v2 = 18 := ev2.trans (by decide +kernel)
  subst ev2
  refine lv_lshr hx hb dX9_writeGroup_25 rfl ?_
  refine lv_topl (fun v3 ev3 => ?_)
  have ev3 : v3 = 45 := ev3.trans (by decide +kernel)
  subst ev3
  refine lv_l2i (v := 45) hx hb dX9_writeGroup_26 (by decide +kernel) ?_
  refine lv_bipush (v := 63) hx hb dX9_writeGroup_27 (by decide) ?_
  refine lv_iand hx hb dX9_writeGroup_29 ?_
  refine lv_topi (fun v4 ev4 => ?_)
  have ev4 : v4 = 45 := ev4.trans (by decide +kernel)
  subst ev4
  have hPc := hP.sub (ws' := []) [] rfl
  have hDc := hD.sub (ws' := []) [] (by decide) rfl
  have hFc := va_free (wc := []) hD hS hA [] rfl
  refine va_calli (va_runS (As := [.int 45]) (rest := [.ref to]) ⟨hx, hb, hml, hown, hts⟩ (c_X9_signOf_45 l D y s.heap.size ) (va_cwS 1 hts gv_c_X9_writeGroup_c_X9_signOf_45_161 rfl rfl rfl (by decide +kernel) ⟨(Nat.le_of_ble_eq_true rfl), (Nat.le_of_ble_eq_true rfl)⟩) (zB.preS hPc hDc hK hN hE hO hT hG hS hFc (fun _ h => nomatch h) (fun _ h => nomatch h) (fun _ h => nomatch h) (fun _ h => nomatch h)) rfl rfl hl.1 rfl (lv_room (Nat.le_of_ble_eq_true rfl)) dX9_writeGroup_30 ⟨(Nat.le_of_ble_eq_true rfl), (Nat.le_of_ble_eq_true rfl)⟩) hS (fun q _ h => hFc q h) hFc (fun r5 u t H1 locs ht hvm hw hB hz1 hk1 hS => ?_)
  obtain ⟨hP1, hD1⟩ := hB
  rw [ht] at hP1
  obtain ⟨hP, hD⟩ := va_join (wr := [(to, .inr (4, [.ref rr, w1, .int (nI j)])), (rr, .inl (y 0, N, .inl g))]) (w1 := []) hP hD [] [0, 1] rfl rfl (by decide) (by decide) hk1 hFc hP1 hD1
  generalize H1 = H at hP hS ⊢
  have hP : va_P D vwCl [(to, .inr (4, [.ref rr, w1, .int (nI j)])), (rr, .inl (y 0, N, .inl g))] H := hP
  have hD : va_D A [(to, .inr (4, [.ref rr, w1, .int (nI j)])), (rr, .inl (y 0, N, .inl g))] := hD
  have hw : r5 = 116 := hw
  subst hw
  refine lv_goto (tgt := 38) hx hb dX9_writeGroup_33 (by decide) ?_
  have hPc := hP.sub (ws' := [(to, .inr (4, [.ref rr, w1, .int (nI j)])), (rr, .inl (y 0, N, .inl g))]) [0, 1] rfl
  have hDc := hD.sub (ws' := [(to, .inr (4, [.ref rr, w1, .int (nI j)])), (rr, .inl (y 0, N, .inl g))]) [0, 1] (by decide) rfl
  have hFc := va_free (wc := [(to, .inr (4, [.ref rr, w1, .int (nI j)])), (rr, .inl (y 0, N, .inl g))]) hD hS hA [0, 1] rfl
  refine va_callv (va_runV (As := [.int 116]) (rest := []) ⟨hx, hb, hml, hown, hts⟩ (c_X0_push l D y H.size to rr N j w1 g 116 (by omega) (by omega)) (cwV 1 hts gv_c_X9_writeGroup_c_X0_push_135 rfl rfl rfl (by decide +kernel) ⟨(Nat.le_of_ble_eq_true rfl), (Nat.le_of_ble_eq_true rfl)⟩) (zB.preV hPc hDc hK hN hE hO hT hG hS hFc (fun _ h => nomatch h) (fun _ h => nomatch h) (fun _ h => nomatch h) (fun _ h => nomatch h) (va_recv hK hPc (ci := 4) (q0 := 0) rfl rfl)) rfl rfl hl.1 rfl (lv_room (Nat.le_of_ble_eq_true rfl)) dX9_writeGroup_38 ⟨(Nat.le_of_ble_eq_true rfl), (Nat.le_of_ble_eq_true rfl)⟩) hS (fun q _ h => hFc q h) hFc (fun u t H1 locs ht hvm hw hB hz1 hk1 hS => ?_)
  obtain ⟨f6, hP1, hD1⟩ := hB
  rw [ht] at hP1
  obtain ⟨hP, hD⟩ := va_join (wr := []) (w1 := [(to, .inr (4, [.ref rr, w1, .int (nI (j + 1))])), (rr, .inl (y 0, N, .inl f6))]) hP hD [0, 1] [] rfl rfl (by decide) (by decide) hk1 hFc hP1 hD1
  generalize H1 = H at hP hS ⊢
  have hP : va_P D vwCl [(to, .inr (4, [.ref rr, w1, .int (nI (j + 1))])), (rr, .inl (y 0, N, .inl f6))] H := hP
  have hD : va_D A [(to, .inr (4, [.ref rr, w1, .int (nI (j + 1))])), (rr, .inl (y 0, N, .inl f6))] := hD
  refine lv_iinc (v := 1) (lv' := [(4, .int 1), (0, .long 11994318), (2, .int 3), (3, .ref to)]) hx hb dX9_writeGroup_41 hl (k := 0) rfl (by decide) (by decide) rfl (fun ls hl => ?_)
  refine lv_goto (tgt := 3) hx hb dX9_writeGroup_44 (by decide) ?_
  refine lv_iload hx hb dX9_writeGroup_3 (lv_at hl 0 rfl) ?_
  refine lv_iconst (v := 4) hx hb dX9_writeGroup_5 (by decide) ?_
  refine lv_icmp_ge (tgt := 47) hx hb dX9_writeGroup_6 (by decide) (fun c9 => absurd c9 (by decide)) (fun _ => ?_)
  refine lv_aload_n hx hb dX9_writeGroup_9 rfl (lv_at hl 3 rfl) ?_
  refine lv_iload hx hb dX9_writeGroup_10 (lv_at hl 0 rfl) ?_
  refine lv_iload_n hx hb dX9_writeGroup_12 rfl (lv_at hl 2 rfl) ?_
  refine lv_icmp_gt (tgt := 36) hx hb dX9_writeGroup_13 (by decide) (fun c9 => absurd c9 (by decide)) (fun _ => ?_)
  refine lv_lload_n hx hb dX9_writeGroup_16 rfl (lv_at hl 1 rfl) ?_
  refine lv_bipush (v := 18) hx hb dX9_writeGroup_17 (by decide) ?_
  refine lv_bipush (v := 6) hx hb dX9_writeGroup_19 (by decide) ?_
  refine lv_iload hx hb dX9_writeGroup_21 (lv_at hl 0 rfl) ?_
  refine lv_imul hx hb dX9_writeGroup_23 ?_
  refine lv_topi (fun v7 ev7 => ?_)
  have ev7 : v7 = 6 := ev7.trans (by decide +kernel)
  subst ev7
  refine lv_isub hx hb dX9_writeGroup_24 ?_
  refine lv_topi (fun v8 ev8 => ?_)
  have ev8 : v8 = 12 := ev8.trans (by decide +kernel)
  subst ev8
  refine lv_lshr hx hb dX9_writeGroup_25 rfl ?_
  refine lv_topl (fun v9 ev9 => ?_)
  have ev9 : v9 = 2928 := ev9.trans (by decide +kernel)
  subst ev9
  refine lv_l2i (v := 2928) hx hb dX9_writeGroup_26 (by decide +kernel) ?_
  refine lv_bipush (v := 63) hx hb dX9_writeGroup_27 (by decide) ?_
  refine lv_iand hx hb dX9_writeGroup_29 ?_
  refine lv_topi (fun v10 ev10 => ?_)
  have ev10 : v10 = 48 := ev10.trans (by decide +kernel)
  subst ev10
  have hPc := hP.sub (ws' := []) [] rfl
  have hDc := hD.sub (ws' := []) [] (by decide) rfl
  have hFc := va_free (wc := []) hD hS hA [] rfl
  refine va_calli (va_runS (As := [.int 48]) (rest := [.ref to]) ⟨hx, hb, hml, hown, hts⟩ (c_X9_signOf_48 l D y H.size ) (va_cwS 1 hts gv_c_X9_writeGroup_c_X9_signOf_48_161 rfl rfl rfl (by decide +kernel) ⟨(Nat.le_of_ble_eq_true rfl), (Nat.le_of_ble_eq_true rfl)⟩) (zB.preS hPc hDc hK hN hE hO hT hG hS hFc (fun _ h => nomatch h) (fun _ h => nomatch h) (fun _ h => nomatch h) (fun _ h => nomatch h)) rfl rfl hl.1 rfl (lv_room (Nat.le_of_ble_eq_true rfl)) dX9_writeGroup_30 ⟨(Nat.le_of_ble_eq_true rfl), (Nat.le_of_ble_eq_true rfl)⟩) hS (fun q _ h => hFc q h) hFc (fun r11 u t H1 locs ht hvm hw hB hz1 hk1 hS => ?_)
  obtain ⟨hP1, hD1⟩ := hB
  rw [ht] at hP1
  obtain ⟨hP, hD⟩ := va_join (wr := [(to, .inr (4, [.ref rr, w1, .int (nI (j + 1))])), (rr, .inl (y 0, N, .inl f6))]) (w1 := []) hP hD [] [0, 1] rfl rfl (by decide) (by decide) hk1 hFc hP1 hD1
  generalize H1 = H at hP hS ⊢
  have hP : va_P D vwCl [(to, .inr (4, [.ref rr, w1, .int (nI (j + 1))])), (rr, .inl (y 0, N, .inl f6))] H := hP
  have hD : va_D A [(to, .inr (4, [.ref rr, w1, .int (nI (j + 1))])), (rr, .inl (y 0, N, .inl f6))] := hD
  have hw : r11 = 119 := hw
  subst hw
  refine lv_goto (tgt := 38) hx hb dX9_writeGroup_33 (by decide) ?_
  have hPc := hP.sub (ws' := [(to, .inr (4, [.ref rr, w1, .int (nI (j + 1))])), (rr, .inl (y 0, N, .inl f6))]) [0, 1] rfl
  have hDc := hD.sub (ws' := [(to, .inr (4, [.ref rr, w1, .int (nI (j + 1))])), (rr, .inl (y 0, N, .inl f6))]) [0, 1] (by decide) rfl
  have hFc := va_free (wc := [(to, .inr (4, [.ref rr, w1, .int (nI (j + 1))])), (rr, .inl (y 0, N, .inl f6))]) hD hS hA [0, 1] rfl
  refine va_callv (va_runV (As := [.int 119]) (rest := []) ⟨hx, hb, hml, hown, hts⟩ (c_X0_push l D y H.size to rr N ((j + 1)) w1 f6 119 (by omega) (by omega)) (cwV 1 hts gv_c_X9_writeGroup_c_X0_push_135 rfl rfl rfl (by decide +kernel) ⟨(Nat.le_of_ble_eq_true rfl), (Nat.le_of_ble_eq_true rfl)⟩) (zB.preV hPc hDc hK hN hE hO hT hG hS hFc (fun _ h => nomatch h) (fun _ h => nomatch h) (fun _ h => nomatch h) (fun _ h => nomatch h) (va_recv hK hPc (ci := 4) (q0 := 0) rfl rfl)) rfl rfl hl.1 rfl (lv_room (Nat.le_of_ble_eq_true rfl)) dX9_writeGroup_38 ⟨(Nat.le_of_ble_eq_true rfl), (Nat.le_of_ble_eq_true rfl)⟩) hS (fun q _ h => hFc q h) hFc (fun u t H1 locs ht hvm hw hB hz1 hk1 hS => ?_)
  obtain ⟨f12, hP1, hD1⟩ := hB
  rw [ht] at hP1
  obtain ⟨hP, hD⟩ := va_join (wr := []) (w1 := [(to, .inr (4, [.ref rr, w1, .int (nI ((j + 1) + 1))])), (rr, .inl (y 0, N, .inl f12))]) hP hD [0, 1] [] rfl rfl (by decide) (by decide) hk1 hFc hP1 hD1
  generalize H1 = H at hP hS ⊢
  have hP : va_P D vwCl [(to, .inr (4, [.ref rr, w1, .int (nI ((j + 1) + 1))])), (rr, .inl (y 0, N, .inl f12))] H := hP
  have hD : va_D A [(to, .inr (4, [.ref rr, w1, .int (nI ((j + 1) + 1))])), (rr, .inl (y 0, N, .inl f12))] := hD
  refine lv_iinc (v := 2) (lv' := [(4, .int 2), (0, .long 11994318), (2, .int 3), (3, .ref to)]) hx hb dX9_writeGroup_41 hl (k := 0) rfl (by decide) (by decide) rfl (fun ls hl => ?_)
  refine lv_goto (tgt := 3) hx hb dX9_writeGroup_44 (by decide) ?_
  refine lv_iload hx hb dX9_writeGroup_3 (lv_at hl 0 rfl) ?_
  refine lv_iconst (v := 4) hx hb dX9_writeGroup_5 (by decide) ?_
  refine lv_icmp_ge (tgt := 47) hx hb dX9_writeGroup_6 (by decide) (fun c9 => absurd c9 (by decide)) (fun _ => ?_)
  refine lv_aload_n hx hb dX9_writeGroup_9 rfl (lv_at hl 3 rfl) ?_
  refine lv_iload hx hb dX9_writeGroup_10 (lv_at hl 0 rfl) ?_
  refine lv_iload_n hx hb dX9_writeGroup_12 rfl (lv_at hl 2 rfl) ?_
  refine lv_icmp_gt (tgt := 36) hx hb dX9_writeGroup_13 (by decide) (fun c9 => absurd c9 (by decide)) (fun _ => ?_)
  refine lv_lload_n hx hb dX9_writeGroup_16 rfl (lv_at hl 1 rfl) ?_
  refine lv_bipush (v := 18) hx hb dX9_writeGroup_17 (by decide) ?_
  refine lv_bipush (v := 6) hx hb dX9_writeGroup_19 (by decide) ?_
  refine lv_iload hx hb dX9_writeGroup_21 (lv_at hl 0 rfl) ?_
  refine lv_imul hx hb dX9_writeGroup_23 ?_
  refine lv_topi (fun v13 ev13 => ?_)
  have ev13 : v13 = 12 := ev13.trans (by decide +kernel)
  subst ev13
  refine lv_isub hx hb dX9_writeGroup_24 ?_
  refine lv_topi (fun v14 ev14 => ?_)
  have ev14 : v14 = 6 := ev14.trans (by decide +kernel)
  subst ev14
  refine lv_lshr hx hb dX9_writeGroup_25 rfl ?_
  refine lv_topl (fun v15 ev15 => ?_)
  have ev15 : v15 = 187411 := ev15.trans (by decide +kernel)
  subst ev15
  refine lv_l2i (v := 187411) hx hb dX9_writeGroup_26 (by decide +kernel) ?_
  refine lv_bipush (v := 63) hx hb dX9_writeGroup_27 (by decide) ?_
  refine lv_iand hx hb dX9_writeGroup_29 ?_
  refine lv_topi (fun v16 ev16 => ?_)
  have ev16 : v16 = 19 := ev16.trans (by decide +kernel)
  subst ev16
  have hPc := hP.sub (ws' := []) [] rfl
  have hDc := hD.sub (ws' := []) [] (by decide) rfl
  have hFc := va_free (wc := []) hD hS hA [] rfl
  refine va_calli (va_runS (As := [.int 19]) (rest := [.ref to]) ⟨hx, hb, hml, hown, hts⟩ (c_X9_signOf_19 l D y H.size ) (va_cwS 1 hts gv_c_X9_writeGroup_c_X9_signOf_19_161 rfl rfl rfl (by decide +kernel) ⟨(Nat.le_of_ble_eq_true rfl), (Nat.le_of_ble_eq_true rfl)⟩) (zB.preS hPc hDc hK hN hE hO hT hG hS hFc (fun _ h => nomatch h) (fun _ h => nomatch h) (fun _ h => nomatch h) (fun _ h => nomatch h)) rfl rfl hl.1 rfl (lv_room (Nat.le_of_ble_eq_true rfl)) dX9_writeGroup_30 ⟨(Nat.le_of_ble_eq_true rfl), (Nat.le_of_ble_eq_true rfl)⟩) hS (fun q _ h => hFc q h) hFc (fun r17 u t H1 locs ht hvm hw hB hz1 hk1 hS => ?_)
  obtain ⟨hP1, hD1⟩ := hB
  rw [ht] at hP1
  obtain ⟨hP, hD⟩ := va_join (wr := [(to, .inr (4, [.ref rr, w1, .int (nI ((j + 1) + 1))])), (rr, .inl (y 0, N, .inl f12))]) (w1 := []) hP hD [] [0, 1] rfl rfl (by decide) (by decide) hk1 hFc hP1 hD1
  generalize H1 = H at hP hS ⊢
  have hP : va_P D vwCl [(to, .inr (4, [.ref rr, w1, .int (nI ((j + 1) + 1))])), (rr, .inl (y 0, N, .inl f12))] H := hP
  have hD : va_D A [(to, .inr (4, [.ref rr, w1, .int (nI ((j + 1) + 1))])), (rr, .inl (y 0, N, .inl f12))] := hD
  have hw : r17 = 84 := hw
  subst hw
  refine lv_goto (tgt := 38) hx hb dX9_writeGroup_33 (by decide) ?_
  have hPc := hP.sub (ws' := [(to, .inr (4, [.ref rr, w1, .int (nI ((j + 1) + 1))])), (rr, .inl (y 0, N, .inl f12))]) [0, 1] rfl
  have hDc := hD.sub (ws' := [(to, .inr (4, [.ref rr, w1, .int (nI ((j + 1) + 1))])), (rr, .inl (y 0, N, .inl f12))]) [0, 1] (by decide) rfl
  have hFc := va_free (wc := [(to, .inr (4, [.ref rr, w1, .int (nI ((j + 1) + 1))])), (rr, .inl (y 0, N, .inl f12))]) hD hS hA [0, 1] rfl
  refine va_callv (va_runV (As := [.int 84]) (rest := []) ⟨hx, hb, hml, hown, hts⟩ (c_X0_push l D y H.size to rr N (((j + 1) + 1)) w1 f12 84 (by omega) (by omega)) (cwV 1 hts gv_c_X9_writeGroup_c_X0_push_135 rfl rfl rfl (by decide +kernel) ⟨(Nat.le_of_ble_eq_true rfl), (Nat.le_of_ble_eq_true rfl)⟩) (zB.preV hPc hDc hK hN hE hO hT hG hS hFc (fun _ h => nomatch h) (fun _ h => nomatch h) (fun _ h => nomatch h) (fun _ h => nomatch h) (va_recv hK hPc (ci := 4) (q0 := 0) rfl rfl)) rfl rfl hl.1 rfl (lv_room (Nat.le_of_ble_eq_true rfl)) dX9_writeGroup_38 ⟨(Nat.le_of_ble_eq_true rfl), (Nat.le_of_ble_eq_true rfl)⟩) hS (fun q _ h => hFc q h) hFc (fun u t H1 locs ht hvm hw hB hz1 hk1 hS => ?_)
  obtain ⟨f18, hP1, hD1⟩ := hB
  rw [ht] at hP1
  obtain ⟨hP, hD⟩ := va_join (wr := []) (w1 := [(to, .inr (4, [.ref rr, w1, .int (nI (((j + 1) + 1) + 1))])), (rr, .inl (y 0, N, .inl f18))]) hP hD [0, 1] [] rfl rfl (by decide) (by decide) hk1 hFc hP1 hD1
  generalize H1 = H at hP hS ⊢
  have hP : va_P D vwCl [(to, .inr (4, [.ref rr, w1, .int (nI (((j + 1) + 1) + 1))])), (rr, .inl (y 0, N, .inl f18))] H := hP
  have hD : va_D A [(to, .inr (4, [.ref rr, w1, .int (nI (((j + 1) + 1) + 1))])), (rr, .inl (y 0, N, .inl f18))] := hD
  refine lv_iinc (v := 3) (lv' := [(4, .int 3), (0, .long 11994318), (2, .int 3), (3, .ref to)]) hx hb dX9_writeGroup_41 hl (k := 0) rfl (by decide) (by decide) rfl (fun ls hl => ?_)
  refine lv_goto (tgt := 3) hx hb dX9_writeGroup_44 (by decide) ?_
  refine lv_iload hx hb dX9_writeGroup_3 (lv_at hl 0 rfl) ?_
  refine lv_iconst (v := 4) hx hb dX9_writeGroup_5 (by decide) ?_
  refine lv_icmp_ge (tgt := 47) hx hb dX9_writeGroup_6 (by decide) (fun c9 => absurd c9 (by decide)) (fun _ => ?_)
  refine lv_aload_n hx hb dX9_writeGroup_9 rfl (lv_at hl 3 rfl) ?_
  refine lv_iload hx hb dX9_writeGroup_10 (lv_at hl 0 rfl) ?_
  refine lv_iload_n hx hb dX9_writeGroup_12 rfl (lv_at hl 2 rfl) ?_
  refine lv_icmp_gt (tgt := 36) hx hb dX9_writeGroup_13 (by decide) (fun c9 => absurd c9 (by decide)) (fun _ => ?_)
  refine lv_lload_n hx hb dX9_writeGroup_16 rfl (lv_at hl 1 rfl) ?_
  refine lv_bipush (v := 18) hx hb dX9_writeGroup_17 (by decide) ?_
  refine lv_bipush (v := 6) hx hb dX9_writeGroup_19 (by decide) ?_
  refine lv_iload hx hb dX9_writeGroup_21 (lv_at hl 0 rfl) ?_
  refine lv_imul hx hb dX9_writeGroup_23 ?_
  refine lv_topi (fun v19 ev19 => ?_)
  have ev19 : v19 = 18 := ev19.trans (by decide +kernel)
  subst ev19
  refine lv_isub hx hb dX9_writeGroup_24 ?_
  refine lv_topi (fun v20 ev20 => ?_)
  have ev20 : v20 = 0 := ev20.trans (by decide +kernel)
  subst ev20
  refine lv_lshr hx hb dX9_writeGroup_25 rfl ?_
  refine lv_topl (fun v21 ev21 => ?_)
  have ev21 : v21 = 11994318 := ev21.trans (by decide +kernel)
  subst ev21
  refine lv_l2i (v := 11994318) hx hb dX9_writeGroup_26 (by decide +kernel) ?_
  refine lv_bipush (v := 63) hx hb dX9_writeGroup_27 (by decide) ?_
  refine lv_iand hx hb dX9_writeGroup_29 ?_
  refine lv_topi (fun v22 ev22 => ?_)
  have ev22 : v22 = 14 := ev22.trans (by decide +kernel)
  subst ev22
  have hPc := hP.sub (ws' := []) [] rfl
  have hDc := hD.sub (ws' := []) [] (by decide) rfl
  have hFc := va_free (wc := []) hD hS hA [] rfl
  refine va_calli (va_runS (As := [.int 14]) (rest := [.ref to]) ⟨hx, hb, hml, hown, hts⟩ (c_X9_signOf_14 l D y H.size ) (va_cwS 1 hts gv_c_X9_writeGroup_c_X9_signOf_14_161 rfl rfl rfl (by decide +kernel) ⟨(Nat.le_of_ble_eq_true rfl), (Nat.le_of_ble_eq_true rfl)⟩) (zB.preS hPc hDc hK hN hE hO hT hG hS hFc (fun _ h => nomatch h) (fun _ h => nomatch h) (fun _ h => nomatch h) (fun _ h => nomatch h)) rfl rfl hl.1 rfl (lv_room (Nat.le_of_ble_eq_true rfl)) dX9_writeGroup_30 ⟨(Nat.le_of_ble_eq_true rfl), (Nat.le_of_ble_eq_true rfl)⟩) hS (fun q _ h => hFc q h) hFc (fun r23 u t H1 locs ht hvm hw hB hz1 hk1 hS => ?_)
  obtain ⟨hP1, hD1⟩ := hB
  rw [ht] at hP1
  obtain ⟨hP, hD⟩ := va_join (wr := [(to, .inr (4, [.ref rr, w1, .int (nI (((j + 1) + 1) + 1))])), (rr, .inl (y 0, N, .inl f18))]) (w1 := []) hP hD [] [0, 1] rfl rfl (by decide) (by decide) hk1 hFc hP1 hD1
  generalize H1 = H at hP hS ⊢
  have hP : va_P D vwCl [(to, .inr (4, [.ref rr, w1, .int (nI (((j + 1) + 1) + 1))])), (rr, .inl (y 0, N, .inl f18))] H := hP
  have hD : va_D A [(to, .inr (4, [.ref rr, w1, .int (nI (((j + 1) + 1) + 1))])), (rr, .inl (y 0, N, .inl f18))] := hD
  have hw : r23 = 79 := hw
  subst hw
  refine lv_goto (tgt := 38) hx hb dX9_writeGroup_33 (by decide) ?_
  have hPc := hP.sub (ws' := [(to, .inr (4, [.ref rr, w1, .int (nI (((j + 1) + 1) + 1))])), (rr, .inl (y 0, N, .inl f18))]) [0, 1] rfl
  have hDc := hD.sub (ws' := [(to, .inr (4, [.ref rr, w1, .int (nI (((j + 1) + 1) + 1))])), (rr, .inl (y 0, N, .inl f18))]) [0, 1] (by decide) rfl
  have hFc := va_free (wc := [(to, .inr (4, [.ref rr, w1, .int (nI (((j + 1) + 1) + 1))])), (rr, .inl (y 0, N, .inl f18))]) hD hS hA [0, 1] rfl
  refine va_callv (va_runV (As := [.int 79]) (rest := []) ⟨hx, hb, hml, hown, hts⟩ (c_X0_push l D y H.size to rr N ((((j + 1) + 1) + 1)) w1 f18 79 (by omega) (by omega)) (cwV 1 hts gv_c_X9_writeGroup_c_X0_push_135 rfl rfl rfl (by decide +kernel) ⟨(Nat.le_of_ble_eq_true rfl), (Nat.le_of_ble_eq_true rfl)⟩) (zB.preV hPc hDc hK hN hE hO hT hG hS hFc (fun _ h => nomatch h) (fun _ h => nomatch h) (fun _ h => nomatch h) (fun _ h => nomatch h) (va_recv hK hPc (ci := 4) (q0 := 0) rfl rfl)) rfl rfl hl.1 rfl (lv_room (Nat.le_of_ble_eq_true rfl)) dX9_writeGroup_38 ⟨(Nat.le_of_ble_eq_true rfl), (Nat.le_of_ble_eq_true rfl)⟩) hS (fun q _ h => hFc q h) hFc (fun u t H1 locs ht hvm hw hB hz1 hk1 hS => ?_)
  obtain ⟨f24, hP1, hD1⟩ := hB
  rw [ht] at hP1
  obtain ⟨hP, hD⟩ := va_join (wr := []) (w1 := [(to, .inr (4, [.ref rr, w1, .int (nI ((((j + 1) + 1) + 1) + 1))])), (rr, .inl (y 0, N, .inl f24))]) hP hD [0, 1] [] rfl rfl (by decide) (by decide) hk1 hFc hP1 hD1
  generalize H1 = H at hP hS ⊢
  have hP : va_P D vwCl [(to, .inr (4, [.ref rr, w1, .int (nI ((((j + 1) + 1) + 1) + 1))])), (rr, .inl (y 0, N, .inl f24))] H := hP
  have hD : va_D A [(to, .inr (4, [.ref rr, w1, .int (nI ((((j + 1) + 1) + 1) + 1))])), (rr, .inl (y 0, N, .inl f24))] := hD
  refine lv_iinc (v := 4) (lv' := [(4, .int 4), (0, .long 11994318), (2, .int 3), (3, .ref to)]) hx hb dX9_writeGroup_41 hl (k := 0) rfl (by decide) (by decide) rfl (fun ls hl => ?_)
  refine lv_goto (tgt := 3) hx hb dX9_writeGroup_44 (by decide) ?_
  refine lv_iload hx hb dX9_writeGroup_3 (lv_at hl 0 rfl) ?_
  refine lv_iconst (v := 4) hx hb dX9_writeGroup_5 (by decide) ?_
  refine lv_icmp_ge (tgt := 47) hx hb dX9_writeGroup_6 (by decide) (fun _ => ?_) (fun c9 => absurd (by decide) c9)
  have hP9 := hP.sub (ws' := [(to, .inr (4, [.ref rr, w1, .int (nI ((((j + 1) + 1) + 1) + 1))])), (rr, .inl (y 0, N, .inl f24))]) [0, 1] rfl
  have hD9 := hD.sub (ws' := [(to, .inr (4, [.ref rr, w1, .int (nI ((((j + 1) + 1) + 1) + 1))])), (rr, .inl (y 0, N, .inl f24))]) [0, 1] (by decide) rfl
  refine W.widen (k := 0) (n := 0) (Nat.le_of_ble_eq_true rfl) (Nat.le_of_ble_eq_true rfl) ?_
  exact W.vret hx hb hr (fun t ht hW => ⟨⟨(), rfl, trivial, f24, by rw [ht]; exact hP9, hD9⟩, hS.F ht⟩) hS.2.2 dX9_writeGroup_47
def wz_c_X9_label_0 : List Cond := .code yX9_label cX9_label 1 (some (.object "java/lang/String")) :: ([] ++ ([]))
set_option maxHeartbeats 4000000 in
set_option maxRecDepth 100000 in
theorem c_X9_label_0 (l : Launch) (D : va_G) (y : Nat → ClassId) (sz : Nat) (sa1 : Nat) (st1 : Nat) : Met l yX9_label wz_c_X9_label_0 ({ frames := 0, cells := 0, slots := 0, locals := 0 }) (va_Pc [.int 0] (zB D y [] sz [] [] [] [.inr (.inl (sa1, st1, 11, zs1)), .inr (.inr (.inl (RX9, 24, "SEALED KEYS", sa1)))])) (va_Qq (fun (r : Option Nat) (_ : Unit) => r = some sa1) (fun _ t => va_P D vwCl [] t.heap ∧ va_D (va_A [] sz) []) (va_A [] sz)) 0 0 (va_A [] sz) := by
  refine Met.ofW (cc := cX9_label) (maxL := 1) (ret := (some (.object "java/lang/String"))) (by decide) rfl ?_
  intro p e s m args below meth c s₁ B hml hv
  obtain ⟨rfl, hsz, hP, hK, hD0, hN, hE, hO, hT, hG⟩ := hv
  have hx := B.exec
  have hb := B.bytes
  have hr := B.returns
  have hts := atoms_spec (ws := wz_c_X9_label_0) B.pre
  have hown : s.vm.findClass RX9 = some m.cls := findClass_of_methodNamed B.named
  have hlocks := B.notSynchronized
  subst hsz
  have hD := hD0.self (sz := s.heap.size)
  generalize hAe : va_A [] s.heap.size = A at hD hE hT hG ⊢
  have hA : ∀ q : Nat, s.heap.size ≤ q → A q := fun q h => by rw [← hAe]; exact Or.inr h
  have hS : va_S A s.heap s.heap [] := va_S.rf
  have hl := lv_entry ([.int 0]) (n := 1) (Nat.le_of_ble_eq_true rfl)
  rw [lg_entry_eq]
  generalize (lg_sl ([.int 0]) ++ List.replicate (1 - (lg_sl ([.int 0])).length) Slot.unset).toArray = ls at hl ⊢
  have hl : lv_has ls 1 [(0, .int 0)] := hl
  refine lv_iload_n hx hb dX9_label_0 rfl (lv_at hl 0 rfl) ?_
  refine lv_if_ne (tgt := 9) hx hb dX9_label_1 (by decide) (fun c9 => absurd (by decide) c9) (fun _ => ?_)
  refine va_ldcS hx hb hown (show vk_R RX9 24 "SEALED KEYS" sa1 s from (hG (.inr (.inr (.inl (RX9, 24, "SEALED KEYS", sa1)))) (List.mem_of_getElem? (i := 1) rfl))) dX9_label_4 ?_
  refine lv_goto (tgt := 21) hx hb dX9_label_6 (by decide) ?_
  have hP9 := hP.sub (ws' := []) [] rfl
  have hD9 := hD.sub (ws' := []) [] (by decide) rfl
  refine W.widen (k := 0) (n := 0) (Nat.le_of_ble_eq_true rfl) (Nat.le_of_ble_eq_true rfl) ?_
  exact W.aret (v := .ref sa1) hx hb hr (Or.inl ⟨_, rfl⟩) (Or.inr ⟨_, rfl⟩) (fun t ht hW => ⟨⟨(some sa1), (), rfl, rfl, by rw [ht]; exact hP9, hD9⟩, hS.F ht⟩) hS.2.2 dX9_label_21
def wz_c_X9_label_1 : List Cond := .code yX9_label cX9_label 1 (some (.object "java/lang/String")) :: ([] ++ ([]))
set_option maxHeartbeats 4000000 in
set_option maxRecDepth 100000 in
theorem c_X9_label_1 (l : Launch) (D : va_G) (y : Nat → ClassId) (sz : Nat) (sa2 : Nat) (st2 : Nat) : Met l yX9_label wz_c_X9_label_1 ({ frames := 0, cells := 0, slots := 0, locals := 0 }) (va_Pc [.int 1] (zB D y [] sz [] [] [] [.inr (.inl (sa2, st2, 4, zs2)), .inr (.inr (.inl (RX9, 26, "SEAL", sa2)))])) (va_Qq (fun (r : Option Nat) (_ : Unit) => r = some sa2) (fun _ t => va_P D vwCl [] t.heap ∧ va_D (va_A [] sz) []) (va_A [] sz)) 0 0 (va_A [] sz) := by
  refine Met.ofW (cc := cX9_label) (maxL := 1) (ret := (some (.object "java/lang/String"))) (by decide) rfl ?_
  intro p e s m args below meth c s₁ B hml hv
  obtain ⟨rfl, hsz, hP, hK, hD0, hN, hE, hO, hT, hG⟩ := hv
  have hx := B.exec
  have hb := B.bytes
  have hr := B.returns
  have hts := atoms_spec (ws := wz_c_X9_label_1) B.pre
  have hown : s.vm.findClass RX9 = some m.cls := findClass_of_methodNamed B.named
  have hlocks := B.notSynchronized
  subst hsz
  have hD := hD0.self (sz := s.heap.size)
  generalize hAe : va_A [] s.heap.size = A at hD hE hT hG ⊢
  have hA : ∀ q : Nat, s.heap.size ≤ q → A q := fun q h => by rw [← hAe]; exact Or.inr h
  have hS : va_S A s.heap s.heap [] := va_S.rf
  have hl := lv_entry ([.int 1]) (n := 1) (Nat.le_of_ble_eq_true rfl)
  rw [lg_entry_eq]
  generalize (lg_sl ([.int 1]) ++ List.replicate (1 - (lg_sl ([.int 1])).length) Slot.unset).toArray = ls at hl ⊢
  have hl : lv_has ls 1 [(0, .int 1)] := hl
  refine lv_iload_n hx hb dX9_label_0 rfl (lv_at hl 0 rfl) ?_
  refine lv_if_ne (tgt := 9) hx hb dX9_label_1 (by decide) (fun _ => ?_) (fun c9 => absurd c9 (by decide))
  refine lv_iload_n hx hb dX9_label_9 rfl (lv_at hl 0 rfl) ?_
  refine lv_iconst (v := 1) hx hb dX9_label_10 (by decide) ?_
  refine lv_icmp_ne (tgt := 19) hx hb dX9_label_11 (by decide) (fun c9 => absurd (by decide) c9) (fun _ => ?_)
  refine va_ldcS hx hb hown (show vk_R RX9 26 "SEAL" sa2 s from (hG (.inr (.inr (.inl (RX9, 26, "SEAL", sa2)))) (List.mem_of_getElem? (i := 1) rfl))) dX9_label_14 ?_
  refine lv_goto (tgt := 21) hx hb dX9_label_16 (by decide) ?_
  have hP9 := hP.sub (ws' := []) [] rfl
  have hD9 := hD.sub (ws' := []) [] (by decide) rfl
  refine W.widen (k := 0) (n := 0) (Nat.le_of_ble_eq_true rfl) (Nat.le_of_ble_eq_true rfl) ?_
  exact W.aret (v := .ref sa2) hx hb hr (Or.inl ⟨_, rfl⟩) (Or.inr ⟨_, rfl⟩) (fun t ht hW => ⟨⟨(some sa2), (), rfl, rfl, by rw [ht]; exact hP9, hD9⟩, hS.F ht⟩) hS.2.2 dX9_label_21
def wz_c_X9_label_2 : List Cond := .code yX9_label cX9_label 1 (some (.object "java/lang/String")) :: ([] ++ ([]))
set_option maxHeartbeats 4000000 in
set_option maxRecDepth 100000 in
theorem c_X9_label_2 (l : Launch) (D : va_G) (y : Nat → ClassId) (sz : Nat) (sa3 : Nat) (st3 : Nat) : Met l yX9_label wz_c_X9_label_2 ({ frames := 0, cells := 0, slots := 0, locals := 0 }) (va_Pc [.int 2] (zB D y [] sz [] [] [] [.inr (.inl (sa3, st3, 13, zs3)), .inr (.inr (.inl (RX9, 28, "SEALED LETTER", sa3)))])) (va_Qq (fun (r : Option Nat) (_ : Unit) => r = some sa3) (fun _ t => va_P D vwCl [] t.heap ∧ va_D (va_A [] sz) []) (va_A [] sz)) 0 0 (va_A [] sz) := by
  refine Met.ofW (cc := cX9_label) (maxL := 1) (ret := (some (.object "java/lang/String"))) (by decide) rfl ?_
  intro p e s m args below meth c s₁ B hml hv
  obtain ⟨rfl, hsz, hP, hK, hD0, hN, hE, hO, hT, hG⟩ := hv
  have hx := B.exec
  have hb := B.bytes
  have hr := B.returns
  have hts := atoms_spec (ws := wz_c_X9_label_2) B.pre
  have hown : s.vm.findClass RX9 = some m.cls := findClass_of_methodNamed B.named
  have hlocks := B.notSynchronized
  subst hsz
  have hD := hD0.self (sz := s.heap.size)
  generalize hAe : va_A [] s.heap.size = A at hD hE hT hG ⊢
  have hA : ∀ q : Nat, s.heap.size ≤ q → A q := fun q h => by rw [← hAe]; exact Or.inr h
  have hS : va_S A s.heap s.heap [] := va_S.rf
  have hl := lv_entry ([.int 2]) (n := 1) (Nat.le_of_ble_eq_true rfl)
  rw [lg_entry_eq]
  generalize (lg_sl ([.int 2]) ++ List.replicate (1 - (lg_sl ([.int 2])).length) Slot.unset).toArray = ls at hl ⊢
  have hl : lv_has ls 1 [(0, .int 2)] := hl
  refine lv_iload_n hx hb dX9_label_0 rfl (lv_at hl 0 rfl) ?_
  refine lv_if_ne (tgt := 9) hx hb dX9_label_1 (by decide) (fun _ => ?_) (fun c9 => absurd c9 (by decide))
  refine lv_iload_n hx hb dX9_label_9 rfl (lv_at hl 0 rfl) ?_
  refine lv_iconst (v := 1) hx hb dX9_label_10 (by decide) ?_
  refine lv_icmp_ne (tgt := 19) hx hb dX9_label_11 (by decide) (fun _ => ?_) (fun c9 => absurd c9 (by decide))
  refine va_ldcS hx hb hown (show vk_R RX9 28 "SEALED LETTER" sa3 s from (hG (.inr (.inr (.inl (RX9, 28, "SEALED LETTER", sa3)))) (List.mem_of_getElem? (i := 1) rfl))) dX9_label_19 ?_
  have hP9 := hP.sub (ws' := []) [] rfl
  have hD9 := hD.sub (ws' := []) [] (by decide) rfl
  refine W.widen (k := 0) (n := 0) (Nat.le_of_ble_eq_true rfl) (Nat.le_of_ble_eq_true rfl) ?_
  exact W.aret (v := .ref sa3) hx hb hr (Or.inl ⟨_, rfl⟩) (Or.inr ⟨_, rfl⟩) (fun t ht hW => ⟨⟨(some sa3), (), rfl, rfl, by rw [ht]; exact hP9, hD9⟩, hS.F ht⟩) hS.2.2 dX9_label_21
def wz_c_X9_write_0 : List Cond := .code yX9_write cX9_write 4 none :: ([.methodLink RX9 149 yX0_pushText, .instanceMethod yX0_pushText, .selects RX0 yX0_pushText yX0_pushText, .initialized RX0, .methodLink RX9 84 yX9_label, .static yX9_label, .initialized RX9, .methodLink RX9 135 yX0_push, .instanceMethod yX0_push, .selects RX0 yX0_push yX0_push, .fieldLink RX9 31 "SignetRing$Span" "size" "I", .methodLink RX9 138 yX9_sumOf, .static yX9_sumOf, .methodLink RX9 157 yX9_writeGroup, .static yX9_writeGroup] ++ (wsX00 ++ (wz_c_X0_pushText_11 ++ (wz_c_X9_label_0 ++ (wz_c_X0_pushText_5 ++ (wz_c_X0_push ++ (wz_c_X9_sumOf ++ (wz_c_X9_writeGroup ++ (wz_c_X0_pushText_9 ++ ([]))))))))))
set_option maxRecDepth 100000 in
theorem gz_c_X9_write_0_c_X0_pushText_11 : GoodIn wz_c_X9_write_0 wz_c_X0_pushText_11 := goodIn_sub (fun w h => List.mem_cons_of_mem _ (List.mem_append_right _ (List.mem_append_right _ (List.mem_append_left _ h)))) (by decide +kernel)
set_option maxRecDepth 100000 in
theorem gz_c_X9_write_0_c_X9_label_0 : GoodIn wz_c_X9_write_0 wz_c_X9_label_0 := goodIn_sub (fun w h => List.mem_cons_of_mem _ (List.mem_append_right _ (List.mem_append_right _ (List.mem_append_right _ (List.mem_append_left _ h))))) (by decide +kernel)
set_option maxRecDepth 100000 in
theorem gz_c_X9_write_0_c_X0_pushText_5 : GoodIn wz_c_X9_write_0 wz_c_X0_pushText_5 := goodIn_sub (fun w h => List.mem_cons_of_mem _ (List.mem_append_right _ (List.mem_append_right _ (List.mem_append_right _ (List.mem_append_right _ (List.mem_append_left _ h)))))) (by decide +kernel)
set_option maxRecDepth 100000 in
theorem gz_c_X9_write_0_c_X0_push : GoodIn wz_c_X9_write_0 wz_c_X0_push := goodIn_sub (fun w h => List.mem_cons_of_mem _ (List.mem_append_right _ (List.mem_append_right _ (List.mem_append_right _ (List.mem_append_right _ (List.mem_append_right _ (List.mem_append_left _ h))))))) (by decide +kernel)
set_option maxRecDepth 100000 in
theorem gz_c_X9_write_0_c_X9_sumOf : GoodIn wz_c_X9_write_0 wz_c_X9_sumOf := goodIn_sub (fun w h => List.mem_cons_of_mem _ (List.mem_append_right _ (List.mem_append_right _ (List.mem_append_right _ (List.mem_append_right _ (List.mem_append_right _ (List.mem_append_right _ (List.mem_append_left _ h)))))))) (by decide +kernel)
set_option maxRecDepth 100000 in
theorem gz_c_X9_write_0_c_X9_writeGroup : GoodIn wz_c_X9_write_0 wz_c_X9_writeGroup := goodIn_sub (fun w h => List.mem_cons_of_mem _ (List.mem_append_right _ (List.mem_append_right _ (List.mem_append_right _ (List.mem_append_right _ (List.mem_append_right _ (List.mem_append_right _ (List.mem_append_right _ (List.mem_append_left _ h))))))))) (by decide +kernel)
set_option maxRecDepth 100000 in
theorem gz_c_X9_write_0_c_X0_pushText_9 : GoodIn wz_c_X9_write_0 wz_c_X0_pushText_9 := goodIn_sub (fun w h => List.mem_cons_of_mem _ (List.mem_append_right _ (List.mem_append_right _ (List.mem_append_right _ (List.mem_append_right _ (List.mem_append_right _ (List.mem_append_right _ (List.mem_append_right _ (List.mem_append_right _ (List.mem_append_left _ h)))))))))) (by decide +kernel)
set_option maxRecDepth 100000 in
theorem gv_c_X9_write_0_c_X0_pushText_11_149 : GoodIn wz_c_X9_write_0 (wsV RX9 149 RX0 yX0_pushText wz_c_X0_pushText_11) := goodIn_app (goodIn_of _ (by decide +kernel)) gz_c_X9_write_0_c_X0_pushText_11
set_option maxRecDepth 100000 in
theorem gv_c_X9_write_0_c_X9_label_0_84 : GoodIn wz_c_X9_write_0 (va_wsS RX9 84 yX9_label wz_c_X9_label_0) := goodIn_app (goodIn_of _ (by decide +kernel)) gz_c_X9_write_0_c_X9_label_0
set_option maxRecDepth 100000 in
theorem gv_c_X9_write_0_c_X0_pushText_5_149 : GoodIn wz_c_X9_write_0 (wsV RX9 149 RX0 yX0_pushText wz_c_X0_pushText_5) := goodIn_app (goodIn_of _ (by decide +kernel)) gz_c_X9_write_0_c_X0_pushText_5
set_option maxRecDepth 100000 in
theorem gv_c_X9_write_0_c_X0_push_135 : GoodIn wz_c_X9_write_0 (wsV RX9 135 RX0 yX0_push wz_c_X0_push) := goodIn_app (goodIn_of _ (by decide +kernel)) gz_c_X9_write_0_c_X0_push
set_option maxRecDepth 100000 in
theorem gv_c_X9_write_0_c_X9_sumOf_138 : GoodIn wz_c_X9_write_0 (va_wsS RX9 138 yX9_sumOf wz_c_X9_sumOf) := goodIn_app (goodIn_of _ (by decide +kernel)) gz_c_X9_write_0_c_X9_sumOf
set_option maxRecDepth 100000 in
theorem gv_c_X9_write_0_c_X9_writeGroup_157 : GoodIn wz_c_X9_write_0 (va_wsS RX9 157 yX9_writeGroup wz_c_X9_writeGroup) := goodIn_app (goodIn_of _ (by decide +kernel)) gz_c_X9_write_0_c_X9_writeGroup
set_option maxRecDepth 100000 in
theorem gv_c_X9_write_0_c_X0_pushText_9_149 : GoodIn wz_c_X9_write_0 (wsV RX9 149 RX0 yX0_pushText wz_c_X0_pushText_9) := goodIn_app (goodIn_of _ (by decide +kernel)) gz_c_X9_write_0_c_X0_pushText_9
set_option maxHeartbeats 4000000 in
set_option maxRecDepth 100000 in
theorem c_X9_write_0 (l : Launch) (D : va_G) (y : Nat → ClassId) (sz : Nat) (fr : Nat) (to : Nat) (rr : Nat) (w1 : Value) (w2 : Value) (w3 : Value) (g : Nat → Int32) (sa0 : Nat) (st0 : Nat) (sa1 : Nat) (st1 : Nat) (sa4 : Nat) (st4 : Nat) (sa5 : Nat) (st5 : Nat) : Met l yX9_write wz_c_X9_write_0 ({ frames := 5, cells := 0, slots := 0, locals := 107 }) (va_Pc [.ref fr, .int 0, .ref to] (zB D y [(fr, .inr (4, [w1, w2, .int 0])), (to, .inr (4, [.ref rr, w3, .int (nI 0)])), (rr, .inl (y 0, 1024, .inl g))] sz [] [("java/lang/String", "COMPACT_STRINGS", "Z", .int 1)] [] [.inr (.inl (sa0, st0, 11, zs0)), .inr (.inr (.inl (RX9, 82, "-----BEGIN ", sa0))), .inr (.inr (.inr (.inr ("jdk/internal/util/Preconditions", "SIOOBE_FORMATTER", "Ljava/util/function/BiFunction;")))), .inr (.inl (sa1, st1, 11, zs1)), .inr (.inr (.inl (RX9, 24, "SEALED KEYS", sa1))), .inr (.inl (sa4, st4, 5, zs4)), .inr (.inr (.inl (RX9, 80, "-----", sa4))), .inr (.inl (sa5, st5, 9, zs5)), .inr (.inr (.inl (RX9, 113, "-----END ", sa5)))])) (va_Qv (fun _ : Unit => True) (fun _ t => ∃ fz0 : Nat → Int32, va_P D vwCl [(fr, .inr (4, [w1, w2, .int 0])), (to, .inr (4, [.ref rr, w3, .int (nI 61)])), (rr, .inl (y 0, 1024, .inl fz0))] t.heap ∧ va_D (va_A [(fr, .inr (4, [w1, w2, .int 0])), (to, .inr (4, [.ref rr, w3, .int (nI 0)])), (rr, .inl (y 0, 1024, .inl g))] sz) [(fr, .inr (4, [w1, w2, .int 0])), (to, .inr (4, [.ref rr, w3, .int (nI 61)])), (rr, .inl (y 0, 1024, .inl fz0))]) (va_A [(fr, .inr (4, [w1, w2, .int 0])), (to, .inr (4, [.ref rr, w3, .int (nI 0)])), (rr, .inl (y 0, 1024, .inl g))] sz)) 0 0 (va_A [(fr, .inr (4, [w1, w2, .int 0])), (to, .inr (4, [.ref rr, w3, .int (nI 0)])), (rr, .inl (y 0, 1024, .inl g))] sz) := by
  refine Met.ofW (cc := cX9_write) (maxL := 4) (ret := none) (by decide) rfl ?_
  intro p e s m args below meth c s₁ B hml hv
  obtain ⟨rfl, hsz, hP, hK, hD0, hN, hE, hO, hT, hG⟩ := hv
  have hx := B.exec
  have hb := B.bytes
  have hr := B.returns
  have hts := atoms_spec (ws := wz_c_X9_write_0) B.pre
  have hown : s.vm.findClass RX9 = some m.cls := findClass_of_methodNamed B.named
  have hlocks := B.notSynchronized
  subst hsz
  have hD := hD0.self (sz := s.heap.size)
  generalize hAe : va_A [(fr, .inr (4, [w1, w2, .int 0])), (to, .inr (4, [.ref rr, w3, .int (nI 0)])), (rr, .inl (y 0, 1024, .inl g))] s.heap.size = A at hD hE hT hG ⊢
  have hA : ∀ q : Nat, s.heap.size ≤ q → A q := fun q h => by rw [← hAe]; exact Or.inr h
  have hS : va_S A s.heap s.heap [] := va_S.rf
  have hl := lv_entry ([.ref fr, .int 0, .ref to]) (n := 4) (Nat.le_of_ble_eq_true rfl)
  rw [lg_entry_eq]
  generalize (lg_sl ([.ref fr, .int 0, .ref to]) ++ List.replicate (4 - (lg_sl ([.ref fr, .int 0, .ref to])).length) Slot.unset).toArray = ls at hl ⊢
  have hl : lv_has ls 4 [(0, .ref fr), (1, .int 0), (2, .ref to)] := hl
  refine lv_aload_n hx hb dX9_write_0 rfl (lv_at hl 2 rfl) ?_
  refine va_ldcS hx hb hown (show vk_R RX9 82 "-----BEGIN " sa0 s from (hG (.inr (.inr (.inl (RX9, 82, "-----BEGIN ", sa0)))) (List.mem_of_getElem? (i := 1) rfl))) dX9_write_1 ?_
  have hPc := hP.sub (ws' := [(to, .inr (4, [.ref rr, w3, .int (nI 0)])), (rr, .inl (y 0, 1024, .inl g))]) [1, 2] rfl
  have hDc := hD.sub (ws' := [(to, .inr (4, [.ref rr, w3, .int (nI 0)])), (rr, .inl (y 0, 1024, .inl g))]) [1, 2] (by decide) rfl
  have hFc := va_free (wc := [(to, .inr (4, [.ref rr, w3, .int (nI 0)])), (rr, .inl (y 0, 1024, .inl g))]) hD hS hA [1, 2] rfl
  refine va_callv (va_runV (As := [.ref sa0]) (rest := []) ⟨hx, hb, hml, hown, hts⟩ (c_X0_pushText_11 l D y s.heap.size to rr 1024 0 sa0 st0 w3 g zs0 (by decide) (by decide)) (cwV 1 hts gv_c_X9_write_0_c_X0_pushText_11_149 rfl rfl rfl (by decide +kernel) ⟨(Nat.le_of_ble_eq_true rfl), (Nat.le_of_ble_eq_true rfl)⟩) (zB.preV hPc hDc hK hN hE hO hT hG hS hFc (fun _ h => nomatch h) (List.forall_mem_cons.mpr ⟨List.mem_of_getElem? (i := 0) rfl, (fun _ h => nomatch h)⟩) (fun _ h => nomatch h) (List.forall_mem_cons.mpr ⟨List.mem_of_getElem? (i := 0) rfl, (List.forall_mem_cons.mpr ⟨List.mem_of_getElem? (i := 2) rfl, (fun _ h => nomatch h)⟩)⟩) (va_recv hK hPc (ci := 4) (q0 := 0) rfl rfl)) rfl rfl hl.1 rfl (lv_room (Nat.le_of_ble_eq_true rfl)) dX9_write_3 ⟨(Nat.le_of_ble_eq_true rfl), (Nat.le_of_ble_eq_true rfl)⟩) hS (fun q _ h => hFc q h) hFc (fun u t H1 locs ht hvm hw hB hz1 hk1 hS => ?_)
  obtain ⟨f1, hP1, hD1⟩ := hB
  rw [ht] at hP1
  obtain ⟨hP, hD⟩ := va_join (wr := [(fr, .inr (4, [w1, w2, .int 0]))]) (w1 := [(to, .inr (4, [.ref rr, w3, .int (nI 11)])), (rr, .inl (y 0, 1024, .inl f1))]) hP hD [1, 2] [0] rfl rfl (by decide) (by decide) hk1 hFc hP1 hD1
  generalize H1 = H at hP hS ⊢
  have hP : va_P D vwCl [(fr, .inr (4, [w1, w2, .int 0])), (to, .inr (4, [.ref rr, w3, .int (nI 11)])), (rr, .inl (y 0, 1024, .inl f1))] H := hP
  have hD : va_D A [(fr, .inr (4, [w1, w2, .int 0])), (to, .inr (4, [.ref rr, w3, .int (nI 11)])), (rr, .inl (y 0, 1024, .inl f1))] := hD
  refine lv_aload_n hx hb dX9_write_6 rfl (lv_at hl 2 rfl) ?_
  refine lv_iload_n hx hb dX9_write_7 rfl (lv_at hl 1 rfl) ?_
  have hPc := hP.sub (ws' := []) [] rfl
  have hDc := hD.sub (ws' := []) [] (by decide) rfl
  have hFc := va_free (wc := []) hD hS hA [] rfl
  refine va_callq (va_runS (As := [.int 0]) (rest := [.ref to]) ⟨hx, hb, hml, hown, hts⟩ (c_X9_label_0 l D y H.size sa1 st1) (va_cwS 1 hts gv_c_X9_write_0_c_X9_label_0_84 rfl rfl rfl (by decide +kernel) ⟨(Nat.le_of_ble_eq_true rfl), (Nat.le_of_ble_eq_true rfl)⟩) (zB.preS hPc hDc hK hN hE hO hT hG hS hFc (fun _ h => nomatch h) (fun _ h => nomatch h) (fun _ h => nomatch h) (List.forall_mem_cons.mpr ⟨List.mem_of_getElem? (i := 3) rfl, (List.forall_mem_cons.mpr ⟨List.mem_of_getElem? (i := 4) rfl, (fun _ h => nomatch h)⟩)⟩)) rfl rfl hl.1 rfl (lv_room (Nat.le_of_ble_eq_true rfl)) dX9_write_8 ⟨(Nat.le_of_ble_eq_true rfl), (Nat.le_of_ble_eq_true rfl)⟩) hS (fun q _ h => hFc q h) hFc (fun r2 u t H1 locs ht hvm hw hB hz1 hk1 hS => ?_)
  obtain ⟨hP1, hD1⟩ := hB
  rw [ht] at hP1
  obtain ⟨hP, hD⟩ := va_join (wr := [(fr, .inr (4, [w1, w2, .int 0])), (to, .inr (4, [.ref rr, w3, .int (nI 11)])), (rr, .inl (y 0, 1024, .inl f1))]) (w1 := []) hP hD [] [0, 1, 2] rfl rfl (by decide) (by decide) hk1 hFc hP1 hD1
  generalize H1 = H at hP hS ⊢
  have hP : va_P D vwCl [(fr, .inr (4, [w1, w2, .int 0])), (to, .inr (4, [.ref rr, w3, .int (nI 11)])), (rr, .inl (y 0, 1024, .inl f1))] H := hP
  have hD : va_D A [(fr, .inr (4, [w1, w2, .int 0])), (to, .inr (4, [.ref rr, w3, .int (nI 11)])), (rr, .inl (y 0, 1024, .inl f1))] := hD
  have hw : r2 = some sa1 := hw
  subst hw
  refine W.eq (g2 := F0 m 11 ls [.ref sa1, .ref to]) rfl ?_
  have hPc := hP.sub (ws' := [(to, .inr (4, [.ref rr, w3, .int (nI 11)])), (rr, .inl (y 0, 1024, .inl f1))]) [1, 2] rfl
  have hDc := hD.sub (ws' := [(to, .inr (4, [.ref rr, w3, .int (nI 11)])), (rr, .inl (y 0, 1024, .inl f1))]) [1, 2] (by decide) rfl
  have hFc := va_free (wc := [(to, .inr (4, [.ref rr, w3, .int (nI 11)])), (rr, .inl (y 0, 1024, .inl f1))]) hD hS hA [1, 2] rfl
  refine va_callv (va_runV (As := [.ref sa1]) (rest := []) ⟨hx, hb, hml, hown, hts⟩ (c_X0_pushText_11 l D y H.size to rr 1024 11 sa1 st1 w3 f1 zs1 (by decide) (by decide)) (cwV 1 hts gv_c_X9_write_0_c_X0_pushText_11_149 rfl rfl rfl (by decide +kernel) ⟨(Nat.le_of_ble_eq_true rfl), (Nat.le_of_ble_eq_true rfl)⟩) (zB.preV hPc hDc hK hN hE hO hT hG hS hFc (fun _ h => nomatch h) (List.forall_mem_cons.mpr ⟨List.mem_of_getElem? (i := 0) rfl, (fun _ h => nomatch h)⟩) (fun _ h => nomatch h) (List.forall_mem_cons.mpr ⟨List.mem_of_getElem? (i := 3) rfl, (List.forall_mem_cons.mpr ⟨List.mem_of_getElem? (i := 2) rfl, (fun _ h => nomatch h)⟩)⟩) (va_recv hK hPc (ci := 4) (q0 := 0) rfl rfl)) rfl rfl hl.1 rfl (lv_room (Nat.le_of_ble_eq_true rfl)) dX9_write_11 ⟨(Nat.le_of_ble_eq_true rfl), (Nat.le_of_ble_eq_true rfl)⟩) hS (fun q _ h => hFc q h) hFc (fun u t H1 locs ht hvm hw hB hz1 hk1 hS => ?_)
  obtain ⟨f3, hP1, hD1⟩ := hB
  rw [ht] at hP1
  obtain ⟨hP, hD⟩ := va_join (wr := [(fr, .inr (4, [w1, w2, .int 0]))]) (w1 := [(to, .inr (4, [.ref rr, w3, .int (nI 22)])), (rr, .inl (y 0, 1024, .inl f3))]) hP hD [1, 2] [0] rfl rfl (by decide) (by decide) hk1 hFc hP1 hD1
  generalize H1 = H at hP hS ⊢
  have hP : va_P D vwCl [(fr, .inr (4, [w1, w2, .int 0])), (to, .inr (4, [.ref rr, w3, .int (nI 22)])), (rr, .inl (y 0, 1024, .inl f3))] H := hP
  have hD : va_D A [(fr, .inr (4, [w1, w2, .int 0])), (to, .inr (4, [.ref rr, w3, .int (nI 22)])), (rr, .inl (y 0, 1024, .inl f3))] := hD
  refine lv_aload_n hx hb dX9_write_14 rfl (lv_at hl 2 rfl) ?_
  refine va_ldcS hx hb hown (show vk_R RX9 80 "-----" sa4 s from (hG (.inr (.inr (.inl (RX9, 80, "-----", sa4)))) (List.mem_of_getElem? (i := 6) rfl))) dX9_write_15 ?_
  have hPc := hP.sub (ws' := [(to, .inr (4, [.ref rr, w3, .int (nI 22)])), (rr, .inl (y 0, 1024, .inl f3))]) [1, 2] rfl
  have hDc := hD.sub (ws' := [(to, .inr (4, [.ref rr, w3, .int (nI 22)])), (rr, .inl (y 0, 1024, .inl f3))]) [1, 2] (by decide) rfl
  have hFc := va_free (wc := [(to, .inr (4, [.ref rr, w3, .int (nI 22)])), (rr, .inl (y 0, 1024, .inl f3))]) hD hS hA [1, 2] rfl
  refine va_callv (va_runV (As := [.ref sa4]) (rest := []) ⟨hx, hb, hml, hown, hts⟩ (c_X0_pushText_5 l D y H.size to rr 1024 22 sa4 st4 w3 f3 zs4 (by decide) (by decide)) (cwV 1 hts gv_c_X9_write_0_c_X0_pushText_5_149 rfl rfl rfl (by decide +kernel) ⟨(Nat.le_of_ble_eq_true rfl), (Nat.le_of_ble_eq_true rfl)⟩) (zB.preV hPc hDc hK hN hE hO hT hG hS hFc (fun _ h => nomatch h) (List.forall_mem_cons.mpr ⟨List.mem_of_getElem? (i := 0) rfl, (fun _ h => nomatch h)⟩) (fun _ h => nomatch h) (List.forall_mem_cons.mpr ⟨List.mem_of_getElem? (i := 5) rfl, (List.forall_mem_cons.mpr ⟨List.mem_of_getElem? (i := 2) rfl, (fun _ h => nomatch h)⟩)⟩) (va_recv hK hPc (ci := 4) (q0 := 0) rfl rfl)) rfl rfl hl.1 rfl (lv_room (Nat.le_of_ble_eq_true rfl)) dX9_write_17 ⟨(Nat.le_of_ble_eq_true rfl), (Nat.le_of_ble_eq_true rfl)⟩) hS (fun q _ h => hFc q h) hFc (fun u t H1 locs ht hvm hw hB hz1 hk1 hS => ?_)
  obtain ⟨f4, hP1, hD1⟩ := hB
  rw [ht] at hP1
  obtain ⟨hP, hD⟩ := va_join (wr := [(fr, .inr (4, [w1, w2, .int 0]))]) (w1 := [(to, .inr (4, [.ref rr, w3, .int (nI 27)])), (rr, .inl (y 0, 1024, .inl f4))]) hP hD [1, 2] [0] rfl rfl (by decide) (by decide) hk1 hFc hP1 hD1
  generalize H1 = H at hP hS ⊢
  have hP : va_P D vwCl [(fr, .inr (4, [w1, w2, .int 0])), (to, .inr (4, [.ref rr, w3, .int (nI 27)])), (rr, .inl (y 0, 1024, .inl f4))] H := hP
  have hD : va_D A [(fr, .inr (4, [w1, w2, .int 0])), (to, .inr (4, [.ref rr, w3, .int (nI 27)])), (rr, .inl (y 0, 1024, .inl f4))] := hD
  refine lv_aload_n hx hb dX9_write_20 rfl (lv_at hl 2 rfl) ?_
  refine lv_bipush (v := 10) hx hb dX9_write_21 (by decide) ?_
  have hPc := hP.sub (ws' := [(to, .inr (4, [.ref rr, w3, .int (nI 27)])), (rr, .inl (y 0, 1024, .inl f4))]) [1, 2] rfl
  have hDc := hD.sub (ws' := [(to, .inr (4, [.ref rr, w3, .int (nI 27)])), (rr, .inl (y 0, 1024, .inl f4))]) [1, 2] (by decide) rfl
  have hFc := va_free (wc := [(to, .inr (4, [.ref rr, w3, .int (nI 27)])), (rr, .inl (y 0, 1024, .inl f4))]) hD hS hA [1, 2] rfl
  refine va_callv (va_runV (As := [.int 10]) (rest := []) ⟨hx, hb, hml, hown, hts⟩ (c_X0_push l D y H.size to rr 1024 27 w3 f4 10 (by decide) (by decide)) (cwV 1 hts gv_c_X9_write_0_c_X0_push_135 rfl rfl rfl (by decide +kernel) ⟨(Nat.le_of_ble_eq_true rfl), (Nat.le_of_ble_eq_true rfl)⟩) (zB.preV hPc hDc hK hN hE hO hT hG hS hFc (fun _ h => nomatch h) (fun _ h => nomatch h) (fun _ h => nomatch h) (fun _ h => nomatch h) (va_recv hK hPc (ci := 4) (q0 := 0) rfl rfl)) rfl rfl hl.1 rfl (lv_room (Nat.le_of_ble_eq_true rfl)) dX9_write_23 ⟨(Nat.le_of_ble_eq_true rfl), (Nat.le_of_ble_eq_true rfl)⟩) hS (fun q _ h => hFc q h) hFc (fun u t H1 locs ht hvm hw hB hz1 hk1 hS => ?_)
  obtain ⟨f5, hP1, hD1⟩ := hB
  rw [ht] at hP1
  obtain ⟨hP, hD⟩ := va_join (wr := [(fr, .inr (4, [w1, w2, .int 0]))]) (w1 := [(to, .inr (4, [.ref rr, w3, .int (nI 28)])), (rr, .inl (y 0, 1024, .inl f5))]) hP hD [1, 2] [0] rfl rfl (by decide) (by decide) hk1 hFc hP1 hD1
  generalize H1 = H at hP hS ⊢
  have hP : va_P D vwCl [(fr, .inr (4, [w1, w2, .int 0])), (to, .inr (4, [.ref rr, w3, .int (nI 28)])), (rr, .inl (y 0, 1024, .inl f5))] H := hP
  have hD : va_D A [(fr, .inr (4, [w1, w2, .int 0])), (to, .inr (4, [.ref rr, w3, .int (nI 28)])), (rr, .inl (y 0, 1024, .inl f5))] := hD
  refine lv_aload_n hx hb dX9_write_26 rfl (lv_at hl 2 rfl) ?_
  refine lv_bipush (v := 10) hx hb dX9_write_27 (by decide) ?_
  have hPc := hP.sub (ws' := [(to, .inr (4, [.ref rr, w3, .int (nI 28)])), (rr, .inl (y 0, 1024, .inl f5))]) [1, 2] rfl
  have hDc := hD.sub (ws' := [(to, .inr (4, [.ref rr, w3, .int (nI 28)])), (rr, .inl (y 0, 1024, .inl f5))]) [1, 2] (by decide) rfl
  have hFc := va_free (wc := [(to, .inr (4, [.ref rr, w3, .int (nI 28)])), (rr, .inl (y 0, 1024, .inl f5))]) hD hS hA [1, 2] rfl
  refine va_callv (va_runV (As := [.int 10]) (rest := []) ⟨hx, hb, hml, hown, hts⟩ (c_X0_push l D y H.size to rr 1024 28 w3 f5 10 (by decide) (by decide)) (cwV 1 hts gv_c_X9_write_0_c_X0_push_135 rfl rfl rfl (by decide +kernel) ⟨(Nat.le_of_ble_eq_true rfl), (Nat.le_of_ble_eq_true rfl)⟩) (zB.preV hPc hDc hK hN hE hO hT hG hS hFc (fun _ h => nomatch h) (fun _ h => nomatch h) (fun _ h => nomatch h) (fun _ h => nomatch h) (va_recv hK hPc (ci := 4) (q0 := 0) rfl rfl)) rfl rfl hl.1 rfl (lv_room (Nat.le_of_ble_eq_true rfl)) dX9_write_29 ⟨(Nat.le_of_ble_eq_true rfl), (Nat.le_of_ble_eq_true rfl)⟩) hS (fun q _ h => hFc q h) hFc (fun u t H1 locs ht hvm hw hB hz1 hk1 hS => ?_)
  obtain ⟨f6, hP1, hD1⟩ := hB
  rw [ht] at hP1
  obtain ⟨hP, hD⟩ := va_join (wr := [(fr, .inr (4, [w1, w2, .int 0]))]) (w1 := [(to, .inr (4, [.ref rr, w3, .int (nI 29)])), (rr, .inl (y 0, 1024, .inl f6))]) hP hD [1, 2] [0] rfl rfl (by decide) (by decide) hk1 hFc hP1 hD1
  generalize H1 = H at hP hS ⊢
  have hP : va_P D vwCl [(fr, .inr (4, [w1, w2, .int 0])), (to, .inr (4, [.ref rr, w3, .int (nI 29)])), (rr, .inl (y 0, 1024, .inl f6))] H := hP
  have hD : va_D A [(fr, .inr (4, [w1, w2, .int 0])), (to, .inr (4, [.ref rr, w3, .int (nI 29)])), (rr, .inl (y 0, 1024, .inl f6))] := hD
  refine lv_iconst (v := 0) hx hb dX9_write_32 (by decide) ?_
  refine lv_istore_n (lv' := [(3, .int 0), (0, .ref fr), (1, .int 0), (2, .ref to)]) hx hb dX9_write_33 rfl hl (by decide) rfl (fun ls hl => ?_)
  refine lv_iload_n hx hb dX9_write_34 rfl (lv_at hl 0 rfl) ?_
  refine lv_aload_n hx hb dX9_write_35 rfl (lv_at hl 1 rfl) ?_
  refine va_get (D := D) (ci := 4) (v := .int 0) (C := RX0) (T := TX0) (N := 3) hx hb hts (by decide +kernel) hown hK hP 0 rfl rfl 2 (by decide) (hts (.fieldLink RX9 31 "SignetRing$Span" "size" "I") (by decide +kernel)) (fun _ h9 => h9) rfl dX9_write_36 ?_
  refine lv_icmp_ge (tgt := 93) hx hb dX9_write_39 (by decide) (fun _ => ?_) (fun c9 => absurd (by decide) c9)
  refine lv_aload_n hx hb dX9_write_93 rfl (lv_at hl 3 rfl) ?_
  refine lv_bipush (v := 61) hx hb dX9_write_94 (by decide) ?_
  have hPc := hP.sub (ws' := [(to, .inr (4, [.ref rr, w3, .int (nI 29)])), (rr, .inl (y 0, 1024, .inl f6))]) [1, 2] rfl
  have hDc := hD.sub (ws' := [(to, .inr (4, [.ref rr, w3, .int (nI 29)])), (rr, .inl (y 0, 1024, .inl f6))]) [1, 2] (by decide) rfl
  have hFc := va_free (wc := [(to, .inr (4, [.ref rr, w3, .int (nI 29)])), (rr, .inl (y 0, 1024, .inl f6))]) hD hS hA [1, 2] rfl
  refine va_callv (va_runV (As := [.int 61]) (rest := []) ⟨hx, hb, hml, hown, hts⟩ (c_X0_push l D y H.size to rr 1024 29 w3 f6 61 (by decide) (by decide)) (cwV 1 hts gv_c_X9_write_0_c_X0_push_135 rfl rfl rfl (by decide +kernel) ⟨(Nat.le_of_ble_eq_true rfl), (Nat.le_of_ble_eq_true rfl)⟩) (zB.preV hPc hDc hK hN hE hO hT hG hS hFc (fun _ h => nomatch h) (fun _ h => nomatch h) (fun _ h => nomatch h) (fun _ h => nomatch h) (va_recv hK hPc (ci := 4) (q0 := 0) rfl rfl)) rfl rfl hl.1 rfl (lv_room (Nat.le_of_ble_eq_true rfl)) dX9_write_96 ⟨(Nat.le_of_ble_eq_true rfl), (Nat.le_of_ble_eq_true rfl)⟩) hS (fun q _ h => hFc q h) hFc (fun u t H1 locs ht hvm hw hB hz1 hk1 hS => ?_)
  obtain ⟨f7, hP1, hD1⟩ := hB
  rw [ht] at hP1
  obtain ⟨hP, hD⟩ := va_join (wr := [(fr, .inr (4, [w1, w2, .int 0]))]) (w1 := [(to, .inr (4, [.ref rr, w3, .int (nI 30)])), (rr, .inl (y 0, 1024, .inl f7))]) hP hD [1, 2] [0] rfl rfl (by decide) (by decide) hk1 hFc hP1 hD1
  generalize H1 = H at hP hS ⊢
  have hP : va_P D vwCl [(fr, .inr (4, [w1, w2, .int 0])), (to, .inr (4, [.ref rr, w3, .int (nI 30)])), (rr, .inl (y 0, 1024, .inl f7))] H := hP
  have hD : va_D A [(fr, .inr (4, [w1, w2, .int 0])), (to, .inr (4, [.ref rr, w3, .int (nI 30)])), (rr, .inl (y 0, 1024, .inl f7))] := hD
  refine lv_aload_n hx hb dX9_write_99 rfl (lv_at hl 1 rfl) ?_
  have hPc := hP.sub (ws' := [(fr, .inr (4, [w1, w2, .int 0]))]) [0] rfl
  have hDc := hD.sub (ws' := [(fr, .inr (4, [w1, w2, .int 0]))]) [0] (by decide) rfl
  have hFc := va_free (wc := [(fr, .inr (4, [w1, w2, .int 0]))]) hD hS hA [0] rfl
  refine va_calli (va_runS (As := [.ref fr]) (rest := []) ⟨hx, hb, hml, hown, hts⟩ (c_X9_sumOf l D y H.size fr w1 w2) (va_cwS 1 hts gv_c_X9_write_0_c_X9_sumOf_138 rfl rfl rfl (by decide +kernel) ⟨(Nat.le_of_ble_eq_true rfl), (Nat.le_of_ble_eq_true rfl)⟩) (zB.preS hPc hDc hK hN hE hO hT hG hS hFc (fun _ h => nomatch h) (fun _ h => nomatch h) (fun _ h => nomatch h) (fun _ h => nomatch h)) rfl rfl hl.1 rfl (lv_room (Nat.le_of_ble_eq_true rfl)) dX9_write_100 ⟨(Nat.le_of_ble_eq_true rfl), (Nat.le_of_ble_eq_true rfl)⟩) hS (fun q _ h => hFc q h) hFc (fun r8 u t H1 locs ht hvm hw hB hz1 hk1 hS => ?_)
  obtain ⟨hP1, hD1⟩ := hB
  rw [ht] at hP1
  obtain ⟨hP, hD⟩ := va_join (wr := [(to, .inr (4, [.ref rr, w3, .int (nI 30)])), (rr, .inl (y 0, 1024, .inl f7))]) (w1 := [(fr, .inr (4, [w1, w2, .int 0]))]) hP hD [0] [1, 2] rfl rfl (by decide) (by decide) hk1 hFc hP1 hD1
  generalize H1 = H at hP hS ⊢
  have hP : va_P D vwCl [(to, .inr (4, [.ref rr, w3, .int (nI 30)])), (rr, .inl (y 0, 1024, .inl f7)), (fr, .inr (4, [w1, w2, .int 0]))] H := hP
  have hD : va_D A [(to, .inr (4, [.ref rr, w3, .int (nI 30)])), (rr, .inl (y 0, 1024, .inl f7)), (fr, .inr (4, [w1, w2, .int 0]))] := hD
  have hw : r8 = 11994318 := hw
  subst hw
  refine lv_i2l (v := 11994318) hx hb dX9_write_103 (by decide +kernel) ?_
  refine lv_iconst (v := 3) hx hb dX9_write_104 (by decide) ?_
  refine lv_aload_n hx hb dX9_write_105 rfl (lv_at hl 3 rfl) ?_
  have hPc := hP.sub (ws' := [(to, .inr (4, [.ref rr, w3, .int (nI 30)])), (rr, .inl (y 0, 1024, .inl f7))]) [0, 1] rfl
  have hDc := hD.sub (ws' := [(to, .inr (4, [.ref rr, w3, .int (nI 30)])), (rr, .inl (y 0, 1024, .inl f7))]) [0, 1] (by decide) rfl
  have hFc := va_free (wc := [(to, .inr (4, [.ref rr, w3, .int (nI 30)])), (rr, .inl (y 0, 1024, .inl f7))]) hD hS hA [0, 1] rfl
  refine va_callv (va_runS (As := [.long 11994318, .int 3, .ref to]) (rest := []) ⟨hx, hb, hml, hown, hts⟩ (c_X9_writeGroup l D y H.size to rr 1024 30 w3 f7 (by decide) (by decide)) (va_cwS 3 hts gv_c_X9_write_0_c_X9_writeGroup_157 rfl rfl rfl (by decide +kernel) ⟨(Nat.le_of_ble_eq_true rfl), (Nat.le_of_ble_eq_true rfl)⟩) (zB.preS hPc hDc hK hN hE hO hT hG hS hFc (fun _ h => nomatch h) (fun _ h => nomatch h) (fun _ h => nomatch h) (fun _ h => nomatch h)) rfl rfl hl.1 rfl (lv_room (Nat.le_of_ble_eq_true rfl)) dX9_write_106 ⟨(Nat.le_of_ble_eq_true rfl), (Nat.le_of_ble_eq_true rfl)⟩) hS (fun q _ h => hFc q h) hFc (fun u t H1 locs ht hvm hw hB hz1 hk1 hS => ?_)
  obtain ⟨f9, hP1, hD1⟩ := hB
  rw [ht] at hP1
  obtain ⟨hP, hD⟩ := va_join (wr := [(fr, .inr (4, [w1, w2, .int 0]))]) (w1 := [(to, .inr (4, [.ref rr, w3, .int (nI 34)])), (rr, .inl (y 0, 1024, .inl f9))]) hP hD [0, 1] [2] rfl rfl (by decide) (by decide) hk1 hFc hP1 hD1
  generalize H1 = H at hP hS ⊢
  have hP : va_P D vwCl [(fr, .inr (4, [w1, w2, .int 0])), (to, .inr (4, [.ref rr, w3, .int (nI 34)])), (rr, .inl (y 0, 1024, .inl f9))] H := hP
  have hD : va_D A [(fr, .inr (4, [w1, w2, .int 0])), (to, .inr (4, [.ref rr, w3, .int (nI 34)])), (rr, .inl (y 0, 1024, .inl f9))] := hD
  refine lv_aload_n hx hb dX9_write_109 rfl (lv_at hl 3 rfl) ?_
  refine lv_bipush (v := 10) hx hb dX9_write_110 (by decide) ?_
  have hPc := hP.sub (ws' := [(to, .inr (4, [.ref rr, w3, .int (nI 34)])), (rr, .inl (y 0, 1024, .inl f9))]) [1, 2] rfl
  have hDc := hD.sub (ws' := [(to, .inr (4, [.ref rr, w3, .int (nI 34)])), (rr, .inl (y 0, 1024, .inl f9))]) [1, 2] (by decide) rfl
  have hFc := va_free (wc := [(to, .inr (4, [.ref rr, w3, .int (nI 34)])), (rr, .inl (y 0, 1024, .inl f9))]) hD hS hA [1, 2] rfl
  refine va_callv (va_runV (As := [.int 10]) (rest := []) ⟨hx, hb, hml, hown, hts⟩ (c_X0_push l D y H.size to rr 1024 34 w3 f9 10 (by decide) (by decide)) (cwV 1 hts gv_c_X9_write_0_c_X0_push_135 rfl rfl rfl (by decide +kernel) ⟨(Nat.le_of_ble_eq_true rfl), (Nat.le_of_ble_eq_true rfl)⟩) (zB.preV hPc hDc hK hN hE hO hT hG hS hFc (fun _ h => nomatch h) (fun _ h => nomatch h) (fun _ h => nomatch h) (fun _ h => nomatch h) (va_recv hK hPc (ci := 4) (q0 := 0) rfl rfl)) rfl rfl hl.1 rfl (lv_room (Nat.le_of_ble_eq_true rfl)) dX9_write_112 ⟨(Nat.le_of_ble_eq_true rfl), (Nat.le_of_ble_eq_true rfl)⟩) hS (fun q _ h => hFc q h) hFc (fun u t H1 locs ht hvm hw hB hz1 hk1 hS => ?_)
  obtain ⟨f10, hP1, hD1⟩ := hB
  rw [ht] at hP1
  obtain ⟨hP, hD⟩ := va_join (wr := [(fr, .inr (4, [w1, w2, .int 0]))]) (w1 := [(to, .inr (4, [.ref rr, w3, .int (nI 35)])), (rr, .inl (y 0, 1024, .inl f10))]) hP hD [1, 2] [0] rfl rfl (by decide) (by decide) hk1 hFc hP1 hD1
  generalize H1 = H at hP hS ⊢
  have hP : va_P D vwCl [(fr, .inr (4, [w1, w2, .int 0])), (to, .inr (4, [.ref rr, w3, .int (nI 35)])), (rr, .inl (y 0, 1024, .inl f10))] H := hP
  have hD : va_D A [(fr, .inr (4, [w1, w2, .int 0])), (to, .inr (4, [.ref rr, w3, .int (nI 35)])), (rr, .inl (y 0, 1024, .inl f10))] := hD
  refine lv_aload_n hx hb dX9_write_115 rfl (lv_at hl 3 rfl) ?_
  refine va_ldcS hx hb hown (show vk_R RX9 113 "-----END " sa5 s from (hG (.inr (.inr (.inl (RX9, 113, "-----END ", sa5)))) (List.mem_of_getElem? (i := 8) rfl))) dX9_write_116 ?_
  have hPc := hP.sub (ws' := [(to, .inr (4, [.ref rr, w3, .int (nI 35)])), (rr, .inl (y 0, 1024, .inl f10))]) [1, 2] rfl
  have hDc := hD.sub (ws' := [(to, .inr (4, [.ref rr, w3, .int (nI 35)])), (rr, .inl (y 0, 1024, .inl f10))]) [1, 2] (by decide) rfl
  have hFc := va_free (wc := [(to, .inr (4, [.ref rr, w3, .int (nI 35)])), (rr, .inl (y 0, 1024, .inl f10))]) hD hS hA [1, 2] rfl
  refine va_callv (va_runV (As := [.ref sa5]) (rest := []) ⟨hx, hb, hml, hown, hts⟩ (c_X0_pushText_9 l D y H.size to rr 1024 35 sa5 st5 w3 f10 zs5 (by decide) (by decide)) (cwV 1 hts gv_c_X9_write_0_c_X0_pushText_9_149 rfl rfl rfl (by decide +kernel) ⟨(Nat.le_of_ble_eq_true rfl), (Nat.le_of_ble_eq_true rfl)⟩) (zB.preV hPc hDc hK hN hE hO hT hG hS hFc (fun _ h => nomatch h) (List.forall_mem_cons.mpr ⟨List.mem_of_getElem? (i := 0) rfl, (fun _ h => nomatch h)⟩) (fun _ h => nomatch h) (List.forall_mem_cons.mpr ⟨List.mem_of_getElem? (i := 7) rfl, (List.forall_mem_cons.mpr ⟨List.mem_of_getElem? (i := 2) rfl, (fun _ h => nomatch h)⟩)⟩) (va_recv hK hPc (ci := 4) (q0 := 0) rfl rfl)) rfl rfl hl.1 rfl (lv_room (Nat.le_of_ble_eq_true rfl)) dX9_write_118 ⟨(Nat.le_of_ble_eq_true rfl), (Nat.le_of_ble_eq_true rfl)⟩) hS (fun q _ h => hFc q h) hFc (fun u t H1 locs ht hvm hw hB hz1 hk1 hS => ?_)
  obtain ⟨f11, hP1, hD1⟩ := hB
  rw [ht] at hP1
  obtain ⟨hP, hD⟩ := va_join (wr := [(fr, .inr (4, [w1, w2, .int 0]))]) (w1 := [(to, .inr (4, [.ref rr, w3, .int (nI 44)])), (rr, .inl (y 0, 1024, .inl f11))]) hP hD [1, 2] [0] rfl rfl (by decide) (by decide) hk1 hFc hP1 hD1
  generalize H1 = H at hP hS ⊢
  have hP : va_P D vwCl [(fr, .inr (4, [w1, w2, .int 0])), (to, .inr (4, [.ref rr, w3, .int (nI 44)])), (rr, .inl (y 0, 1024, .inl f11))] H := hP
  have hD : va_D A [(fr, .inr (4, [w1, w2, .int 0])), (to, .inr (4, [.ref rr, w3, .int (nI 44)])), (rr, .inl (y 0, 1024, .inl f11))] := hD
  refine lv_aload_n hx hb dX9_write_121 rfl (lv_at hl 3 rfl) ?_
  refine lv_iload_n hx hb dX9_write_122 rfl (lv_at hl 2 rfl) ?_
  have hPc := hP.sub (ws' := []) [] rfl
  have hDc := hD.sub (ws' := []) [] (by decide) rfl
  have hFc := va_free (wc := []) hD hS hA [] rfl
  refine va_callq (va_runS (As := [.int 0]) (rest := [.ref to]) ⟨hx, hb, hml, hown, hts⟩ (c_X9_label_0 l D y H.size sa1 st1) (va_cwS 1 hts gv_c_X9_write_0_c_X9_label_0_84 rfl rfl rfl (by decide +kernel) ⟨(Nat.le_of_ble_eq_true rfl), (Nat.le_of_ble_eq_true rfl)⟩) (zB.preS hPc hDc hK hN hE hO hT hG hS hFc (fun _ h => nomatch h) (fun _ h => nomatch h) (fun _ h => nomatch h) (List.forall_mem_cons.mpr ⟨List.mem_of_getElem? (i := 3) rfl, (List.forall_mem_cons.mpr ⟨List.mem_of_getElem? (i := 4) rfl, (fun _ h => nomatch h)⟩)⟩)) rfl rfl hl.1 rfl (lv_room (Nat.le_of_ble_eq_true rfl)) dX9_write_123 ⟨(Nat.le_of_ble_eq_true rfl), (Nat.le_of_ble_eq_true rfl)⟩) hS (fun q _ h => hFc q h) hFc (fun r12 u t H1 locs ht hvm hw hB hz1 hk1 hS => ?_)
  obtain ⟨hP1, hD1⟩ := hB
  rw [ht] at hP1
  obtain ⟨hP, hD⟩ := va_join (wr := [(fr, .inr (4, [w1, w2, .int 0])), (to, .inr (4, [.ref rr, w3, .int (nI 44)])), (rr, .inl (y 0, 1024, .inl f11))]) (w1 := []) hP hD [] [0, 1, 2] rfl rfl (by decide) (by decide) hk1 hFc hP1 hD1
  generalize H1 = H at hP hS ⊢
  have hP : va_P D vwCl [(fr, .inr (4, [w1, w2, .int 0])), (to, .inr (4, [.ref rr, w3, .int (nI 44)])), (rr, .inl (y 0, 1024, .inl f11))] H := hP
  have hD : va_D A [(fr, .inr (4, [w1, w2, .int 0])), (to, .inr (4, [.ref rr, w3, .int (nI 44)])), (rr, .inl (y 0, 1024, .inl f11))] := hD
  have hw : r12 = some sa1 := hw
  subst hw
  refine W.eq (g2 := F0 m 126 ls [.ref sa1, .ref to]) rfl ?_
  have hPc := hP.sub (ws' := [(to, .inr (4, [.ref rr, w3, .int (nI 44)])), (rr, .inl (y 0, 1024, .inl f11))]) [1, 2] rfl
  have hDc := hD.sub (ws' := [(to, .inr (4, [.ref rr, w3, .int (nI 44)])), (rr, .inl (y 0, 1024, .inl f11))]) [1, 2] (by decide) rfl
  have hFc := va_free (wc := [(to, .inr (4, [.ref rr, w3, .int (nI 44)])), (rr, .inl (y 0, 1024, .inl f11))]) hD hS hA [1, 2] rfl
  refine va_callv (va_runV (As := [.ref sa1]) (rest := []) ⟨hx, hb, hml, hown, hts⟩ (c_X0_pushText_11 l D y H.size to rr 1024 44 sa1 st1 w3 f11 zs1 (by decide) (by decide)) (cwV 1 hts gv_c_X9_write_0_c_X0_pushText_11_149 rfl rfl rfl (by decide +kernel) ⟨(Nat.le_of_ble_eq_true rfl), (Nat.le_of_ble_eq_true rfl)⟩) (zB.preV hPc hDc hK hN hE hO hT hG hS hFc (fun _ h => nomatch h) (List.forall_mem_cons.mpr ⟨List.mem_of_getElem? (i := 0) rfl, (fun _ h => nomatch h)⟩) (fun _ h => nomatch h) (List.forall_mem_cons.mpr ⟨List.mem_of_getElem? (i := 3) rfl, (List.forall_mem_cons.mpr ⟨List.mem_of_getElem? (i := 2) rfl, (fun _ h => nomatch h)⟩)⟩) (va_recv hK hPc (ci := 4) (q0 := 0) rfl rfl)) rfl rfl hl.1 rfl (lv_room (Nat.le_of_ble_eq_true rfl)) dX9_write_126 ⟨(Nat.le_of_ble_eq_true rfl), (Nat.le_of_ble_eq_true rfl)⟩) hS (fun q _ h => hFc q h) hFc (fun u t H1 locs ht hvm hw hB hz1 hk1 hS => ?_)
  obtain ⟨f13, hP1, hD1⟩ := hB
  rw [ht] at hP1
  obtain ⟨hP, hD⟩ := va_join (wr := [(fr, .inr (4, [w1, w2, .int 0]))]) (w1 := [(to, .inr (4, [.ref rr, w3, .int (nI 55)])), (rr, .inl (y 0, 1024, .inl f13))]) hP hD [1, 2] [0] rfl rfl (by decide) (by decide) hk1 hFc hP1 hD1
  generalize H1 = H at hP hS ⊢
  have hP : va_P D vwCl [(fr, .inr (4, [w1, w2, .int 0])), (to, .inr (4, [.ref rr, w3, .int (nI 55)])), (rr, .inl (y 0, 1024, .inl f13))] H := hP
  have hD : va_D A [(fr, .inr (4, [w1, w2, .int 0])), (to, .inr (4, [.ref rr, w3, .int (nI 55)])), (rr, .inl (y 0, 1024, .inl f13))] := hD
  refine lv_aload_n hx hb dX9_write_129 rfl (lv_at hl 3 rfl) ?_
  refine va_ldcS hx hb hown (show vk_R RX9 80 "-----" sa4 s from (hG (.inr (.inr (.inl (RX9, 80, "-----", sa4)))) (List.mem_of_getElem? (i := 6) rfl))) dX9_write_130 ?_
  have hPc := hP.sub (ws' := [(to, .inr (4, [.ref rr, w3, .int (nI 55)])), (rr, .inl (y 0, 1024, .inl f13))]) [1, 2] rfl
  have hDc := hD.sub (ws' := [(to, .inr (4, [.ref rr, w3, .int (nI 55)])), (rr, .inl (y 0, 1024, .inl f13))]) [1, 2] (by decide) rfl
  have hFc := va_free (wc := [(to, .inr (4, [.ref rr, w3, .int (nI 55)])), (rr, .inl (y 0, 1024, .inl f13))]) hD hS hA [1, 2] rfl
  refine va_callv (va_runV (As := [.ref sa4]) (rest := []) ⟨hx, hb, hml, hown, hts⟩ (c_X0_pushText_5 l D y H.size to rr 1024 55 sa4 st4 w3 f13 zs4 (by decide) (by decide)) (cwV 1 hts gv_c_X9_write_0_c_X0_pushText_5_149 rfl rfl rfl (by decide +kernel) ⟨(Nat.le_of_ble_eq_true rfl), (Nat.le_of_ble_eq_true rfl)⟩) (zB.preV hPc hDc hK hN hE hO hT hG hS hFc (fun _ h => nomatch h) (List.forall_mem_cons.mpr ⟨List.mem_of_getElem? (i := 0) rfl, (fun _ h => nomatch h)⟩) (fun _ h => nomatch h) (List.forall_mem_cons.mpr ⟨List.mem_of_getElem? (i := 5) rfl, (List.forall_mem_cons.mpr ⟨List.mem_of_getElem? (i := 2) rfl, (fun _ h => nomatch h)⟩)⟩) (va_recv hK hPc (ci := 4) (q0 := 0) rfl rfl)) rfl rfl hl.1 rfl (lv_room (Nat.le_of_ble_eq_true rfl)) dX9_write_132 ⟨(Nat.le_of_ble_eq_true rfl), (Nat.le_of_ble_eq_true rfl)⟩) hS (fun q _ h => hFc q h) hFc (fun u t H1 locs ht hvm hw hB hz1 hk1 hS => ?_)
  obtain ⟨f14, hP1, hD1⟩ := hB
  rw [ht] at hP1
  obtain ⟨hP, hD⟩ := va_join (wr := [(fr, .inr (4, [w1, w2, .int 0]))]) (w1 := [(to, .inr (4, [.ref rr, w3, .int (nI 60)])), (rr, .inl (y 0, 1024, .inl f14))]) hP hD [1, 2] [0] rfl rfl (by decide) (by decide) hk1 hFc hP1 hD1
  generalize H1 = H at hP hS ⊢
  have hP : va_P D vwCl [(fr, .inr (4, [w1, w2, .int 0])), (to, .inr (4, [.ref rr, w3, .int (nI 60)])), (rr, .inl (y 0, 1024, .inl f14))] H := hP
  have hD : va_D A [(fr, .inr (4, [w1, w2, .int 0])), (to, .inr (4, [.ref rr, w3, .int (nI 60)])), (rr, .inl (y 0, 1024, .inl f14))] := hD
  refine lv_aload_n hx hb dX9_write_135 rfl (lv_at hl 3 rfl) ?_
  refine lv_bipush (v := 10) hx hb dX9_write_136 (by decide) ?_
  have hPc := hP.sub (ws' := [(to, .inr (4, [.ref rr, w3, .int (nI 60)])), (rr, .inl (y 0, 1024, .inl f14))]) [1, 2] rfl
  have hDc := hD.sub (ws' := [(to, .inr (4, [.ref rr, w3, .int (nI 60)])), (rr, .inl (y 0, 1024, .inl f14))]) [1, 2] (by decide) rfl
  have hFc := va_free (wc := [(to, .inr (4, [.ref rr, w3, .int (nI 60)])), (rr, .inl (y 0, 1024, .inl f14))]) hD hS hA [1, 2] rfl
  refine va_callv (va_runV (As := [.int 10]) (rest := []) ⟨hx, hb, hml, hown, hts⟩ (c_X0_push l D y H.size to rr 1024 60 w3 f14 10 (by decide) (by decide)) (cwV 1 hts gv_c_X9_write_0_c_X0_push_135 rfl rfl rfl (by decide +kernel) ⟨(Nat.le_of_ble_eq_true rfl), (Nat.le_of_ble_eq_true rfl)⟩) (zB.preV hPc hDc hK hN hE hO hT hG hS hFc (fun _ h => nomatch h) (fun _ h => nomatch h) (fun _ h => nomatch h) (fun _ h => nomatch h) (va_recv hK hPc (ci := 4) (q0 := 0) rfl rfl)) rfl rfl hl.1 rfl (lv_room (Nat.le_of_ble_eq_true rfl)) dX9_write_138 ⟨(Nat.le_of_ble_eq_true rfl), (Nat.le_of_ble_eq_true rfl)⟩) hS (fun q _ h => hFc q h) hFc (fun u t H1 locs ht hvm hw hB hz1 hk1 hS => ?_)
  obtain ⟨f15, hP1, hD1⟩ := hB
  rw [ht] at hP1
  obtain ⟨hP, hD⟩ := va_join (wr := [(fr, .inr (4, [w1, w2, .int 0]))]) (w1 := [(to, .inr (4, [.ref rr, w3, .int (nI 61)])), (rr, .inl (y 0, 1024, .inl f15))]) hP hD [1, 2] [0] rfl rfl (by decide) (by decide) hk1 hFc hP1 hD1
  generalize H1 = H at hP hS ⊢
  have hP : va_P D vwCl [(fr, .inr (4, [w1, w2, .int 0])), (to, .inr (4, [.ref rr, w3, .int (nI 61)])), (rr, .inl (y 0, 1024, .inl f15))] H := hP
  have hD : va_D A [(fr, .inr (4, [w1, w2, .int 0])), (to, .inr (4, [.ref rr, w3, .int (nI 61)])), (rr, .inl (y 0, 1024, .inl f15))] := hD
  have hP9 := hP.sub (ws' := [(fr, .inr (4, [w1, w2, .int 0])), (to, .inr (4, [.ref rr, w3, .int (nI 61)])), (rr, .inl (y 0, 1024, .inl f15))]) [0, 1, 2] rfl
  have hD9 := hD.sub (ws' := [(fr, .inr (4, [w1, w2, .int 0])), (to, .inr (4, [.ref rr, w3, .int (nI 61)])), (rr, .inl (y 0, 1024, .inl f15))]) [0, 1, 2] (by decide) rfl
  refine W.widen (k := 0) (n := 0) (Nat.le_of_ble_eq_true rfl) (Nat.le_of_ble_eq_true rfl) ?_
  exact W.vret hx hb hr (fun t ht hW => ⟨⟨(), rfl, trivial, f15, by rw [ht]; exact hP9, hD9⟩, hS.F ht⟩) hS.2.2 dX9_write_141
def wz_c_X9_write_1 : List Cond := .code yX9_write cX9_write 4 none :: ([.methodLink RX9 149 yX0_pushText, .instanceMethod yX0_pushText, .selects RX0 yX0_pushText yX0_pushText, .initialized RX0, .methodLink RX9 84 yX9_label, .static yX9_label, .initialized RX9, .methodLink RX9 135 yX0_push, .instanceMethod yX0_push, .selects RX0 yX0_push yX0_push, .fieldLink RX9 31 "SignetRing$Span" "size" "I", .methodLink RX9 138 yX9_sumOf, .static yX9_sumOf, .methodLink RX9 157 yX9_writeGroup, .static yX9_writeGroup] ++ (wsX00 ++ (wz_c_X0_pushText_11 ++ (wz_c_X9_label_1 ++ (wz_c_X0_pushText_4 ++ (wz_c_X0_pushText_5 ++ (wz_c_X0_push ++ (wz_c_X9_sumOf ++ (wz_c_X9_writeGroup ++ (wz_c_X0_pushText_9 ++ ([])))))))))))
set_option maxRecDepth 100000 in
theorem gz_c_X9_write_1_c_X0_pushText_11 : GoodIn wz_c_X9_write_1 wz_c_X0_pushText_11 := goodIn_sub (fun w h => List.mem_cons_of_mem _ (List.mem_append_right _ (List.mem_append_right _ (List.mem_append_left _ h)))) (by decide +kernel)
set_option maxRecDepth 100000 in
theorem gz_c_X9_write_1_c_X9_label_1 : GoodIn wz_c_X9_write_1 wz_c_X9_label_1 := goodIn_sub (fun w h => List.mem_cons_of_mem _ (List.mem_append_right _ (List.mem_append_right _ (List.mem_append_right _ (List.mem_append_left _ h))))) (by decide +kernel)
set_option maxRecDepth 100000 in
theorem gz_c_X9_write_1_c_X0_pushText_4 : GoodIn wz_c_X9_write_1 wz_c_X0_pushText_4 := goodIn_sub (fun w h => List.mem_cons_of_mem _ (List.mem_append_right _ (List.mem_append_right _ (List.mem_append_right _ (List.mem_append_right _ (List.mem_append_left _ h)))))) (by decide +kernel)
set_option maxRecDepth 100000 in
theorem gz_c_X9_write_1_c_X0_pushText_5 : GoodIn wz_c_X9_write_1 wz_c_X0_pushText_5 := goodIn_sub (fun w h => List.mem_cons_of_mem _ (List.mem_append_right _ (List.mem_append_right _ (List.mem_append_right _ (List.mem_append_right _ (List.mem_append_right _ (List.mem_append_left _ h))))))) (by decide +kernel)
set_option maxRecDepth 100000 in
theorem gz_c_X9_write_1_c_X0_push : GoodIn wz_c_X9_write_1 wz_c_X0_push := goodIn_sub (fun w h => List.mem_cons_of_mem _ (List.mem_append_right _ (List.mem_append_right _ (List.mem_append_right _ (List.mem_append_right _ (List.mem_append_right _ (List.mem_append_right _ (List.mem_append_left _ h)))))))) (by decide +kernel)
set_option maxRecDepth 100000 in
theorem gz_c_X9_write_1_c_X9_sumOf : GoodIn wz_c_X9_write_1 wz_c_X9_sumOf := goodIn_sub (fun w h => List.mem_cons_of_mem _ (List.mem_append_right _ (List.mem_append_right _ (List.mem_append_right _ (List.mem_append_right _ (List.mem_append_right _ (List.mem_append_right _ (List.mem_append_right _ (List.mem_append_left _ h))))))))) (by decide +kernel)
set_option maxRecDepth 100000 in
theorem gz_c_X9_write_1_c_X9_writeGroup : GoodIn wz_c_X9_write_1 wz_c_X9_writeGroup := goodIn_sub (fun w h => List.mem_cons_of_mem _ (List.mem_append_right _ (List.mem_append_right _ (List.mem_append_right _ (List.mem_append_right _ (List.mem_append_right _ (List.mem_append_right _ (List.mem_append_right _ (List.mem_append_right _ (List.mem_append_left _ h)))))))))) (by decide +kernel)
set_option maxRecDepth 100000 in
theorem gz_c_X9_write_1_c_X0_pushText_9 : GoodIn wz_c_X9_write_1 wz_c_X0_pushText_9 := goodIn_sub (fun w h => List.mem_cons_of_mem _ (List.mem_append_right _ (List.mem_append_right _ (List.mem_append_right _ (List.mem_append_right _ (List.mem_append_right _ (List.mem_append_right _ (List.mem_append_right _ (List.mem_append_right _ (List.mem_append_right _ (List.mem_append_left _ h))))))))))) (by decide +kernel)
set_option maxRecDepth 100000 in
theorem gv_c_X9_write_1_c_X0_pushText_11_149 : GoodIn wz_c_X9_write_1 (wsV RX9 149 RX0 yX0_pushText wz_c_X0_pushText_11) := goodIn_app (goodIn_of _ (by decide +kernel)) gz_c_X9_write_1_c_X0_pushText_11
set_option maxRecDepth 100000 in
theorem gv_c_X9_write_1_c_X9_label_1_84 : GoodIn wz_c_X9_write_1 (va_wsS RX9 84 yX9_label wz_c_X9_label_1) := goodIn_app (goodIn_of _ (by decide +kernel)) gz_c_X9_write_1_c_X9_label_1
set_option maxRecDepth 100000 in
theorem gv_c_X9_write_1_c_X0_pushText_4_149 : GoodIn wz_c_X9_write_1 (wsV RX9 149 RX0 yX0_pushText wz_c_X0_pushText_4) := goodIn_app (goodIn_of _ (by decide +kernel)) gz_c_X9_write_1_c_X0_pushText_4
set_option maxRecDepth 100000 in
theorem gv_c_X9_write_1_c_X0_pushText_5_149 : GoodIn wz_c_X9_write_1 (wsV RX9 149 RX0 yX0_pushText wz_c_X0_pushText_5) := goodIn_app (goodIn_of _ (by decide +kernel)) gz_c_X9_write_1_c_X0_pushText_5
set_option maxRecDepth 100000 in
theorem gv_c_X9_write_1_c_X0_push_135 : GoodIn wz_c_X9_write_1 (wsV RX9 135 RX0 yX0_push wz_c_X0_push) := goodIn_app (goodIn_of _ (by decide +kernel)) gz_c_X9_write_1_c_X0_push
set_option maxRecDepth 100000 in
theorem gv_c_X9_write_1_c_X9_sumOf_138 : GoodIn wz_c_X9_write_1 (va_wsS RX9 138 yX9_sumOf wz_c_X9_sumOf) := goodIn_app (goodIn_of _ (by decide +kernel)) gz_c_X9_write_1_c_X9_sumOf
set_option maxRecDepth 100000 in
theorem gv_c_X9_write_1_c_X9_writeGroup_157 : GoodIn wz_c_X9_write_1 (va_wsS RX9 157 yX9_writeGroup wz_c_X9_writeGroup) := goodIn_app (goodIn_of _ (by decide +kernel)) gz_c_X9_write_1_c_X9_writeGroup
set_option maxRecDepth 100000 in
theorem gv_c_X9_write_1_c_X0_pushText_9_149 : GoodIn wz_c_X9_write_1 (wsV RX9 149 RX0 yX0_pushText wz_c_X0_pushText_9) := goodIn_app (goodIn_of _ (by decide +kernel)) gz_c_X9_write_1_c_X0_pushText_9
set_option maxHeartbeats 4000000 in
set_option maxRecDepth 100000 in
theorem c_X9_write_1 (l : Launch) (D : va_G) (y : Nat → ClassId) (sz : Nat) (fr : Nat) (to : Nat) (rr : Nat) (w1 : Value) (w2 : Value) (w3 : Value) (g : Nat → Int32) (sa0 : Nat) (st0 : Nat) (sa2 : Nat) (st2 : Nat) (sa4 : Nat) (st4 : Nat) (sa5 : Nat) (st5 : Nat) : Met l yX9_write wz_c_X9_write_1 ({ frames := 5, cells := 0, slots := 0, locals := 107 }) (va_Pc [.ref fr, .int 1, .ref to] (zB D y [(fr, .inr (4, [w1, w2, .int 0])), (to, .inr (4, [.ref rr, w3, .int (nI 0)])), (rr, .inl (y 0, 1024, .inl g))] sz [] [("java/lang/String", "COMPACT_STRINGS", "Z", .int 1)] [] [.inr (.inl (sa0, st0, 11, zs0)), .inr (.inr (.inl (RX9, 82, "-----BEGIN ", sa0))), .inr (.inr (.inr (.inr ("jdk/internal/util/Preconditions", "SIOOBE_FORMATTER", "Ljava/util/function/BiFunction;")))), .inr (.inl (sa2, st2, 4, zs2)), .inr (.inr (.inl (RX9, 26, "SEAL", sa2))), .inr (.inl (sa4, st4, 5, zs4)), .inr (.inr (.inl (RX9, 80, "-----", sa4))), .inr (.inl (sa5, st5, 9, zs5)), .inr (.inr (.inl (RX9, 113, "-----END ", sa5)))])) (va_Qv (fun _ : Unit => True) (fun _ t => ∃ fz0 : Nat → Int32, va_P D vwCl [(fr, .inr (4, [w1, w2, .int 0])), (to, .inr (4, [.ref rr, w3, .int (nI 47)])), (rr, .inl (y 0, 1024, .inl fz0))] t.heap ∧ va_D (va_A [(fr, .inr (4, [w1, w2, .int 0])), (to, .inr (4, [.ref rr, w3, .int (nI 0)])), (rr, .inl (y 0, 1024, .inl g))] sz) [(fr, .inr (4, [w1, w2, .int 0])), (to, .inr (4, [.ref rr, w3, .int (nI 47)])), (rr, .inl (y 0, 1024, .inl fz0))]) (va_A [(fr, .inr (4, [w1, w2, .int 0])), (to, .inr (4, [.ref rr, w3, .int (nI 0)])), (rr, .inl (y 0, 1024, .inl g))] sz)) 0 0 (va_A [(fr, .inr (4, [w1, w2, .int 0])), (to, .inr (4, [.ref rr, w3, .int (nI 0)])), (rr, .inl (y 0, 1024, .inl g))] sz) := by
  refine Met.ofW (cc := cX9_write) (maxL := 4) (ret := none) (by decide) rfl ?_
  intro p e s m args below meth c s₁ B hml hv
  obtain ⟨rfl, hsz, hP, hK, hD0, hN, hE, hO, hT, hG⟩ := hv
  have hx := B.exec
  have hb := B.bytes
  have hr := B.returns
  have hts := atoms_spec (ws := wz_c_X9_write_1) B.pre
  have hown : s.vm.findClass RX9 = some m.cls := findClass_of_methodNamed B.named
  have hlocks := B.notSynchronized
  subst hsz
  have hD := hD0.self (sz := s.heap.size)
  generalize hAe : va_A [(fr, .inr (4, [w1, w2, .int 0])), (to, .inr (4, [.ref rr, w3, .int (nI 0)])), (rr, .inl (y 0, 1024, .inl g))] s.heap.size = A at hD hE hT hG ⊢
  have hA : ∀ q : Nat, s.heap.size ≤ q → A q := fun q h => by rw [← hAe]; exact Or.inr h
  have hS : va_S A s.heap s.heap [] := va_S.rf
  have hl := lv_entry ([.ref fr, .int 1, .ref to]) (n := 4) (Nat.le_of_ble_eq_true rfl)
  rw [lg_entry_eq]
  generalize (lg_sl ([.ref fr, .int 1, .ref to]) ++ List.replicate (4 - (lg_sl ([.ref fr, .int 1, .ref to])).length) Slot.unset).toArray = ls at hl ⊢
  have hl : lv_has ls 4 [(0, .ref fr), (1, .int 1), (2, .ref to)] := hl
  refine lv_aload_n hx hb dX9_write_0 rfl (lv_at hl 2 rfl) ?_
  refine va_ldcS hx hb hown (show vk_R RX9 82 "-----BEGIN " sa0 s from (hG (.inr (.inr (.inl (RX9, 82, "-----BEGIN ", sa0)))) (List.mem_of_getElem? (i := 1) rfl))) dX9_write_1 ?_
  have hPc := hP.sub (ws' := [(to, .inr (4, [.ref rr, w3, .int (nI 0)])), (rr, .inl (y 0, 1024, .inl g))]) [1, 2] rfl
  have hDc := hD.sub (ws' := [(to, .inr (4, [.ref rr, w3, .int (nI 0)])), (rr, .inl (y 0, 1024, .inl g))]) [1, 2] (by decide) rfl
  have hFc := va_free (wc := [(to, .inr (4, [.ref rr, w3, .int (nI 0)])), (rr, .inl (y 0, 1024, .inl g))]) hD hS hA [1, 2] rfl
  refine va_callv (va_runV (As := [.ref sa0]) (rest := []) ⟨hx, hb, hml, hown, hts⟩ (c_X0_pushText_11 l D y s.heap.size to rr 1024 0 sa0 st0 w3 g zs0 (by decide) (by decide)) (cwV 1 hts gv_c_X9_write_1_c_X0_pushText_11_149 rfl rfl rfl (by decide +kernel) ⟨(Nat.le_of_ble_eq_true rfl), (Nat.le_of_ble_eq_true rfl)⟩) (zB.preV hPc hDc hK hN hE hO hT hG hS hFc (fun _ h => nomatch h) (List.forall_mem_cons.mpr ⟨List.mem_of_getElem? (i := 0) rfl, (fun _ h => nomatch h)⟩) (fun _ h => nomatch h) (List.forall_mem_cons.mpr ⟨List.mem_of_getElem? (i := 0) rfl, (List.forall_mem_cons.mpr ⟨List.mem_of_getElem? (i := 2) rfl, (fun _ h => nomatch h)⟩)⟩) (va_recv hK hPc (ci := 4) (q0 := 0) rfl rfl)) rfl rfl hl.1 rfl (lv_room (Nat.le_of_ble_eq_true rfl)) dX9_write_3 ⟨(Nat.le_of_ble_eq_true rfl), (Nat.le_of_ble_eq_true rfl)⟩) hS (fun q _ h => hFc q h) hFc (fun u t H1 locs ht hvm hw hB hz1 hk1 hS => ?_)
  obtain ⟨f1, hP1, hD1⟩ := hB
  rw [ht] at hP1
  obtain ⟨hP, hD⟩ := va_join (wr := [(fr, .inr (4, [w1, w2, .int 0]))]) (w1 := [(to, .inr (4, [.ref rr, w3, .int (nI 11)])), (rr, .inl (y 0, 1024, .inl f1))]) hP hD [1, 2] [0] rfl rfl (by decide) (by decide) hk1 hFc hP1 hD1
  generalize H1 = H at hP hS ⊢
  have hP : va_P D vwCl [(fr, .inr (4, [w1, w2, .int 0])), (to, .inr (4, [.ref rr, w3, .int (nI 11)])), (rr, .inl (y 0, 1024, .inl f1))] H := hP
  have hD : va_D A [(fr, .inr (4, [w1, w2, .int 0])), (to, .inr (4, [.ref rr, w3, .int (nI 11)])), (rr, .inl (y 0, 1024, .inl f1))] := hD
  refine lv_aload_n hx hb dX9_write_6 rfl (lv_at hl 2 rfl) ?_
  refine lv_iload_n hx hb dX9_write_7 rfl (lv_at hl 1 rfl) ?_
  have hPc := hP.sub (ws' := []) [] rfl
  have hDc := hD.sub (ws' := []) [] (by decide) rfl
  have hFc := va_free (wc := []) hD hS hA [] rfl
  refine va_callq (va_runS (As := [.int 1]) (rest := [.ref to]) ⟨hx, hb, hml, hown, hts⟩ (c_X9_label_1 l D y H.size sa2 st2) (va_cwS 1 hts gv_c_X9_write_1_c_X9_label_1_84 rfl rfl rfl (by decide +kernel) ⟨(Nat.le_of_ble_eq_true rfl), (Nat.le_of_ble_eq_true rfl)⟩) (zB.preS hPc hDc hK hN hE hO hT hG hS hFc (fun _ h => nomatch h) (fun _ h => nomatch h) (fun _ h => nomatch h) (List.forall_mem_cons.mpr ⟨List.mem_of_getElem? (i := 3) rfl, (List.forall_mem_cons.mpr ⟨List.mem_of_getElem? (i := 4) rfl, (fun _ h => nomatch h)⟩)⟩)) rfl rfl hl.1 rfl (lv_room (Nat.le_of_ble_eq_true rfl)) dX9_write_8 ⟨(Nat.le_of_ble_eq_true rfl), (Nat.le_of_ble_eq_true rfl)⟩) hS (fun q _ h => hFc q h) hFc (fun r2 u t H1 locs ht hvm hw hB hz1 hk1 hS => ?_)
  obtain ⟨hP1, hD1⟩ := hB
  rw [ht] at hP1
  obtain ⟨hP, hD⟩ := va_join (wr := [(fr, .inr (4, [w1, w2, .int 0])), (to, .inr (4, [.ref rr, w3, .int (nI 11)])), (rr, .inl (y 0, 1024, .inl f1))]) (w1 := []) hP hD [] [0, 1, 2] rfl rfl (by decide) (by decide) hk1 hFc hP1 hD1
  generalize H1 = H at hP hS ⊢
  have hP : va_P D vwCl [(fr, .inr (4, [w1, w2, .int 0])), (to, .inr (4, [.ref rr, w3, .int (nI 11)])), (rr, .inl (y 0, 1024, .inl f1))] H := hP
  have hD : va_D A [(fr, .inr (4, [w1, w2, .int 0])), (to, .inr (4, [.ref rr, w3, .int (nI 11)])), (rr, .inl (y 0, 1024, .inl f1))] := hD
  have hw : r2 = some sa2 := hw
  subst hw
  refine W.eq (g2 := F0 m 11 ls [.ref sa2, .ref to]) rfl ?_
  have hPc := hP.sub (ws' := [(to, .inr (4, [.ref rr, w3, .int (nI 11)])), (rr, .inl (y 0, 1024, .inl f1))]) [1, 2] rfl
  have hDc := hD.sub (ws' := [(to, .inr (4, [.ref rr, w3, .int (nI 11)])), (rr, .inl (y 0, 1024, .inl f1))]) [1, 2] (by decide) rfl
  have hFc := va_free (wc := [(to, .inr (4, [.ref rr, w3, .int (nI 11)])), (rr, .inl (y 0, 1024, .inl f1))]) hD hS hA [1, 2] rfl
  refine va_callv (va_runV (As := [.ref sa2]) (rest := []) ⟨hx, hb, hml, hown, hts⟩ (c_X0_pushText_4 l D y H.size to rr 1024 11 sa2 st2 w3 f1 zs2 (by decide) (by decide)) (cwV 1 hts gv_c_X9_write_1_c_X0_pushText_4_149 rfl rfl rfl (by decide +kernel) ⟨(Nat.le_of_ble_eq_true rfl), (Nat.le_of_ble_eq_true rfl)⟩) (zB.preV hPc hDc hK hN hE hO hT hG hS hFc (fun _ h => nomatch h) (List.forall_mem_cons.mpr ⟨List.mem_of_getElem? (i := 0) rfl, (fun _ h => nomatch h)⟩) (fun _ h => nomatch h) (List.forall_mem_cons.mpr ⟨List.mem_of_getElem? (i := 3) rfl, (List.forall_mem_cons.mpr ⟨List.mem_of_getElem? (i := 2) rfl, (fun _ h => nomatch h)⟩)⟩) (va_recv hK hPc (ci := 4) (q0 := 0) rfl rfl)) rfl rfl hl.1 rfl (lv_room (Nat.le_of_ble_eq_true rfl)) dX9_write_11 ⟨(Nat.le_of_ble_eq_true rfl), (Nat.le_of_ble_eq_true rfl)⟩) hS (fun q _ h => hFc q h) hFc (fun u t H1 locs ht hvm hw hB hz1 hk1 hS => ?_)
  obtain ⟨f3, hP1, hD1⟩ := hB
  rw [ht] at hP1
  obtain ⟨hP, hD⟩ := va_join (wr := [(fr, .inr (4, [w1, w2, .int 0]))]) (w1 := [(to, .inr (4, [.ref rr, w3, .int (nI 15)])), (rr, .inl (y 0, 1024, .inl f3))]) hP hD [1, 2] [0] rfl rfl (by decide) (by decide) hk1 hFc hP1 hD1
  generalize H1 = H at hP hS ⊢
  have hP : va_P D vwCl [(fr, .inr (4, [w1, w2, .int 0])), (to, .inr (4, [.ref rr, w3, .int (nI 15)])), (rr, .inl (y 0, 1024, .inl f3))] H := hP
  have hD : va_D A [(fr, .inr (4, [w1, w2, .int 0])), (to, .inr (4, [.ref rr, w3, .int (nI 15)])), (rr, .inl (y 0, 1024, .inl f3))] := hD
  refine lv_aload_n hx hb dX9_write_14 rfl (lv_at hl 2 rfl) ?_
  refine va_ldcS hx hb hown (show vk_R RX9 80 "-----" sa4 s from (hG (.inr (.inr (.inl (RX9, 80, "-----", sa4)))) (List.mem_of_getElem? (i := 6) rfl))) dX9_write_15 ?_
  have hPc := hP.sub (ws' := [(to, .inr (4, [.ref rr, w3, .int (nI 15)])), (rr, .inl (y 0, 1024, .inl f3))]) [1, 2] rfl
  have hDc := hD.sub (ws' := [(to, .inr (4, [.ref rr, w3, .int (nI 15)])), (rr, .inl (y 0, 1024, .inl f3))]) [1, 2] (by decide) rfl
  have hFc := va_free (wc := [(to, .inr (4, [.ref rr, w3, .int (nI 15)])), (rr, .inl (y 0, 1024, .inl f3))]) hD hS hA [1, 2] rfl
  refine va_callv (va_runV (As := [.ref sa4]) (rest := []) ⟨hx, hb, hml, hown, hts⟩ (c_X0_pushText_5 l D y H.size to rr 1024 15 sa4 st4 w3 f3 zs4 (by decide) (by decide)) (cwV 1 hts gv_c_X9_write_1_c_X0_pushText_5_149 rfl rfl rfl (by decide +kernel) ⟨(Nat.le_of_ble_eq_true rfl), (Nat.le_of_ble_eq_true rfl)⟩) (zB.preV hPc hDc hK hN hE hO hT hG hS hFc (fun _ h => nomatch h) (List.forall_mem_cons.mpr ⟨List.mem_of_getElem? (i := 0) rfl, (fun _ h => nomatch h)⟩) (fun _ h => nomatch h) (List.forall_mem_cons.mpr ⟨List.mem_of_getElem? (i := 5) rfl, (List.forall_mem_cons.mpr ⟨List.mem_of_getElem? (i := 2) rfl, (fun _ h => nomatch h)⟩)⟩) (va_recv hK hPc (ci := 4) (q0 := 0) rfl rfl)) rfl rfl hl.1 rfl (lv_room (Nat.le_of_ble_eq_true rfl)) dX9_write_17 ⟨(Nat.le_of_ble_eq_true rfl), (Nat.le_of_ble_eq_true rfl)⟩) hS (fun q _ h => hFc q h) hFc (fun u t H1 locs ht hvm hw hB hz1 hk1 hS => ?_)
  obtain ⟨f4, hP1, hD1⟩ := hB
  rw [ht] at hP1
  obtain ⟨hP, hD⟩ := va_join (wr := [(fr, .inr (4, [w1, w2, .int 0]))]) (w1 := [(to, .inr (4, [.ref rr, w3, .int (nI 20)])), (rr, .inl (y 0, 1024, .inl f4))]) hP hD [1, 2] [0] rfl rfl (by decide) (by decide) hk1 hFc hP1 hD1
  generalize H1 = H at hP hS ⊢
  have hP : va_P D vwCl [(fr, .inr (4, [w1, w2, .int 0])), (to, .inr (4, [.ref rr, w3, .int (nI 20)])), (rr, .inl (y 0, 1024, .inl f4))] H := hP
  have hD : va_D A [(fr, .inr (4, [w1, w2, .int 0])), (to, .inr (4, [.ref rr, w3, .int (nI 20)])), (rr, .inl (y 0, 1024, .inl f4))] := hD
  refine lv_aload_n hx hb dX9_write_20 rfl (lv_at hl 2 rfl) ?_
  refine lv_bipush (v := 10) hx hb dX9_write_21 (by decide) ?_
  have hPc := hP.sub (ws' := [(to, .inr (4, [.ref rr, w3, .int (nI 20)])), (rr, .inl (y 0, 1024, .inl f4))]) [1, 2] rfl
  have hDc := hD.sub (ws' := [(to, .inr (4, [.ref rr, w3, .int (nI 20)])), (rr, .inl (y 0, 1024, .inl f4))]) [1, 2] (by decide) rfl
  have hFc := va_free (wc := [(to, .inr (4, [.ref rr, w3, .int (nI 20)])), (rr, .inl (y 0, 1024, .inl f4))]) hD hS hA [1, 2] rfl
  refine va_callv (va_runV (As := [.int 10]) (rest := []) ⟨hx, hb, hml, hown, hts⟩ (c_X0_push l D y H.size to rr 1024 20 w3 f4 10 (by decide) (by decide)) (cwV 1 hts gv_c_X9_write_1_c_X0_push_135 rfl rfl rfl (by decide +kernel) ⟨(Nat.le_of_ble_eq_true rfl), (Nat.le_of_ble_eq_true rfl)⟩) (zB.preV hPc hDc hK hN hE hO hT hG hS hFc (fun _ h => nomatch h) (fun _ h => nomatch h) (fun _ h => nomatch h) (fun _ h => nomatch h) (va_recv hK hPc (ci := 4) (q0 := 0) rfl rfl)) rfl rfl hl.1 rfl (lv_room (Nat.le_of_ble_eq_true rfl)) dX9_write_23 ⟨(Nat.le_of_ble_eq_true rfl), (Nat.le_of_ble_eq_true rfl)⟩) hS (fun q _ h => hFc q h) hFc (fun u t H1 locs ht hvm hw hB hz1 hk1 hS => ?_)
  obtain ⟨f5, hP1, hD1⟩ := hB
  rw [ht] at hP1
  obtain ⟨hP, hD⟩ := va_join (wr := [(fr, .inr (4, [w1, w2, .int 0]))]) (w1 := [(to, .inr (4, [.ref rr, w3, .int (nI 21)])), (rr, .inl (y 0, 1024, .inl f5))]) hP hD [1, 2] [0] rfl rfl (by decide) (by decide) hk1 hFc hP1 hD1
  generalize H1 = H at hP hS ⊢
  have hP : va_P D vwCl [(fr, .inr (4, [w1, w2, .int 0])), (to, .inr (4, [.ref rr, w3, .int (nI 21)])), (rr, .inl (y 0, 1024, .inl f5))] H := hP
  have hD : va_D A [(fr, .inr (4, [w1, w2, .int 0])), (to, .inr (4, [.ref rr, w3, .int (nI 21)])), (rr, .inl (y 0, 1024, .inl f5))] := hD
  refine lv_aload_n hx hb dX9_write_26 rfl (lv_at hl 2 rfl) ?_
  refine lv_bipush (v := 10) hx hb dX9_write_27 (by decide) ?_
  have hPc := hP.sub (ws' := [(to, .inr (4, [.ref rr, w3, .int (nI 21)])), (rr, .inl (y 0, 1024, .inl f5))]) [1, 2] rfl
  have hDc := hD.sub (ws' := [(to, .inr (4, [.ref rr, w3, .int (nI 21)])), (rr, .inl (y 0, 1024, .inl f5))]) [1, 2] (by decide) rfl
  have hFc := va_free (wc := [(to, .inr (4, [.ref rr, w3, .int (nI 21)])), (rr, .inl (y 0, 1024, .inl f5))]) hD hS hA [1, 2] rfl
  refine va_callv (va_runV (As := [.int 10]) (rest := []) ⟨hx, hb, hml, hown, hts⟩ (c_X0_push l D y H.size to rr 1024 21 w3 f5 10 (by decide) (by decide)) (cwV 1 hts gv_c_X9_write_1_c_X0_push_135 rfl rfl rfl (by decide +kernel) ⟨(Nat.le_of_ble_eq_true rfl), (Nat.le_of_ble_eq_true rfl)⟩) (zB.preV hPc hDc hK hN hE hO hT hG hS hFc (fun _ h => nomatch h) (fun _ h => nomatch h) (fun _ h => nomatch h) (fun _ h => nomatch h) (va_recv hK hPc (ci := 4) (q0 := 0) rfl rfl)) rfl rfl hl.1 rfl (lv_room (Nat.le_of_ble_eq_true rfl)) dX9_write_29 ⟨(Nat.le_of_ble_eq_true rfl), (Nat.le_of_ble_eq_true rfl)⟩) hS (fun q _ h => hFc q h) hFc (fun u t H1 locs ht hvm hw hB hz1 hk1 hS => ?_)
  obtain ⟨f6, hP1, hD1⟩ := hB
  rw [ht] at hP1
  obtain ⟨hP, hD⟩ := va_join (wr := [(fr, .inr (4, [w1, w2, .int 0]))]) (w1 := [(to, .inr (4, [.ref rr, w3, .int (nI 22)])), (rr, .inl (y 0, 1024, .inl f6))]) hP hD [1, 2] [0] rfl rfl (by decide) (by decide) hk1 hFc hP1 hD1
  generalize H1 = H at hP hS ⊢
  have hP : va_P D vwCl [(fr, .inr (4, [w1, w2, .int 0])), (to, .inr (4, [.ref rr, w3, .int (nI 22)])), (rr, .inl (y 0, 1024, .inl f6))] H := hP
  have hD : va_D A [(fr, .inr (4, [w1, w2, .int 0])), (to, .inr (4, [.ref rr, w3, .int (nI 22)])), (rr, .inl (y 0, 1024, .inl f6))] := hD
  refine lv_iconst (v := 0) hx hb dX9_write_32 (by decide) ?_
  refine lv_istore_n (lv' := [(3, .int 0), (0, .ref fr), (1, .int 1), (2, .ref to)]) hx hb dX9_write_33 rfl hl (by decide) rfl (fun ls hl => ?_)
  refine lv_iload_n hx hb dX9_write_34 rfl (lv_at hl 0 rfl) ?_
  refine lv_aload_n hx hb dX9_write_35 rfl (lv_at hl 1 rfl) ?_
  refine va_get (D := D) (ci := 4) (v := .int 0) (C := RX0) (T := TX0) (N := 3) hx hb hts (by decide +kernel) hown hK hP 0 rfl rfl 2 (by decide) (hts (.fieldLink RX9 31 "SignetRing$Span" "size" "I") (by decide +kernel)) (fun _ h9 => h9) rfl dX9_write_36 ?_
  refine lv_icmp_ge (tgt := 93) hx hb dX9_write_39 (by decide) (fun _ => ?_) (fun c9 => absurd (by decide) c9)
  refine lv_aload_n hx hb dX9_write_93 rfl (lv_at hl 3 rfl) ?_
  refine lv_bipush (v := 61) hx hb dX9_write_94 (by decide) ?_
  have hPc := hP.sub (ws' := [(to, .inr (4, [.ref rr, w3, .int (nI 22)])), (rr, .inl (y 0, 1024, .inl f6))]) [1, 2] rfl
  have hDc := hD.sub (ws' := [(to, .inr (4, [.ref rr, w3, .int (nI 22)])), (rr, .inl (y 0, 1024, .inl f6))]) [1, 2] (by decide) rfl
  have hFc := va_free (wc := [(to, .inr (4, [.ref rr, w3, .int (nI 22)])), (rr, .inl (y 0, 1024, .inl f6))]) hD hS hA [1, 2] rfl
  refine va_callv (va_runV (As := [.int 61]) (rest := []) ⟨hx, hb, hml, hown, hts⟩ (c_X0_push l D y H.size to rr 1024 22 w3 f6 61 (by decide) (by decide)) (cwV 1 hts gv_c_X9_write_1_c_X0_push_135 rfl rfl rfl (by decide +kernel) ⟨(Nat.le_of_ble_eq_true rfl), (Nat.le_of_ble_eq_true rfl)⟩) (zB.preV hPc hDc hK hN hE hO hT hG hS hFc (fun _ h => nomatch h) (fun _ h => nomatch h) (fun _ h => nomatch h) (fun _ h => nomatch h) (va_recv hK hPc (ci := 4) (q0 := 0) rfl rfl)) rfl rfl hl.1 rfl (lv_room (Nat.le_of_ble_eq_true rfl)) dX9_write_96 ⟨(Nat.le_of_ble_eq_true rfl), (Nat.le_of_ble_eq_true rfl)⟩) hS (fun q _ h => hFc q h) hFc (fun u t H1 locs ht hvm hw hB hz1 hk1 hS => ?_)
  obtain ⟨f7, hP1, hD1⟩ := hB
  rw [ht] at hP1
  obtain ⟨hP, hD⟩ := va_join (wr := [(fr, .inr (4, [w1, w2, .int 0]))]) (w1 := [(to, .inr (4, [.ref rr, w3, .int (nI 23)])), (rr, .inl (y 0, 1024, .inl f7))]) hP hD [1, 2] [0] rfl rfl (by decide) (by decide) hk1 hFc hP1 hD1
  generalize H1 = H at hP hS ⊢
  have hP : va_P D vwCl [(fr, .inr (4, [w1, w2, .int 0])), (to, .inr (4, [.ref rr, w3, .int (nI 23)])), (rr, .inl (y 0, 1024, .inl f7))] H := hP
  have hD : va_D A [(fr, .inr (4, [w1, w2, .int 0])), (to, .inr (4, [.ref rr, w3, .int (nI 23)])), (rr, .inl (y 0, 1024, .inl f7))] := hD
  refine lv_aload_n hx hb dX9_write_99 rfl (lv_at hl 1 rfl) ?_
  have hPc := hP.sub (ws' := [(fr, .inr (4, [w1, w2, .int 0]))]) [0] rfl
  have hDc := hD.sub (ws' := [(fr, .inr (4, [w1, w2, .int 0]))]) [0] (by decide) rfl
  have hFc := va_free (wc := [(fr, .inr (4, [w1, w2, .int 0]))]) hD hS hA [0] rfl
  refine va_calli (va_runS (As := [.ref fr]) (rest := []) ⟨hx, hb, hml, hown, hts⟩ (c_X9_sumOf l D y H.size fr w1 w2) (va_cwS 1 hts gv_c_X9_write_1_c_X9_sumOf_138 rfl rfl rfl (by decide +kernel) ⟨(Nat.le_of_ble_eq_true rfl), (Nat.le_of_ble_eq_true rfl)⟩) (zB.preS hPc hDc hK hN hE hO hT hG hS hFc (fun _ h => nomatch h) (fun _ h => nomatch h) (fun _ h => nomatch h) (fun _ h => nomatch h)) rfl rfl hl.1 rfl (lv_room (Nat.le_of_ble_eq_true rfl)) dX9_write_100 ⟨(Nat.le_of_ble_eq_true rfl), (Nat.le_of_ble_eq_true rfl)⟩) hS (fun q _ h => hFc q h) hFc (fun r8 u t H1 locs ht hvm hw hB hz1 hk1 hS => ?_)
  obtain ⟨hP1, hD1⟩ := hB
  rw [ht] at hP1
  obtain ⟨hP, hD⟩ := va_join (wr := [(to, .inr (4, [.ref rr, w3, .int (nI 23)])), (rr, .inl (y 0, 1024, .inl f7))]) (w1 := [(fr, .inr (4, [w1, w2, .int 0]))]) hP hD [0] [1, 2] rfl rfl (by decide) (by decide) hk1 hFc hP1 hD1
  generalize H1 = H at hP hS ⊢
  have hP : va_P D vwCl [(to, .inr (4, [.ref rr, w3, .int (nI 23)])), (rr, .inl (y 0, 1024, .inl f7)), (fr, .inr (4, [w1, w2, .int 0]))] H := hP
  have hD : va_D A [(to, .inr (4, [.ref rr, w3, .int (nI 23)])), (rr, .inl (y 0, 1024, .inl f7)), (fr, .inr (4, [w1, w2, .int 0]))] := hD
  have hw : r8 = 11994318 := hw
  subst hw
  refine lv_i2l (v := 11994318) hx hb dX9_write_103 (by decide +kernel) ?_
  refine lv_iconst (v := 3) hx hb dX9_write_104 (by decide) ?_
  refine lv_aload_n hx hb dX9_write_105 rfl (lv_at hl 3 rfl) ?_
  have hPc := hP.sub (ws' := [(to, .inr (4, [.ref rr, w3, .int (nI 23)])), (rr, .inl (y 0, 1024, .inl f7))]) [0, 1] rfl
  have hDc := hD.sub (ws' := [(to, .inr (4, [.ref rr, w3, .int (nI 23)])), (rr, .inl (y 0, 1024, .inl f7))]) [0, 1] (by decide) rfl
  have hFc := va_free (wc := [(to, .inr (4, [.ref rr, w3, .int (nI 23)])), (rr, .inl (y 0, 1024, .inl f7))]) hD hS hA [0, 1] rfl
  refine va_callv (va_runS (As := [.long 11994318, .int 3, .ref to]) (rest := []) ⟨hx, hb, hml, hown, hts⟩ (c_X9_writeGroup l D y H.size to rr 1024 23 w3 f7 (by decide) (by decide)) (va_cwS 3 hts gv_c_X9_write_1_c_X9_writeGroup_157 rfl rfl rfl (by decide +kernel) ⟨(Nat.le_of_ble_eq_true rfl), (Nat.le_of_ble_eq_true rfl)⟩) (zB.preS hPc hDc hK hN hE hO hT hG hS hFc (fun _ h => nomatch h) (fun _ h => nomatch h) (fun _ h => nomatch h) (fun _ h => nomatch h)) rfl rfl hl.1 rfl (lv_room (Nat.le_of_ble_eq_true rfl)) dX9_write_106 ⟨(Nat.le_of_ble_eq_true rfl), (Nat.le_of_ble_eq_true rfl)⟩) hS (fun q _ h => hFc q h) hFc (fun u t H1 locs ht hvm hw hB hz1 hk1 hS => ?_)
  obtain ⟨f9, hP1, hD1⟩ := hB
  rw [ht] at hP1
  obtain ⟨hP, hD⟩ := va_join (wr := [(fr, .inr (4, [w1, w2, .int 0]))]) (w1 := [(to, .inr (4, [.ref rr, w3, .int (nI 27)])), (rr, .inl (y 0, 1024, .inl f9))]) hP hD [0, 1] [2] rfl rfl (by decide) (by decide) hk1 hFc hP1 hD1
  generalize H1 = H at hP hS ⊢
  have hP : va_P D vwCl [(fr, .inr (4, [w1, w2, .int 0])), (to, .inr (4, [.ref rr, w3, .int (nI 27)])), (rr, .inl (y 0, 1024, .inl f9))] H := hP
  have hD : va_D A [(fr, .inr (4, [w1, w2, .int 0])), (to, .inr (4, [.ref rr, w3, .int (nI 27)])), (rr, .inl (y 0, 1024, .inl f9))] := hD
  refine lv_aload_n hx hb dX9_write_109 rfl (lv_at hl 3 rfl) ?_
  refine lv_bipush (v := 10) hx hb dX9_write_110 (by decide) ?_
  have hPc := hP.sub (ws' := [(to, .inr (4, [.ref rr, w3, .int (nI 27)])), (rr, .inl (y 0, 1024, .inl f9))]) [1, 2] rfl
  have hDc := hD.sub (ws' := [(to, .inr (4, [.ref rr, w3, .int (nI 27)])), (rr, .inl (y 0, 1024, .inl f9))]) [1, 2] (by decide) rfl
  have hFc := va_free (wc := [(to, .inr (4, [.ref rr, w3, .int (nI 27)])), (rr, .inl (y 0, 1024, .inl f9))]) hD hS hA [1, 2] rfl
  refine va_callv (va_runV (As := [.int 10]) (rest := []) ⟨hx, hb, hml, hown, hts⟩ (c_X0_push l D y H.size to rr 1024 27 w3 f9 10 (by decide) (by decide)) (cwV 1 hts gv_c_X9_write_1_c_X0_push_135 rfl rfl rfl (by decide +kernel) ⟨(Nat.le_of_ble_eq_true rfl), (Nat.le_of_ble_eq_true rfl)⟩) (zB.preV hPc hDc hK hN hE hO hT hG hS hFc (fun _ h => nomatch h) (fun _ h => nomatch h) (fun _ h => nomatch h) (fun _ h => nomatch h) (va_recv hK hPc (ci := 4) (q0 := 0) rfl rfl)) rfl rfl hl.1 rfl (lv_room (Nat.le_of_ble_eq_true rfl)) dX9_write_112 ⟨(Nat.le_of_ble_eq_true rfl), (Nat.le_of_ble_eq_true rfl)⟩) hS (fun q _ h => hFc q h) hFc (fun u t H1 locs ht hvm hw hB hz1 hk1 hS => ?_)
  obtain ⟨f10, hP1, hD1⟩ := hB
  rw [ht] at hP1
  obtain ⟨hP, hD⟩ := va_join (wr := [(fr, .inr (4, [w1, w2, .int 0]))]) (w1 := [(to, .inr (4, [.ref rr, w3, .int (nI 28)])), (rr, .inl (y 0, 1024, .inl f10))]) hP hD [1, 2] [0] rfl rfl (by decide) (by decide) hk1 hFc hP1 hD1
  generalize H1 = H at hP hS ⊢
  have hP : va_P D vwCl [(fr, .inr (4, [w1, w2, .int 0])), (to, .inr (4, [.ref rr, w3, .int (nI 28)])), (rr, .inl (y 0, 1024, .inl f10))] H := hP
  have hD : va_D A [(fr, .inr (4, [w1, w2, .int 0])), (to, .inr (4, [.ref rr, w3, .int (nI 28)])), (rr, .inl (y 0, 1024, .inl f10))] := hD
  refine lv_aload_n hx hb dX9_write_115 rfl (lv_at hl 3 rfl) ?_
  refine va_ldcS hx hb hown (show vk_R RX9 113 "-----END " sa5 s from (hG (.inr (.inr (.inl (RX9, 113, "-----END ", sa5)))) (List.mem_of_getElem? (i := 8) rfl))) dX9_write_116 ?_
  have hPc := hP.sub (ws' := [(to, .inr (4, [.ref rr, w3, .int (nI 28)])), (rr, .inl (y 0, 1024, .inl f10))]) [1, 2] rfl
  have hDc := hD.sub (ws' := [(to, .inr (4, [.ref rr, w3, .int (nI 28)])), (rr, .inl (y 0, 1024, .inl f10))]) [1, 2] (by decide) rfl
  have hFc := va_free (wc := [(to, .inr (4, [.ref rr, w3, .int (nI 28)])), (rr, .inl (y 0, 1024, .inl f10))]) hD hS hA [1, 2] rfl
  refine va_callv (va_runV (As := [.ref sa5]) (rest := []) ⟨hx, hb, hml, hown, hts⟩ (c_X0_pushText_9 l D y H.size to rr 1024 28 sa5 st5 w3 f10 zs5 (by decide) (by decide)) (cwV 1 hts gv_c_X9_write_1_c_X0_pushText_9_149 rfl rfl rfl (by decide +kernel) ⟨(Nat.le_of_ble_eq_true rfl), (Nat.le_of_ble_eq_true rfl)⟩) (zB.preV hPc hDc hK hN hE hO hT hG hS hFc (fun _ h => nomatch h) (List.forall_mem_cons.mpr ⟨List.mem_of_getElem? (i := 0) rfl, (fun _ h => nomatch h)⟩) (fun _ h => nomatch h) (List.forall_mem_cons.mpr ⟨List.mem_of_getElem? (i := 7) rfl, (List.forall_mem_cons.mpr ⟨List.mem_of_getElem? (i := 2) rfl, (fun _ h => nomatch h)⟩)⟩) (va_recv hK hPc (ci := 4) (q0 := 0) rfl rfl)) rfl rfl hl.1 rfl (lv_room (Nat.le_of_ble_eq_true rfl)) dX9_write_118 ⟨(Nat.le_of_ble_eq_true rfl), (Nat.le_of_ble_eq_true rfl)⟩) hS (fun q _ h => hFc q h) hFc (fun u t H1 locs ht hvm hw hB hz1 hk1 hS => ?_)
  obtain ⟨f11, hP1, hD1⟩ := hB
  rw [ht] at hP1
  obtain ⟨hP, hD⟩ := va_join (wr := [(fr, .inr (4, [w1, w2, .int 0]))]) (w1 := [(to, .inr (4, [.ref rr, w3, .int (nI 37)])), (rr, .inl (y 0, 1024, .inl f11))]) hP hD [1, 2] [0] rfl rfl (by decide) (by decide) hk1 hFc hP1 hD1
  generalize H1 = H at hP hS ⊢
  have hP : va_P D vwCl [(fr, .inr (4, [w1, w2, .int 0])), (to, .inr (4, [.ref rr, w3, .int (nI 37)])), (rr, .inl (y 0, 1024, .inl f11))] H := hP
  have hD : va_D A [(fr, .inr (4, [w1, w2, .int 0])), (to, .inr (4, [.ref rr, w3, .int (nI 37)])), (rr, .inl (y 0, 1024, .inl f11))] := hD
  refine lv_aload_n hx hb dX9_write_121 rfl (lv_at hl 3 rfl) ?_
  refine lv_iload_n hx hb dX9_write_122 rfl (lv_at hl 2 rfl) ?_
  have hPc := hP.sub (ws' := []) [] rfl
  have hDc := hD.sub (ws' := []) [] (by decide) rfl
  have hFc := va_free (wc := []) hD hS hA [] rfl
  refine va_callq (va_runS (As := [.int 1]) (rest := [.ref to]) ⟨hx, hb, hml, hown, hts⟩ (c_X9_label_1 l D y H.size sa2 st2) (va_cwS 1 hts gv_c_X9_write_1_c_X9_label_1_84 rfl rfl rfl (by decide +kernel) ⟨(Nat.le_of_ble_eq_true rfl), (Nat.le_of_ble_eq_true rfl)⟩) (zB.preS hPc hDc hK hN hE hO hT hG hS hFc (fun _ h => nomatch h) (fun _ h => nomatch h) (fun _ h => nomatch h) (List.forall_mem_cons.mpr ⟨List.mem_of_getElem? (i := 3) rfl, (List.forall_mem_cons.mpr ⟨List.mem_of_getElem? (i := 4) rfl, (fun _ h => nomatch h)⟩)⟩)) rfl rfl hl.1 rfl (lv_room (Nat.le_of_ble_eq_true rfl)) dX9_write_123 ⟨(Nat.le_of_ble_eq_true rfl), (Nat.le_of_ble_eq_true rfl)⟩) hS (fun q _ h => hFc q h) hFc (fun r12 u t H1 locs ht hvm hw hB hz1 hk1 hS => ?_)
  obtain ⟨hP1, hD1⟩ := hB
  rw [ht] at hP1
  obtain ⟨hP, hD⟩ := va_join (wr := [(fr, .inr (4, [w1, w2, .int 0])), (to, .inr (4, [.ref rr, w3, .int (nI 37)])), (rr, .inl (y 0, 1024, .inl f11))]) (w1 := []) hP hD [] [0, 1, 2] rfl rfl (by decide) (by decide) hk1 hFc hP1 hD1
  generalize H1 = H at hP hS ⊢
  have hP : va_P D vwCl [(fr, .inr (4, [w1, w2, .int 0])), (to, .inr (4, [.ref rr, w3, .int (nI 37)])), (rr, .inl (y 0, 1024, .inl f11))] H := hP
  have hD : va_D A [(fr, .inr (4, [w1, w2, .int 0])), (to, .inr (4, [.ref rr, w3, .int (nI 37)])), (rr, .inl (y 0, 1024, .inl f11))] := hD
  have hw : r12 = some sa2 := hw
  subst hw
  refine W.eq (g2 := F0 m 126 ls [.ref sa2, .ref to]) rfl ?_
  have hPc := hP.sub (ws' := [(to, .inr (4, [.ref rr, w3, .int (nI 37)])), (rr, .inl (y 0, 1024, .inl f11))]) [1, 2] rfl
  have hDc := hD.sub (ws' := [(to, .inr (4, [.ref rr, w3, .int (nI 37)])), (rr, .inl (y 0, 1024, .inl f11))]) [1, 2] (by decide) rfl
  have hFc := va_free (wc := [(to, .inr (4, [.ref rr, w3, .int (nI 37)])), (rr, .inl (y 0, 1024, .inl f11))]) hD hS hA [1, 2] rfl
  refine va_callv (va_runV (As := [.ref sa2]) (rest := []) ⟨hx, hb, hml, hown, hts⟩ (c_X0_pushText_4 l D y H.size to rr 1024 37 sa2 st2 w3 f11 zs2 (by decide) (by decide)) (cwV 1 hts gv_c_X9_write_1_c_X0_pushText_4_149 rfl rfl rfl (by decide +kernel) ⟨(Nat.le_of_ble_eq_true rfl), (Nat.le_of_ble_eq_true rfl)⟩) (zB.preV hPc hDc hK hN hE hO hT hG hS hFc (fun _ h => nomatch h) (List.forall_mem_cons.mpr ⟨List.mem_of_getElem? (i := 0) rfl, (fun _ h => nomatch h)⟩) (fun _ h => nomatch h) (List.forall_mem_cons.mpr ⟨List.mem_of_getElem? (i := 3) rfl, (List.forall_mem_cons.mpr ⟨List.mem_of_getElem? (i := 2) rfl, (fun _ h => nomatch h)⟩)⟩) (va_recv hK hPc (ci := 4) (q0 := 0) rfl rfl)) rfl rfl hl.1 rfl (lv_room (Nat.le_of_ble_eq_true rfl)) dX9_write_126 ⟨(Nat.le_of_ble_eq_true rfl), (Nat.le_of_ble_eq_true rfl)⟩) hS (fun q _ h => hFc q h) hFc (fun u t H1 locs ht hvm hw hB hz1 hk1 hS => ?_)
  obtain ⟨f13, hP1, hD1⟩ := hB
  rw [ht] at hP1
  obtain ⟨hP, hD⟩ := va_join (wr := [(fr, .inr (4, [w1, w2, .int 0]))]) (w1 := [(to, .inr (4, [.ref rr, w3, .int (nI 41)])), (rr, .inl (y 0, 1024, .inl f13))]) hP hD [1, 2] [0] rfl rfl (by decide) (by decide) hk1 hFc hP1 hD1
  generalize H1 = H at hP hS ⊢
  have hP : va_P D vwCl [(fr, .inr (4, [w1, w2, .int 0])), (to, .inr (4, [.ref rr, w3, .int (nI 41)])), (rr, .inl (y 0, 1024, .inl f13))] H := hP
  have hD : va_D A [(fr, .inr (4, [w1, w2, .int 0])), (to, .inr (4, [.ref rr, w3, .int (nI 41)])), (rr, .inl (y 0, 1024, .inl f13))] := hD
  refine lv_aload_n hx hb dX9_write_129 rfl (lv_at hl 3 rfl) ?_
  refine va_ldcS hx hb hown (show vk_R RX9 80 "-----" sa4 s from (hG (.inr (.inr (.inl (RX9, 80, "-----", sa4)))) (List.mem_of_getElem? (i := 6) rfl))) dX9_write_130 ?_
  have hPc := hP.sub (ws' := [(to, .inr (4, [.ref rr, w3, .int (nI 41)])), (rr, .inl (y 0, 1024, .inl f13))]) [1, 2] rfl
  have hDc := hD.sub (ws' := [(to, .inr (4, [.ref rr, w3, .int (nI 41)])), (rr, .inl (y 0, 1024, .inl f13))]) [1, 2] (by decide) rfl
  have hFc := va_free (wc := [(to, .inr (4, [.ref rr, w3, .int (nI 41)])), (rr, .inl (y 0, 1024, .inl f13))]) hD hS hA [1, 2] rfl
  refine va_callv (va_runV (As := [.ref sa4]) (rest := []) ⟨hx, hb, hml, hown, hts⟩ (c_X0_pushText_5 l D y H.size to rr 1024 41 sa4 st4 w3 f13 zs4 (by decide) (by decide)) (cwV 1 hts gv_c_X9_write_1_c_X0_pushText_5_149 rfl rfl rfl (by decide +kernel) ⟨(Nat.le_of_ble_eq_true rfl), (Nat.le_of_ble_eq_true rfl)⟩) (zB.preV hPc hDc hK hN hE hO hT hG hS hFc (fun _ h => nomatch h) (List.forall_mem_cons.mpr ⟨List.mem_of_getElem? (i := 0) rfl, (fun _ h => nomatch h)⟩) (fun _ h => nomatch h) (List.forall_mem_cons.mpr ⟨List.mem_of_getElem? (i := 5) rfl, (List.forall_mem_cons.mpr ⟨List.mem_of_getElem? (i := 2) rfl, (fun _ h => nomatch h)⟩)⟩) (va_recv hK hPc (ci := 4) (q0 := 0) rfl rfl)) rfl rfl hl.1 rfl (lv_room (Nat.le_of_ble_eq_true rfl)) dX9_write_132 ⟨(Nat.le_of_ble_eq_true rfl), (Nat.le_of_ble_eq_true rfl)⟩) hS (fun q _ h => hFc q h) hFc (fun u t H1 locs ht hvm hw hB hz1 hk1 hS => ?_)
  obtain ⟨f14, hP1, hD1⟩ := hB
  rw [ht] at hP1
  obtain ⟨hP, hD⟩ := va_join (wr := [(fr, .inr (4, [w1, w2, .int 0]))]) (w1 := [(to, .inr (4, [.ref rr, w3, .int (nI 46)])), (rr, .inl (y 0, 1024, .inl f14))]) hP hD [1, 2] [0] rfl rfl (by decide) (by decide) hk1 hFc hP1 hD1
  generalize H1 = H at hP hS ⊢
  have hP : va_P D vwCl [(fr, .inr (4, [w1, w2, .int 0])), (to, .inr (4, [.ref rr, w3, .int (nI 46)])), (rr, .inl (y 0, 1024, .inl f14))] H := hP
  have hD : va_D A [(fr, .inr (4, [w1, w2, .int 0])), (to, .inr (4, [.ref rr, w3, .int (nI 46)])), (rr, .inl (y 0, 1024, .inl f14))] := hD
  refine lv_aload_n hx hb dX9_write_135 rfl (lv_at hl 3 rfl) ?_
  refine lv_bipush (v := 10) hx hb dX9_write_136 (by decide) ?_
  have hPc := hP.sub (ws' := [(to, .inr (4, [.ref rr, w3, .int (nI 46)])), (rr, .inl (y 0, 1024, .inl f14))]) [1, 2] rfl
  have hDc := hD.sub (ws' := [(to, .inr (4, [.ref rr, w3, .int (nI 46)])), (rr, .inl (y 0, 1024, .inl f14))]) [1, 2] (by decide) rfl
  have hFc := va_free (wc := [(to, .inr (4, [.ref rr, w3, .int (nI 46)])), (rr, .inl (y 0, 1024, .inl f14))]) hD hS hA [1, 2] rfl
  refine va_callv (va_runV (As := [.int 10]) (rest := []) ⟨hx, hb, hml, hown, hts⟩ (c_X0_push l D y H.size to rr 1024 46 w3 f14 10 (by decide) (by decide)) (cwV 1 hts gv_c_X9_write_1_c_X0_push_135 rfl rfl rfl (by decide +kernel) ⟨(Nat.le_of_ble_eq_true rfl), (Nat.le_of_ble_eq_true rfl)⟩) (zB.preV hPc hDc hK hN hE hO hT hG hS hFc (fun _ h => nomatch h) (fun _ h => nomatch h) (fun _ h => nomatch h) (fun _ h => nomatch h) (va_recv hK hPc (ci := 4) (q0 := 0) rfl rfl)) rfl rfl hl.1 rfl (lv_room (Nat.le_of_ble_eq_true rfl)) dX9_write_138 ⟨(Nat.le_of_ble_eq_true rfl), (Nat.le_of_ble_eq_true rfl)⟩) hS (fun q _ h => hFc q h) hFc (fun u t H1 locs ht hvm hw hB hz1 hk1 hS => ?_)
  obtain ⟨f15, hP1, hD1⟩ := hB
  rw [ht] at hP1
  obtain ⟨hP, hD⟩ := va_join (wr := [(fr, .inr (4, [w1, w2, .int 0]))]) (w1 := [(to, .inr (4, [.ref rr, w3, .int (nI 47)])), (rr, .inl (y 0, 1024, .inl f15))]) hP hD [1, 2] [0] rfl rfl (by decide) (by decide) hk1 hFc hP1 hD1
  generalize H1 = H at hP hS ⊢
  have hP : va_P D vwCl [(fr, .inr (4, [w1, w2, .int 0])), (to, .inr (4, [.ref rr, w3, .int (nI 47)])), (rr, .inl (y 0, 1024, .inl f15))] H := hP
  have hD : va_D A [(fr, .inr (4, [w1, w2, .int 0])), (to, .inr (4, [.ref rr, w3, .int (nI 47)])), (rr, .inl (y 0, 1024, .inl f15))] := hD
  have hP9 := hP.sub (ws' := [(fr, .inr (4, [w1, w2, .int 0])), (to, .inr (4, [.ref rr, w3, .int (nI 47)])), (rr, .inl (y 0, 1024, .inl f15))]) [0, 1, 2] rfl
  have hD9 := hD.sub (ws' := [(fr, .inr (4, [w1, w2, .int 0])), (to, .inr (4, [.ref rr, w3, .int (nI 47)])), (rr, .inl (y 0, 1024, .inl f15))]) [0, 1, 2] (by decide) rfl
  refine W.widen (k := 0) (n := 0) (Nat.le_of_ble_eq_true rfl) (Nat.le_of_ble_eq_true rfl) ?_
  exact W.vret hx hb hr (fun t ht hW => ⟨⟨(), rfl, trivial, f15, by rw [ht]; exact hP9, hD9⟩, hS.F ht⟩) hS.2.2 dX9_write_141
def wz_c_X9_write_2 : List Cond := .code yX9_write cX9_write 4 none :: ([.methodLink RX9 149 yX0_pushText, .instanceMethod yX0_pushText, .selects RX0 yX0_pushText yX0_pushText, .initialized RX0, .methodLink RX9 84 yX9_label, .static yX9_label, .initialized RX9, .methodLink RX9 135 yX0_push, .instanceMethod yX0_push, .selects RX0 yX0_push yX0_push, .fieldLink RX9 31 "SignetRing$Span" "size" "I", .methodLink RX9 138 yX9_sumOf, .static yX9_sumOf, .methodLink RX9 157 yX9_writeGroup, .static yX9_writeGroup] ++ (wsX00 ++ (wz_c_X0_pushText_11 ++ (wz_c_X9_label_2 ++ (wz_c_X0_pushText_13 ++ (wz_c_X0_pushText_5 ++ (wz_c_X0_push ++ (wz_c_X9_sumOf ++ (wz_c_X9_writeGroup ++ (wz_c_X0_pushText_9 ++ ([])))))))))))
set_option maxRecDepth 100000 in
theorem gz_c_X9_write_2_c_X0_pushText_11 : GoodIn wz_c_X9_write_2 wz_c_X0_pushText_11 := goodIn_sub (fun w h => List.mem_cons_of_mem _ (List.mem_append_right _ (List.mem_append_right _ (List.mem_append_left _ h)))) (by decide +kernel)
set_option maxRecDepth 100000 in
theorem gz_c_X9_write_2_c_X9_label_2 : GoodIn wz_c_X9_write_2 wz_c_X9_label_2 := goodIn_sub (fun w h => List.mem_cons_of_mem _ (List.mem_append_right _ (List.mem_append_right _ (List.mem_append_right _ (List.mem_append_left _ h))))) (by decide +kernel)
set_option maxRecDepth 100000 in
theorem gz_c_X9_write_2_c_X0_pushText_13 : GoodIn wz_c_X9_write_2 wz_c_X0_pushText_13 := goodIn_sub (fun w h => List.mem_cons_of_mem _ (List.mem_append_right _ (List.mem_append_right _ (List.mem_append_right _ (List.mem_append_right _ (List.mem_append_left _ h)))))) (by decide +kernel)
set_option maxRecDepth 100000 in
theorem gz_c_X9_write_2_c_X0_pushText_5 : GoodIn wz_c_X9_write_2 wz_c_X0_pushText_5 := goodIn_sub (fun w h => List.mem_cons_of_mem _ (List.mem_append_right _ (List.mem_append_right _ (List.mem_append_right _ (List.mem_append_right _ (List.mem_append_right _ (List.mem_append_left _ h))))))) (by decide +kernel)
set_option maxRecDepth 100000 in
theorem gz_c_X9_write_2_c_X0_push : GoodIn wz_c_X9_write_2 wz_c_X0_push := goodIn_sub (fun w h => List.mem_cons_of_mem _ (List.mem_append_right _ (List.mem_append_right _ (List.mem_append_right _ (List.mem_append_right _ (List.mem_append_right _ (List.mem_append_right _ (List.mem_append_left _ h)))))))) (by decide +kernel)
set_option maxRecDepth 100000 in
theorem gz_c_X9_write_2_c_X9_sumOf : GoodIn wz_c_X9_write_2 wz_c_X9_sumOf := goodIn_sub (fun w h => List.mem_cons_of_mem _ (List.mem_append_right _ (List.mem_append_right _ (List.mem_append_right _ (List.mem_append_right _ (List.mem_append_right _ (List.mem_append_right _ (List.mem_append_right _ (List.mem_append_left _ h))))))))) (by decide +kernel)
set_option maxRecDepth 100000 in
theorem gz_c_X9_write_2_c_X9_writeGroup : GoodIn wz_c_X9_write_2 wz_c_X9_writeGroup := goodIn_sub (fun w h => List.mem_cons_of_mem _ (List.mem_append_right _ (List.mem_append_right _ (List.mem_append_right _ (List.mem_append_right _ (List.mem_append_right _ (List.mem_append_right _ (List.mem_append_right _ (List.mem_append_right _ (List.mem_append_left _ h)))))))))) (by decide +kernel)
set_option maxRecDepth 100000 in
theorem gz_c_X9_write_2_c_X0_pushText_9 : GoodIn wz_c_X9_write_2 wz_c_X0_pushText_9 := goodIn_sub (fun w h => List.mem_cons_of_mem _ (List.mem_append_right _ (List.mem_append_right _ (List.mem_append_right _ (List.mem_append_right _ (List.mem_append_right _ (List.mem_append_right _ (List.mem_append_right _ (List.mem_append_right _ (List.mem_append_right _ (List.mem_append_left _ h))))))))))) (by decide +kernel)
set_option maxRecDepth 100000 in
theorem gv_c_X9_write_2_c_X0_pushText_11_149 : GoodIn wz_c_X9_write_2 (wsV RX9 149 RX0 yX0_pushText wz_c_X0_pushText_11) := goodIn_app (goodIn_of _ (by decide +kernel)) gz_c_X9_write_2_c_X0_pushText_11
set_option maxRecDepth 100000 in
theorem gv_c_X9_write_2_c_X9_label_2_84 : GoodIn wz_c_X9_write_2 (va_wsS RX9 84 yX9_label wz_c_X9_label_2) := goodIn_app (goodIn_of _ (by decide +kernel)) gz_c_X9_write_2_c_X9_label_2
set_option maxRecDepth 100000 in
theorem gv_c_X9_write_2_c_X0_pushText_13_149 : GoodIn wz_c_X9_write_2 (wsV RX9 149 RX0 yX0_pushText wz_c_X0_pushText_13) := goodIn_app (goodIn_of _ (by decide +kernel)) gz_c_X9_write_2_c_X0_pushText_13
set_option maxRecDepth 100000 in
theorem gv_c_X9_write_2_c_X0_pushText_5_149 : GoodIn wz_c_X9_write_2 (wsV RX9 149 RX0 yX0_pushText wz_c_X0_pushText_5) := goodIn_app (goodIn_of _ (by decide +kernel)) gz_c_X9_write_2_c_X0_pushText_5
set_option maxRecDepth 100000 in
theorem gv_c_X9_write_2_c_X0_push_135 : GoodIn wz_c_X9_write_2 (wsV RX9 135 RX0 yX0_push wz_c_X0_push) := goodIn_app (goodIn_of _ (by decide +kernel)) gz_c_X9_write_2_c_X0_push
set_option maxRecDepth 100000 in
theorem gv_c_X9_write_2_c_X9_sumOf_138 : GoodIn wz_c_X9_write_2 (va_wsS RX9 138 yX9_sumOf wz_c_X9_sumOf) := goodIn_app (goodIn_of _ (by decide +kernel)) gz_c_X9_write_2_c_X9_sumOf
set_option maxRecDepth 100000 in
theorem gv_c_X9_write_2_c_X9_writeGroup_157 : GoodIn wz_c_X9_write_2 (va_wsS RX9 157 yX9_writeGroup wz_c_X9_writeGroup) := goodIn_app (goodIn_of _ (by decide +kernel)) gz_c_X9_write_2_c_X9_writeGroup
set_option maxRecDepth 100000 in
theorem gv_c_X9_write_2_c_X0_pushText_9_149 : GoodIn wz_c_X9_write_2 (wsV RX9 149 RX0 yX0_pushText wz_c_X0_pushText_9) := goodIn_app (goodIn_of _ (by decide +kernel)) gz_c_X9_write_2_c_X0_pushText_9
set_option maxHeartbeats 4000000 in
set_option maxRecDepth 100000 in
theorem c_X9_write_2 (l : Launch) (D : va_G) (y : Nat → ClassId) (sz : Nat) (fr : Nat) (to : Nat) (rr : Nat) (w1 : Value) (w2 : Value) (w3 : Value) (g : Nat → Int32) (sa0 : Nat) (st0 : Nat) (sa3 : Nat) (st3 : Nat) (sa4 : Nat) (st4 : Nat) (sa5 : Nat) (st5 : Nat) : Met l yX9_write wz_c_X9_write_2 ({ frames := 5, cells := 0, slots := 0, locals := 107 }) (va_Pc [.ref fr, .int 2, .ref to] (zB D y [(fr, .inr (4, [w1, w2, .int 0])), (to, .inr (4, [.ref rr, w3, .int (nI 0)])), (rr, .inl (y 0, 1024, .inl g))] sz [] [("java/lang/String", "COMPACT_STRINGS", "Z", .int 1)] [] [.inr (.inl (sa0, st0, 11, zs0)), .inr (.inr (.inl (RX9, 82, "-----BEGIN ", sa0))), .inr (.inr (.inr (.inr ("jdk/internal/util/Preconditions", "SIOOBE_FORMATTER", "Ljava/util/function/BiFunction;")))), .inr (.inl (sa3, st3, 13, zs3)), .inr (.inr (.inl (RX9, 28, "SEALED LETTER", sa3))), .inr (.inl (sa4, st4, 5, zs4)), .inr (.inr (.inl (RX9, 80, "-----", sa4))), .inr (.inl (sa5, st5, 9, zs5)), .inr (.inr (.inl (RX9, 113, "-----END ", sa5)))])) (va_Qv (fun _ : Unit => True) (fun _ t => ∃ fz0 : Nat → Int32, va_P D vwCl [(fr, .inr (4, [w1, w2, .int 0])), (to, .inr (4, [.ref rr, w3, .int (nI 65)])), (rr, .inl (y 0, 1024, .inl fz0))] t.heap ∧ va_D (va_A [(fr, .inr (4, [w1, w2, .int 0])), (to, .inr (4, [.ref rr, w3, .int (nI 0)])), (rr, .inl (y 0, 1024, .inl g))] sz) [(fr, .inr (4, [w1, w2, .int 0])), (to, .inr (4, [.ref rr, w3, .int (nI 65)])), (rr, .inl (y 0, 1024, .inl fz0))]) (va_A [(fr, .inr (4, [w1, w2, .int 0])), (to, .inr (4, [.ref rr, w3, .int (nI 0)])), (rr, .inl (y 0, 1024, .inl g))] sz)) 0 0 (va_A [(fr, .inr (4, [w1, w2, .int 0])), (to, .inr (4, [.ref rr, w3, .int (nI 0)])), (rr, .inl (y 0, 1024, .inl g))] sz) := by
  refine Met.ofW (cc := cX9_write) (maxL := 4) (ret := none) (by decide) rfl ?_
  intro p e s m args below meth c s₁ B hml hv
  obtain ⟨rfl, hsz, hP, hK, hD0, hN, hE, hO, hT, hG⟩ := hv
  have hx := B.exec
  have hb := B.bytes
  have hr := B.returns
  have hts := atoms_spec (ws := wz_c_X9_write_2) B.pre
  have hown : s.vm.findClass RX9 = some m.cls := findClass_of_methodNamed B.named
  have hlocks := B.notSynchronized
  subst hsz
  have hD := hD0.self (sz := s.heap.size)
  generalize hAe : va_A [(fr, .inr (4, [w1, w2, .int 0])), (to, .inr (4, [.ref rr, w3, .int (nI 0)])), (rr, .inl (y 0, 1024, .inl g))] s.heap.size = A at hD hE hT hG ⊢
  have hA : ∀ q : Nat, s.heap.size ≤ q → A q := fun q h => by rw [← hAe]; exact Or.inr h
  have hS : va_S A s.heap s.heap [] := va_S.rf
  have hl := lv_entry ([.ref fr, .int 2, .ref to]) (n := 4) (Nat.le_of_ble_eq_true rfl)
  rw [lg_entry_eq]
  generalize (lg_sl ([.ref fr, .int 2, .ref to]) ++ List.replicate (4 - (lg_sl ([.ref fr, .int 2, .ref to])).length) Slot.unset).toArray = ls at hl ⊢
  have hl : lv_has ls 4 [(0, .ref fr), (1, .int 2), (2, .ref to)] := hl
  refine lv_aload_n hx hb dX9_write_0 rfl (lv_at hl 2 rfl) ?_
  refine va_ldcS hx hb hown (show vk_R RX9 82 "-----BEGIN " sa0 s from (hG (.inr (.inr (.inl (RX9, 82, "-----BEGIN ", sa0)))) (List.mem_of_getElem? (i := 1) rfl))) dX9_write_1 ?_
  have hPc := hP.sub (ws' := [(to, .inr (4, [.ref rr, w3, .int (nI 0)])), (rr, .inl (y 0, 1024, .inl g))]) [1, 2] rfl
  have hDc := hD.sub (ws' := [(to, .inr (4, [.ref rr, w3, .int (nI 0)])), (rr, .inl (y 0, 1024, .inl g))]) [1, 2] (by decide) rfl
  have hFc := va_free (wc := [(to, .inr (4, [.ref rr, w3, .int (nI 0)])), (rr, .inl (y 0, 1024, .inl g))]) hD hS hA [1, 2] rfl
  refine va_callv (va_runV (As := [.ref sa0]) (rest := []) ⟨hx, hb, hml, hown, hts⟩ (c_X0_pushText_11 l D y s.heap.size to rr 1024 0 sa0 st0 w3 g zs0 (by decide) (by decide)) (cwV 1 hts gv_c_X9_write_2_c_X0_pushText_11_149 rfl rfl rfl (by decide +kernel) ⟨(Nat.le_of_ble_eq_true rfl), (Nat.le_of_ble_eq_true rfl)⟩) (zB.preV hPc hDc hK hN hE hO hT hG hS hFc (fun _ h => nomatch h) (List.forall_mem_cons.mpr ⟨List.mem_of_getElem? (i := 0) rfl, (fun _ h => nomatch h)⟩) (fun _ h => nomatch h) (List.forall_mem_cons.mpr ⟨List.mem_of_getElem? (i := 0) rfl, (List.forall_mem_cons.mpr ⟨List.mem_of_getElem? (i := 2) rfl, (fun _ h => nomatch h)⟩)⟩) (va_recv hK hPc (ci := 4) (q0 := 0) rfl rfl)) rfl rfl hl.1 rfl (lv_room (Nat.le_of_ble_eq_true rfl)) dX9_write_3 ⟨(Nat.le_of_ble_eq_true rfl), (Nat.le_of_ble_eq_true rfl)⟩) hS (fun q _ h => hFc q h) hFc (fun u t H1 locs ht hvm hw hB hz1 hk1 hS => ?_)
  obtain ⟨f1, hP1, hD1⟩ := hB
  rw [ht] at hP1
  obtain ⟨hP, hD⟩ := va_join (wr := [(fr, .inr (4, [w1, w2, .int 0]))]) (w1 := [(to, .inr (4, [.ref rr, w3, .int (nI 11)])), (rr, .inl (y 0, 1024, .inl f1))]) hP hD [1, 2] [0] rfl rfl (by decide) (by decide) hk1 hFc hP1 hD1
  generalize H1 = H at hP hS ⊢
  have hP : va_P D vwCl [(fr, .inr (4, [w1, w2, .int 0])), (to, .inr (4, [.ref rr, w3, .int (nI 11)])), (rr, .inl (y 0, 1024, .inl f1))] H := hP
  have hD : va_D A [(fr, .inr (4, [w1, w2, .int 0])), (to, .inr (4, [.ref rr, w3, .int (nI 11)])), (rr, .inl (y 0, 1024, .inl f1))] := hD
  refine lv_aload_n hx hb dX9_write_6 rfl (lv_at hl 2 rfl) ?_
  refine lv_iload_n hx hb dX9_write_7 rfl (lv_at hl 1 rfl) ?_
  have hPc := hP.sub (ws' := []) [] rfl
  have hDc := hD.sub (ws' := []) [] (by decide) rfl
  have hFc := va_free (wc := []) hD hS hA [] rfl
  refine va_callq (va_runS (As := [.int 2]) (rest := [.ref to]) ⟨hx, hb, hml, hown, hts⟩ (c_X9_label_2 l D y H.size sa3 st3) (va_cwS 1 hts gv_c_X9_write_2_c_X9_label_2_84 rfl rfl rfl (by decide +kernel) ⟨(Nat.le_of_ble_eq_true rfl), (Nat.le_of_ble_eq_true rfl)⟩) (zB.preS hPc hDc hK hN hE hO hT hG hS hFc (fun _ h => nomatch h) (fun _ h => nomatch h) (fun _ h => nomatch h) (List.forall_mem_cons.mpr ⟨List.mem_of_getElem? (i := 3) rfl, (List.forall_mem_cons.mpr ⟨List.mem_of_getElem? (i := 4) rfl, (fun _ h => nomatch h)⟩)⟩)) rfl rfl hl.1 rfl (lv_room (Nat.le_of_ble_eq_true rfl)) dX9_write_8 ⟨(Nat.le_of_ble_eq_true rfl), (Nat.le_of_ble_eq_true rfl)⟩) hS (fun q _ h => hFc q h) hFc (fun r2 u t H1 locs ht hvm hw hB hz1 hk1 hS => ?_)
  obtain ⟨hP1, hD1⟩ := hB
  rw [ht] at hP1
  obtain ⟨hP, hD⟩ := va_join (wr := [(fr, .inr (4, [w1, w2, .int 0])), (to, .inr (4, [.ref rr, w3, .int (nI 11)])), (rr, .inl (y 0, 1024, .inl f1))]) (w1 := []) hP hD [] [0, 1, 2] rfl rfl (by decide) (by decide) hk1 hFc hP1 hD1
  generalize H1 = H at hP hS ⊢
  have hP : va_P D vwCl [(fr, .inr (4, [w1, w2, .int 0])), (to, .inr (4, [.ref rr, w3, .int (nI 11)])), (rr, .inl (y 0, 1024, .inl f1))] H := hP
  have hD : va_D A [(fr, .inr (4, [w1, w2, .int 0])), (to, .inr (4, [.ref rr, w3, .int (nI 11)])), (rr, .inl (y 0, 1024, .inl f1))] := hD
  have hw : r2 = some sa3 := hw
  subst hw
  refine W.eq (g2 := F0 m 11 ls [.ref sa3, .ref to]) rfl ?_
  have hPc := hP.sub (ws' := [(to, .inr (4, [.ref rr, w3, .int (nI 11)])), (rr, .inl (y 0, 1024, .inl f1))]) [1, 2] rfl
  have hDc := hD.sub (ws' := [(to, .inr (4, [.ref rr, w3, .int (nI 11)])), (rr, .inl (y 0, 1024, .inl f1))]) [1, 2] (by decide) rfl
  have hFc := va_free (wc := [(to, .inr (4, [.ref rr, w3, .int (nI 11)])), (rr, .inl (y 0, 1024, .inl f1))]) hD hS hA [1, 2] rfl
  refine va_callv (va_runV (As := [.ref sa3]) (rest := []) ⟨hx, hb, hml, hown, hts⟩ (c_X0_pushText_13 l D y H.size to rr 1024 11 sa3 st3 w3 f1 zs3 (by decide) (by decide)) (cwV 1 hts gv_c_X9_write_2_c_X0_pushText_13_149 rfl rfl rfl (by decide +kernel) ⟨(Nat.le_of_ble_eq_true rfl), (Nat.le_of_ble_eq_true rfl)⟩) (zB.preV hPc hDc hK hN hE hO hT hG hS hFc (fun _ h => nomatch h) (List.forall_mem_cons.mpr ⟨List.mem_of_getElem? (i := 0) rfl, (fun _ h => nomatch h)⟩) (fun _ h => nomatch h) (List.forall_mem_cons.mpr ⟨List.mem_of_getElem? (i := 3) rfl, (List.forall_mem_cons.mpr ⟨List.mem_of_getElem? (i := 2) rfl, (fun _ h => nomatch h)⟩)⟩) (va_recv hK hPc (ci := 4) (q0 := 0) rfl rfl)) rfl rfl hl.1 rfl (lv_room (Nat.le_of_ble_eq_true rfl)) dX9_write_11 ⟨(Nat.le_of_ble_eq_true rfl), (Nat.le_of_ble_eq_true rfl)⟩) hS (fun q _ h => hFc q h) hFc (fun u t H1 locs ht hvm hw hB hz1 hk1 hS => ?_)
  obtain ⟨f3, hP1, hD1⟩ := hB
  rw [ht] at hP1
  obtain ⟨hP, hD⟩ := va_join (wr := [(fr, .inr (4, [w1, w2, .int 0]))]) (w1 := [(to, .inr (4, [.ref rr, w3, .int (nI 24)])), (rr, .inl (y 0, 1024, .inl f3))]) hP hD [1, 2] [0] rfl rfl (by decide) (by decide) hk1 hFc hP1 hD1
  generalize H1 = H at hP hS ⊢
  have hP : va_P D vwCl [(fr, .inr (4, [w1, w2, .int 0])), (to, .inr (4, [.ref rr, w3, .int (nI 24)])), (rr, .inl (y 0, 1024, .inl f3))] H := hP
  have hD : va_D A [(fr, .inr (4, [w1, w2, .int 0])), (to, .inr (4, [.ref rr, w3, .int (nI 24)])), (rr, .inl (y 0, 1024, .inl f3))] := hD
  refine lv_aload_n hx hb dX9_write_14 rfl (lv_at hl 2 rfl) ?_
  refine va_ldcS hx hb hown (show vk_R RX9 80 "-----" sa4 s from (hG (.inr (.inr (.inl (RX9, 80, "-----", sa4)))) (List.mem_of_getElem? (i := 6) rfl))) dX9_write_15 ?_
  have hPc := hP.sub (ws' := [(to, .inr (4, [.ref rr, w3, .int (nI 24)])), (rr, .inl (y 0, 1024, .inl f3))]) [1, 2] rfl
  have hDc := hD.sub (ws' := [(to, .inr (4, [.ref rr, w3, .int (nI 24)])), (rr, .inl (y 0, 1024, .inl f3))]) [1, 2] (by decide) rfl
  have hFc := va_free (wc := [(to, .inr (4, [.ref rr, w3, .int (nI 24)])), (rr, .inl (y 0, 1024, .inl f3))]) hD hS hA [1, 2] rfl
  refine va_callv (va_runV (As := [.ref sa4]) (rest := []) ⟨hx, hb, hml, hown, hts⟩ (c_X0_pushText_5 l D y H.size to rr 1024 24 sa4 st4 w3 f3 zs4 (by decide) (by decide)) (cwV 1 hts gv_c_X9_write_2_c_X0_pushText_5_149 rfl rfl rfl (by decide +kernel) ⟨(Nat.le_of_ble_eq_true rfl), (Nat.le_of_ble_eq_true rfl)⟩) (zB.preV hPc hDc hK hN hE hO hT hG hS hFc (fun _ h => nomatch h) (List.forall_mem_cons.mpr ⟨List.mem_of_getElem? (i := 0) rfl, (fun _ h => nomatch h)⟩) (fun _ h => nomatch h) (List.forall_mem_cons.mpr ⟨List.mem_of_getElem? (i := 5) rfl, (List.forall_mem_cons.mpr ⟨List.mem_of_getElem? (i := 2) rfl, (fun _ h => nomatch h)⟩)⟩) (va_recv hK hPc (ci := 4) (q0 := 0) rfl rfl)) rfl rfl hl.1 rfl (lv_room (Nat.le_of_ble_eq_true rfl)) dX9_write_17 ⟨(Nat.le_of_ble_eq_true rfl), (Nat.le_of_ble_eq_true rfl)⟩) hS (fun q _ h => hFc q h) hFc (fun u t H1 locs ht hvm hw hB hz1 hk1 hS => ?_)
  obtain ⟨f4, hP1, hD1⟩ := hB
  rw [ht] at hP1
  obtain ⟨hP, hD⟩ := va_join (wr := [(fr, .inr (4, [w1, w2, .int 0]))]) (w1 := [(to, .inr (4, [.ref rr, w3, .int (nI 29)])), (rr, .inl (y 0, 1024, .inl f4))]) hP hD [1, 2] [0] rfl rfl (by decide) (by decide) hk1 hFc hP1 hD1
  generalize H1 = H at hP hS ⊢
  have hP : va_P D vwCl [(fr, .inr (4, [w1, w2, .int 0])), (to, .inr (4, [.ref rr, w3, .int (nI 29)])), (rr, .inl (y 0, 1024, .inl f4))] H := hP
  have hD : va_D A [(fr, .inr (4, [w1, w2, .int 0])), (to, .inr (4, [.ref rr, w3, .int (nI 29)])), (rr, .inl (y 0, 1024, .inl f4))] := hD
  refine lv_aload_n hx hb dX9_write_20 rfl (lv_at hl 2 rfl) ?_
  refine lv_bipush (v := 10) hx hb dX9_write_21 (by decide) ?_
  have hPc := hP.sub (ws' := [(to, .inr (4, [.ref rr, w3, .int (nI 29)])), (rr, .inl (y 0, 1024, .inl f4))]) [1, 2] rfl
  have hDc := hD.sub (ws' := [(to, .inr (4, [.ref rr, w3, .int (nI 29)])), (rr, .inl (y 0, 1024, .inl f4))]) [1, 2] (by decide) rfl
  have hFc := va_free (wc := [(to, .inr (4, [.ref rr, w3, .int (nI 29)])), (rr, .inl (y 0, 1024, .inl f4))]) hD hS hA [1, 2] rfl
  refine va_callv (va_runV (As := [.int 10]) (rest := []) ⟨hx, hb, hml, hown, hts⟩ (c_X0_push l D y H.size to rr 1024 29 w3 f4 10 (by decide) (by decide)) (cwV 1 hts gv_c_X9_write_2_c_X0_push_135 rfl rfl rfl (by decide +kernel) ⟨(Nat.le_of_ble_eq_true rfl), (Nat.le_of_ble_eq_true rfl)⟩) (zB.preV hPc hDc hK hN hE hO hT hG hS hFc (fun _ h => nomatch h) (fun _ h => nomatch h) (fun _ h => nomatch h) (fun _ h => nomatch h) (va_recv hK hPc (ci := 4) (q0 := 0) rfl rfl)) rfl rfl hl.1 rfl (lv_room (Nat.le_of_ble_eq_true rfl)) dX9_write_23 ⟨(Nat.le_of_ble_eq_true rfl), (Nat.le_of_ble_eq_true rfl)⟩) hS (fun q _ h => hFc q h) hFc (fun u t H1 locs ht hvm hw hB hz1 hk1 hS => ?_)
  obtain ⟨f5, hP1, hD1⟩ := hB
  rw [ht] at hP1
  obtain ⟨hP, hD⟩ := va_join (wr := [(fr, .inr (4, [w1, w2, .int 0]))]) (w1 := [(to, .inr (4, [.ref rr, w3, .int (nI 30)])), (rr, .inl (y 0, 1024, .inl f5))]) hP hD [1, 2] [0] rfl rfl (by decide) (by decide) hk1 hFc hP1 hD1
  generalize H1 = H at hP hS ⊢
  have hP : va_P D vwCl [(fr, .inr (4, [w1, w2, .int 0])), (to, .inr (4, [.ref rr, w3, .int (nI 30)])), (rr, .inl (y 0, 1024, .inl f5))] H := hP
  have hD : va_D A [(fr, .inr (4, [w1, w2, .int 0])), (to, .inr (4, [.ref rr, w3, .int (nI 30)])), (rr, .inl (y 0, 1024, .inl f5))] := hD
  refine lv_aload_n hx hb dX9_write_26 rfl (lv_at hl 2 rfl) ?_
  refine lv_bipush (v := 10) hx hb dX9_write_27 (by decide) ?_
  have hPc := hP.sub (ws' := [(to, .inr (4, [.ref rr, w3, .int (nI 30)])), (rr, .inl (y 0, 1024, .inl f5))]) [1, 2] rfl
  have hDc := hD.sub (ws' := [(to, .inr (4, [.ref rr, w3, .int (nI 30)])), (rr, .inl (y 0, 1024, .inl f5))]) [1, 2] (by decide) rfl
  have hFc := va_free (wc := [(to, .inr (4, [.ref rr, w3, .int (nI 30)])), (rr, .inl (y 0, 1024, .inl f5))]) hD hS hA [1, 2] rfl
  refine va_callv (va_runV (As := [.int 10]) (rest := []) ⟨hx, hb, hml, hown, hts⟩ (c_X0_push l D y H.size to rr 1024 30 w3 f5 10 (by decide) (by decide)) (cwV 1 hts gv_c_X9_write_2_c_X0_push_135 rfl rfl rfl (by decide +kernel) ⟨(Nat.le_of_ble_eq_true rfl), (Nat.le_of_ble_eq_true rfl)⟩) (zB.preV hPc hDc hK hN hE hO hT hG hS hFc (fun _ h => nomatch h) (fun _ h => nomatch h) (fun _ h => nomatch h) (fun _ h => nomatch h) (va_recv hK hPc (ci := 4) (q0 := 0) rfl rfl)) rfl rfl hl.1 rfl (lv_room (Nat.le_of_ble_eq_true rfl)) dX9_write_29 ⟨(Nat.le_of_ble_eq_true rfl), (Nat.le_of_ble_eq_true rfl)⟩) hS (fun q _ h => hFc q h) hFc (fun u t H1 locs ht hvm hw hB hz1 hk1 hS => ?_)
  obtain ⟨f6, hP1, hD1⟩ := hB
  rw [ht] at hP1
  obtain ⟨hP, hD⟩ := va_join (wr := [(fr, .inr (4, [w1, w2, .int 0]))]) (w1 := [(to, .inr (4, [.ref rr, w3, .int (nI 31)])), (rr, .inl (y 0, 1024, .inl f6))]) hP hD [1, 2] [0] rfl rfl (by decide) (by decide) hk1 hFc hP1 hD1
  generalize H1 = H at hP hS ⊢
  have hP : va_P D vwCl [(fr, .inr (4, [w1, w2, .int 0])), (to, .inr (4, [.ref rr, w3, .int (nI 31)])), (rr, .inl (y 0, 1024, .inl f6))] H := hP
  have hD : va_D A [(fr, .inr (4, [w1, w2, .int 0])), (to, .inr (4, [.ref rr, w3, .int (nI 31)])), (rr, .inl (y 0, 1024, .inl f6))] := hD
  refine lv_iconst (v := 0) hx hb dX9_write_32 (by decide) ?_
  refine lv_istore_n (lv' := [(3, .int 0), (0, .ref fr), (1, .int 2), (2, .ref to)]) hx hb dX9_write_33 rfl hl (by decide) rfl (fun ls hl => ?_)
  refine lv_iload_n hx hb dX9_write_34 rfl (lv_at hl 0 rfl) ?_
  refine lv_aload_n hx hb dX9_write_35 rfl (lv_at hl 1 rfl) ?_
  refine va_get (D := D) (ci := 4) (v := .int 0) (C := RX0) (T := TX0) (N := 3) hx hb hts (by decide +kernel) hown hK hP 0 rfl rfl 2 (by decide) (hts (.fieldLink RX9 31 "SignetRing$Span" "size" "I") (by decide +kernel)) (fun _ h9 => h9) rfl dX9_write_36 ?_
  refine lv_icmp_ge (tgt := 93) hx hb dX9_write_39 (by decide) (fun _ => ?_) (fun c9 => absurd (by decide) c9)
  refine lv_aload_n hx hb dX9_write_93 rfl (lv_at hl 3 rfl) ?_
  refine lv_bipush (v := 61) hx hb dX9_write_94 (by decide) ?_
  have hPc := hP.sub (ws' := [(to, .inr (4, [.ref rr, w3, .int (nI 31)])), (rr, .inl (y 0, 1024, .inl f6))]) [1, 2] rfl
  have hDc := hD.sub (ws' := [(to, .inr (4, [.ref rr, w3, .int (nI 31)])), (rr, .inl (y 0, 1024, .inl f6))]) [1, 2] (by decide) rfl
  have hFc := va_free (wc := [(to, .inr (4, [.ref rr, w3, .int (nI 31)])), (rr, .inl (y 0, 1024, .inl f6))]) hD hS hA [1, 2] rfl
  refine va_callv (va_runV (As := [.int 61]) (rest := []) ⟨hx, hb, hml, hown, hts⟩ (c_X0_push l D y H.size to rr 1024 31 w3 f6 61 (by decide) (by decide)) (cwV 1 hts gv_c_X9_write_2_c_X0_push_135 rfl rfl rfl (by decide +kernel) ⟨(Nat.le_of_ble_eq_true rfl), (Nat.le_of_ble_eq_true rfl)⟩) (zB.preV hPc hDc hK hN hE hO hT hG hS hFc (fun _ h => nomatch h) (fun _ h => nomatch h) (fun _ h => nomatch h) (fun _ h => nomatch h) (va_recv hK hPc (ci := 4) (q0 := 0) rfl rfl)) rfl rfl hl.1 rfl (lv_room (Nat.le_of_ble_eq_true rfl)) dX9_write_96 ⟨(Nat.le_of_ble_eq_true rfl), (Nat.le_of_ble_eq_true rfl)⟩) hS (fun q _ h => hFc q h) hFc (fun u t H1 locs ht hvm hw hB hz1 hk1 hS => ?_)
  obtain ⟨f7, hP1, hD1⟩ := hB
  rw [ht] at hP1
  obtain ⟨hP, hD⟩ := va_join (wr := [(fr, .inr (4, [w1, w2, .int 0]))]) (w1 := [(to, .inr (4, [.ref rr, w3, .int (nI 32)])), (rr, .inl (y 0, 1024, .inl f7))]) hP hD [1, 2] [0] rfl rfl (by decide) (by decide) hk1 hFc hP1 hD1
  generalize H1 = H at hP hS ⊢
  have hP : va_P D vwCl [(fr, .inr (4, [w1, w2, .int 0])), (to, .inr (4, [.ref rr, w3, .int (nI 32)])), (rr, .inl (y 0, 1024, .inl f7))] H := hP
  have hD : va_D A [(fr, .inr (4, [w1, w2, .int 0])), (to, .inr (4, [.ref rr, w3, .int (nI 32)])), (rr, .inl (y 0, 1024, .inl f7))] := hD
  refine lv_aload_n hx hb dX9_write_99 rfl (lv_at hl 1 rfl) ?_
  have hPc := hP.sub (ws' := [(fr, .inr (4, [w1, w2, .int 0]))]) [0] rfl
  have hDc := hD.sub (ws' := [(fr, .inr (4, [w1, w2, .int 0]))]) [0] (by decide) rfl
  have hFc := va_free (wc := [(fr, .inr (4, [w1, w2, .int 0]))]) hD hS hA [0] rfl
  refine va_calli (va_runS (As := [.ref fr]) (rest := []) ⟨hx, hb, hml, hown, hts⟩ (c_X9_sumOf l D y H.size fr w1 w2) (va_cwS 1 hts gv_c_X9_write_2_c_X9_sumOf_138 rfl rfl rfl (by decide +kernel) ⟨(Nat.le_of_ble_eq_true rfl), (Nat.le_of_ble_eq_true rfl)⟩) (zB.preS hPc hDc hK hN hE hO hT hG hS hFc (fun _ h => nomatch h) (fun _ h => nomatch h) (fun _ h => nomatch h) (fun _ h => nomatch h)) rfl rfl hl.1 rfl (lv_room (Nat.le_of_ble_eq_true rfl)) dX9_write_100 ⟨(Nat.le_of_ble_eq_true rfl), (Nat.le_of_ble_eq_true rfl)⟩) hS (fun q _ h => hFc q h) hFc (fun r8 u t H1 locs ht hvm hw hB hz1 hk1 hS => ?_)
  obtain ⟨hP1, hD1⟩ := hB
  rw [ht] at hP1
  obtain ⟨hP, hD⟩ := va_join (wr := [(to, .inr (4, [.ref rr, w3, .int (nI 32)])), (rr, .inl (y 0, 1024, .inl f7))]) (w1 := [(fr, .inr (4, [w1, w2, .int 0]))]) hP hD [0] [1, 2] rfl rfl (by decide) (by decide) hk1 hFc hP1 hD1
  generalize H1 = H at hP hS ⊢
  have hP : va_P D vwCl [(to, .inr (4, [.ref rr, w3, .int (nI 32)])), (rr, .inl (y 0, 1024, .inl f7)), (fr, .inr (4, [w1, w2, .int 0]))] H := hP
  have hD : va_D A [(to, .inr (4, [.ref rr, w3, .int (nI 32)])), (rr, .inl (y 0, 1024, .inl f7)), (fr, .inr (4, [w1, w2, .int 0]))] := hD
  have hw : r8 = 11994318 := hw
  subst hw
  refine lv_i2l (v := 11994318) hx hb dX9_write_103 (by decide +kernel) ?_
  refine lv_iconst (v := 3) hx hb dX9_write_104 (by decide) ?_
  refine lv_aload_n hx hb dX9_write_105 rfl (lv_at hl 3 rfl) ?_
  have hPc := hP.sub (ws' := [(to, .inr (4, [.ref rr, w3, .int (nI 32)])), (rr, .inl (y 0, 1024, .inl f7))]) [0, 1] rfl
  have hDc := hD.sub (ws' := [(to, .inr (4, [.ref rr, w3, .int (nI 32)])), (rr, .inl (y 0, 1024, .inl f7))]) [0, 1] (by decide) rfl
  have hFc := va_free (wc := [(to, .inr (4, [.ref rr, w3, .int (nI 32)])), (rr, .inl (y 0, 1024, .inl f7))]) hD hS hA [0, 1] rfl
  refine va_callv (va_runS (As := [.long 11994318, .int 3, .ref to]) (rest := []) ⟨hx, hb, hml, hown, hts⟩ (c_X9_writeGroup l D y H.size to rr 1024 32 w3 f7 (by decide) (by decide)) (va_cwS 3 hts gv_c_X9_write_2_c_X9_writeGroup_157 rfl rfl rfl (by decide +kernel) ⟨(Nat.le_of_ble_eq_true rfl), (Nat.le_of_ble_eq_true rfl)⟩) (zB.preS hPc hDc hK hN hE hO hT hG hS hFc (fun _ h => nomatch h) (fun _ h => nomatch h) (fun _ h => nomatch h) (fun _ h => nomatch h)) rfl rfl hl.1 rfl (lv_room (Nat.le_of_ble_eq_true rfl)) dX9_write_106 ⟨(Nat.le_of_ble_eq_true rfl), (Nat.le_of_ble_eq_true rfl)⟩) hS (fun q _ h => hFc q h) hFc (fun u t H1 locs ht hvm hw hB hz1 hk1 hS => ?_)
  obtain ⟨f9, hP1, hD1⟩ := hB
  rw [ht] at hP1
  obtain ⟨hP, hD⟩ := va_join (wr := [(fr, .inr (4, [w1, w2, .int 0]))]) (w1 := [(to, .inr (4, [.ref rr, w3, .int (nI 36)])), (rr, .inl (y 0, 1024, .inl f9))]) hP hD [0, 1] [2] rfl rfl (by decide) (by decide) hk1 hFc hP1 hD1
  generalize H1 = H at hP hS ⊢
  have hP : va_P D vwCl [(fr, .inr (4, [w1, w2, .int 0])), (to, .inr (4, [.ref rr, w3, .int (nI 36)])), (rr, .inl (y 0, 1024, .inl f9))] H := hP
  have hD : va_D A [(fr, .inr (4, [w1, w2, .int 0])), (to, .inr (4, [.ref rr, w3, .int (nI 36)])), (rr, .inl (y 0, 1024, .inl f9))] := hD
  refine lv_aload_n hx hb dX9_write_109 rfl (lv_at hl 3 rfl) ?_
  refine lv_bipush (v := 10) hx hb dX9_write_110 (by decide) ?_
  have hPc := hP.sub (ws' := [(to, .inr (4, [.ref rr, w3, .int (nI 36)])), (rr, .inl (y 0, 1024, .inl f9))]) [1, 2] rfl
  have hDc := hD.sub (ws' := [(to, .inr (4, [.ref rr, w3, .int (nI 36)])), (rr, .inl (y 0, 1024, .inl f9))]) [1, 2] (by decide) rfl
  have hFc := va_free (wc := [(to, .inr (4, [.ref rr, w3, .int (nI 36)])), (rr, .inl (y 0, 1024, .inl f9))]) hD hS hA [1, 2] rfl
  refine va_callv (va_runV (As := [.int 10]) (rest := []) ⟨hx, hb, hml, hown, hts⟩ (c_X0_push l D y H.size to rr 1024 36 w3 f9 10 (by decide) (by decide)) (cwV 1 hts gv_c_X9_write_2_c_X0_push_135 rfl rfl rfl (by decide +kernel) ⟨(Nat.le_of_ble_eq_true rfl), (Nat.le_of_ble_eq_true rfl)⟩) (zB.preV hPc hDc hK hN hE hO hT hG hS hFc (fun _ h => nomatch h) (fun _ h => nomatch h) (fun _ h => nomatch h) (fun _ h => nomatch h) (va_recv hK hPc (ci := 4) (q0 := 0) rfl rfl)) rfl rfl hl.1 rfl (lv_room (Nat.le_of_ble_eq_true rfl)) dX9_write_112 ⟨(Nat.le_of_ble_eq_true rfl), (Nat.le_of_ble_eq_true rfl)⟩) hS (fun q _ h => hFc q h) hFc (fun u t H1 locs ht hvm hw hB hz1 hk1 hS => ?_)
  obtain ⟨f10, hP1, hD1⟩ := hB
  rw [ht] at hP1
  obtain ⟨hP, hD⟩ := va_join (wr := [(fr, .inr (4, [w1, w2, .int 0]))]) (w1 := [(to, .inr (4, [.ref rr, w3, .int (nI 37)])), (rr, .inl (y 0, 1024, .inl f10))]) hP hD [1, 2] [0] rfl rfl (by decide) (by decide) hk1 hFc hP1 hD1
  generalize H1 = H at hP hS ⊢
  have hP : va_P D vwCl [(fr, .inr (4, [w1, w2, .int 0])), (to, .inr (4, [.ref rr, w3, .int (nI 37)])), (rr, .inl (y 0, 1024, .inl f10))] H := hP
  have hD : va_D A [(fr, .inr (4, [w1, w2, .int 0])), (to, .inr (4, [.ref rr, w3, .int (nI 37)])), (rr, .inl (y 0, 1024, .inl f10))] := hD
  refine lv_aload_n hx hb dX9_write_115 rfl (lv_at hl 3 rfl) ?_
  refine va_ldcS hx hb hown (show vk_R RX9 113 "-----END " sa5 s from (hG (.inr (.inr (.inl (RX9, 113, "-----END ", sa5)))) (List.mem_of_getElem? (i := 8) rfl))) dX9_write_116 ?_
  have hPc := hP.sub (ws' := [(to, .inr (4, [.ref rr, w3, .int (nI 37)])), (rr, .inl (y 0, 1024, .inl f10))]) [1, 2] rfl
  have hDc := hD.sub (ws' := [(to, .inr (4, [.ref rr, w3, .int (nI 37)])), (rr, .inl (y 0, 1024, .inl f10))]) [1, 2] (by decide) rfl
  have hFc := va_free (wc := [(to, .inr (4, [.ref rr, w3, .int (nI 37)])), (rr, .inl (y 0, 1024, .inl f10))]) hD hS hA [1, 2] rfl
  refine va_callv (va_runV (As := [.ref sa5]) (rest := []) ⟨hx, hb, hml, hown, hts⟩ (c_X0_pushText_9 l D y H.size to rr 1024 37 sa5 st5 w3 f10 zs5 (by decide) (by decide)) (cwV 1 hts gv_c_X9_write_2_c_X0_pushText_9_149 rfl rfl rfl (by decide +kernel) ⟨(Nat.le_of_ble_eq_true rfl), (Nat.le_of_ble_eq_true rfl)⟩) (zB.preV hPc hDc hK hN hE hO hT hG hS hFc (fun _ h => nomatch h) (List.forall_mem_cons.mpr ⟨List.mem_of_getElem? (i := 0) rfl, (fun _ h => nomatch h)⟩) (fun _ h => nomatch h) (List.forall_mem_cons.mpr ⟨List.mem_of_getElem? (i := 7) rfl, (List.forall_mem_cons.mpr ⟨List.mem_of_getElem? (i := 2) rfl, (fun _ h => nomatch h)⟩)⟩) (va_recv hK hPc (ci := 4) (q0 := 0) rfl rfl)) rfl rfl hl.1 rfl (lv_room (Nat.le_of_ble_eq_true rfl)) dX9_write_118 ⟨(Nat.le_of_ble_eq_true rfl), (Nat.le_of_ble_eq_true rfl)⟩) hS (fun q _ h => hFc q h) hFc (fun u t H1 locs ht hvm hw hB hz1 hk1 hS => ?_)
  obtain ⟨f11, hP1, hD1⟩ := hB
  rw [ht] at hP1
  obtain ⟨hP, hD⟩ := va_join (wr := [(fr, .inr (4, [w1, w2, .int 0]))]) (w1 := [(to, .inr (4, [.ref rr, w3, .int (nI 46)])), (rr, .inl (y 0, 1024, .inl f11))]) hP hD [1, 2] [0] rfl rfl (by decide) (by decide) hk1 hFc hP1 hD1
  generalize H1 = H at hP hS ⊢
  have hP : va_P D vwCl [(fr, .inr (4, [w1, w2, .int 0])), (to, .inr (4, [.ref rr, w3, .int (nI 46)])), (rr, .inl (y 0, 1024, .inl f11))] H := hP
  have hD : va_D A [(fr, .inr (4, [w1, w2, .int 0])), (to, .inr (4, [.ref rr, w3, .int (nI 46)])), (rr, .inl (y 0, 1024, .inl f11))] := hD
  refine lv_aload_n hx hb dX9_write_121 rfl (lv_at hl 3 rfl) ?_
  refine lv_iload_n hx hb dX9_write_122 rfl (lv_at hl 2 rfl) ?_
  have hPc := hP.sub (ws' := []) [] rfl
  have hDc := hD.sub (ws' := []) [] (by decide) rfl
  have hFc := va_free (wc := []) hD hS hA [] rfl
  refine va_callq (va_runS (As := [.int 2]) (rest := [.ref to]) ⟨hx, hb, hml, hown, hts⟩ (c_X9_label_2 l D y H.size sa3 st3) (va_cwS 1 hts gv_c_X9_write_2_c_X9_label_2_84 rfl rfl rfl (by decide +kernel) ⟨(Nat.le_of_ble_eq_true rfl), (Nat.le_of_ble_eq_true rfl)⟩) (zB.preS hPc hDc hK hN hE hO hT hG hS hFc (fun _ h => nomatch h) (fun _ h => nomatch h) (fun _ h => nomatch h) (List.forall_mem_cons.mpr ⟨List.mem_of_getElem? (i := 3) rfl, (List.forall_mem_cons.mpr ⟨List.mem_of_getElem? (i := 4) rfl, (fun _ h => nomatch h)⟩)⟩)) rfl rfl hl.1 rfl (lv_room (Nat.le_of_ble_eq_true rfl)) dX9_write_123 ⟨(Nat.le_of_ble_eq_true rfl), (Nat.le_of_ble_eq_true rfl)⟩) hS (fun q _ h => hFc q h) hFc (fun r12 u t H1 locs ht hvm hw hB hz1 hk1 hS => ?_)
  obtain ⟨hP1, hD1⟩ := hB
  rw [ht] at hP1
  obtain ⟨hP, hD⟩ := va_join (wr := [(fr, .inr (4, [w1, w2, .int 0])), (to, .inr (4, [.ref rr, w3, .int (nI 46)])), (rr, .inl (y 0, 1024, .inl f11))]) (w1 := []) hP hD [] [0, 1, 2] rfl rfl (by decide) (by decide) hk1 hFc hP1 hD1
  generalize H1 = H at hP hS ⊢
  have hP : va_P D vwCl [(fr, .inr (4, [w1, w2, .int 0])), (to, .inr (4, [.ref rr, w3, .int (nI 46)])), (rr, .inl (y 0, 1024, .inl f11))] H := hP
  have hD : va_D A [(fr, .inr (4, [w1, w2, .int 0])), (to, .inr (4, [.ref rr, w3, .int (nI 46)])), (rr, .inl (y 0, 1024, .inl f11))] := hD
  have hw : r12 = some sa3 := hw
  subst hw
  refine W.eq (g2 := F0 m 126 ls [.ref sa3, .ref to]) rfl ?_
  have hPc := hP.sub (ws' := [(to, .inr (4, [.ref rr, w3, .int (nI 46)])), (rr, .inl (y 0, 1024, .inl f11))]) [1, 2] rfl
  have hDc := hD.sub (ws' := [(to, .inr (4, [.ref rr, w3, .int (nI 46)])), (rr, .inl (y 0, 1024, .inl f11))]) [1, 2] (by decide) rfl
  have hFc := va_free (wc := [(to, .inr (4, [.ref rr, w3, .int (nI 46)])), (rr, .inl (y 0, 1024, .inl f11))]) hD hS hA [1, 2] rfl
  refine va_callv (va_runV (As := [.ref sa3]) (rest := []) ⟨hx, hb, hml, hown, hts⟩ (c_X0_pushText_13 l D y H.size to rr 1024 46 sa3 st3 w3 f11 zs3 (by decide) (by decide)) (cwV 1 hts gv_c_X9_write_2_c_X0_pushText_13_149 rfl rfl rfl (by decide +kernel) ⟨(Nat.le_of_ble_eq_true rfl), (Nat.le_of_ble_eq_true rfl)⟩) (zB.preV hPc hDc hK hN hE hO hT hG hS hFc (fun _ h => nomatch h) (List.forall_mem_cons.mpr ⟨List.mem_of_getElem? (i := 0) rfl, (fun _ h => nomatch h)⟩) (fun _ h => nomatch h) (List.forall_mem_cons.mpr ⟨List.mem_of_getElem? (i := 3) rfl, (List.forall_mem_cons.mpr ⟨List.mem_of_getElem? (i := 2) rfl, (fun _ h => nomatch h)⟩)⟩) (va_recv hK hPc (ci := 4) (q0 := 0) rfl rfl)) rfl rfl hl.1 rfl (lv_room (Nat.le_of_ble_eq_true rfl)) dX9_write_126 ⟨(Nat.le_of_ble_eq_true rfl), (Nat.le_of_ble_eq_true rfl)⟩) hS (fun q _ h => hFc q h) hFc (fun u t H1 locs ht hvm hw hB hz1 hk1 hS => ?_)
  obtain ⟨f13, hP1, hD1⟩ := hB
  rw [ht] at hP1
  obtain ⟨hP, hD⟩ := va_join (wr := [(fr, .inr (4, [w1, w2, .int 0]))]) (w1 := [(to, .inr (4, [.ref rr, w3, .int (nI 59)])), (rr, .inl (y 0, 1024, .inl f13))]) hP hD [1, 2] [0] rfl rfl (by decide) (by decide) hk1 hFc hP1 hD1
  generalize H1 = H at hP hS ⊢
  have hP : va_P D vwCl [(fr, .inr (4, [w1, w2, .int 0])), (to, .inr (4, [.ref rr, w3, .int (nI 59)])), (rr, .inl (y 0, 1024, .inl f13))] H := hP
  have hD : va_D A [(fr, .inr (4, [w1, w2, .int 0])), (to, .inr (4, [.ref rr, w3, .int (nI 59)])), (rr, .inl (y 0, 1024, .inl f13))] := hD
  refine lv_aload_n hx hb dX9_write_129 rfl (lv_at hl 3 rfl) ?_
  refine va_ldcS hx hb hown (show vk_R RX9 80 "-----" sa4 s from (hG (.inr (.inr (.inl (RX9, 80, "-----", sa4)))) (List.mem_of_getElem? (i := 6) rfl))) dX9_write_130 ?_
  have hPc := hP.sub (ws' := [(to, .inr (4, [.ref rr, w3, .int (nI 59)])), (rr, .inl (y 0, 1024, .inl f13))]) [1, 2] rfl
  have hDc := hD.sub (ws' := [(to, .inr (4, [.ref rr, w3, .int (nI 59)])), (rr, .inl (y 0, 1024, .inl f13))]) [1, 2] (by decide) rfl
  have hFc := va_free (wc := [(to, .inr (4, [.ref rr, w3, .int (nI 59)])), (rr, .inl (y 0, 1024, .inl f13))]) hD hS hA [1, 2] rfl
  refine va_callv (va_runV (As := [.ref sa4]) (rest := []) ⟨hx, hb, hml, hown, hts⟩ (c_X0_pushText_5 l D y H.size to rr 1024 59 sa4 st4 w3 f13 zs4 (by decide) (by decide)) (cwV 1 hts gv_c_X9_write_2_c_X0_pushText_5_149 rfl rfl rfl (by decide +kernel) ⟨(Nat.le_of_ble_eq_true rfl), (Nat.le_of_ble_eq_true rfl)⟩) (zB.preV hPc hDc hK hN hE hO hT hG hS hFc (fun _ h => nomatch h) (List.forall_mem_cons.mpr ⟨List.mem_of_getElem? (i := 0) rfl, (fun _ h => nomatch h)⟩) (fun _ h => nomatch h) (List.forall_mem_cons.mpr ⟨List.mem_of_getElem? (i := 5) rfl, (List.forall_mem_cons.mpr ⟨List.mem_of_getElem? (i := 2) rfl, (fun _ h => nomatch h)⟩)⟩) (va_recv hK hPc (ci := 4) (q0 := 0) rfl rfl)) rfl rfl hl.1 rfl (lv_room (Nat.le_of_ble_eq_true rfl)) dX9_write_132 ⟨(Nat.le_of_ble_eq_true rfl), (Nat.le_of_ble_eq_true rfl)⟩) hS (fun q _ h => hFc q h) hFc (fun u t H1 locs ht hvm hw hB hz1 hk1 hS => ?_)
  obtain ⟨f14, hP1, hD1⟩ := hB
  rw [ht] at hP1
  obtain ⟨hP, hD⟩ := va_join (wr := [(fr, .inr (4, [w1, w2, .int 0]))]) (w1 := [(to, .inr (4, [.ref rr, w3, .int (nI 64)])), (rr, .inl (y 0, 1024, .inl f14))]) hP hD [1, 2] [0] rfl rfl (by decide) (by decide) hk1 hFc hP1 hD1
  generalize H1 = H at hP hS ⊢
  have hP : va_P D vwCl [(fr, .inr (4, [w1, w2, .int 0])), (to, .inr (4, [.ref rr, w3, .int (nI 64)])), (rr, .inl (y 0, 1024, .inl f14))] H := hP
  have hD : va_D A [(fr, .inr (4, [w1, w2, .int 0])), (to, .inr (4, [.ref rr, w3, .int (nI 64)])), (rr, .inl (y 0, 1024, .inl f14))] := hD
  refine lv_aload_n hx hb dX9_write_135 rfl (lv_at hl 3 rfl) ?_
  refine lv_bipush (v := 10) hx hb dX9_write_136 (by decide) ?_
  have hPc := hP.sub (ws' := [(to, .inr (4, [.ref rr, w3, .int (nI 64)])), (rr, .inl (y 0, 1024, .inl f14))]) [1, 2] rfl
  have hDc := hD.sub (ws' := [(to, .inr (4, [.ref rr, w3, .int (nI 64)])), (rr, .inl (y 0, 1024, .inl f14))]) [1, 2] (by decide) rfl
  have hFc := va_free (wc := [(to, .inr (4, [.ref rr, w3, .int (nI 64)])), (rr, .inl (y 0, 1024, .inl f14))]) hD hS hA [1, 2] rfl
  refine va_callv (va_runV (As := [.int 10]) (rest := []) ⟨hx, hb, hml, hown, hts⟩ (c_X0_push l D y H.size to rr 1024 64 w3 f14 10 (by decide) (by decide)) (cwV 1 hts gv_c_X9_write_2_c_X0_push_135 rfl rfl rfl (by decide +kernel) ⟨(Nat.le_of_ble_eq_true rfl), (Nat.le_of_ble_eq_true rfl)⟩) (zB.preV hPc hDc hK hN hE hO hT hG hS hFc (fun _ h => nomatch h) (fun _ h => nomatch h) (fun _ h => nomatch h) (fun _ h => nomatch h) (va_recv hK hPc (ci := 4) (q0 := 0) rfl rfl)) rfl rfl hl.1 rfl (lv_room (Nat.le_of_ble_eq_true rfl)) dX9_write_138 ⟨(Nat.le_of_ble_eq_true rfl), (Nat.le_of_ble_eq_true rfl)⟩) hS (fun q _ h => hFc q h) hFc (fun u t H1 locs ht hvm hw hB hz1 hk1 hS => ?_)
  obtain ⟨f15, hP1, hD1⟩ := hB
  rw [ht] at hP1
  obtain ⟨hP, hD⟩ := va_join (wr := [(fr, .inr (4, [w1, w2, .int 0]))]) (w1 := [(to, .inr (4, [.ref rr, w3, .int (nI 65)])), (rr, .inl (y 0, 1024, .inl f15))]) hP hD [1, 2] [0] rfl rfl (by decide) (by decide) hk1 hFc hP1 hD1
  generalize H1 = H at hP hS ⊢
  have hP : va_P D vwCl [(fr, .inr (4, [w1, w2, .int 0])), (to, .inr (4, [.ref rr, w3, .int (nI 65)])), (rr, .inl (y 0, 1024, .inl f15))] H := hP
  have hD : va_D A [(fr, .inr (4, [w1, w2, .int 0])), (to, .inr (4, [.ref rr, w3, .int (nI 65)])), (rr, .inl (y 0, 1024, .inl f15))] := hD
  have hP9 := hP.sub (ws' := [(fr, .inr (4, [w1, w2, .int 0])), (to, .inr (4, [.ref rr, w3, .int (nI 65)])), (rr, .inl (y 0, 1024, .inl f15))]) [0, 1, 2] rfl
  have hD9 := hD.sub (ws' := [(fr, .inr (4, [w1, w2, .int 0])), (to, .inr (4, [.ref rr, w3, .int (nI 65)])), (rr, .inl (y 0, 1024, .inl f15))]) [0, 1, 2] (by decide) rfl
  refine W.widen (k := 0) (n := 0) (Nat.le_of_ble_eq_true rfl) (Nat.le_of_ble_eq_true rfl) ?_
  exact W.vret hx hb hr (fun t ht hW => ⟨⟨(), rfl, trivial, f15, by rw [ht]; exact hP9, hD9⟩, hS.F ht⟩) hS.2.2 dX9_write_141
def wz_c_X11_armor_0 : List Cond := .code yX11_armor cX11_armor 3 (some .int) :: ([.fieldLink RX11 80 "SignetRing" "out" "LSignetRing$Bytes;", .fieldLink RX11 86 "SignetRing$Bytes" "size" "I", .sameField "SignetRing$Bytes" "SignetRing$Span" "size" "I", .fieldLink RX11 83 "SignetRing" "spare" "LSignetRing$Bytes;", .methodLink RX11 204 yX9_write, .static yX9_write, .initialized RX9] ++ (wsX110 ++ (wsX00 ++ (wz_c_X9_write_0 ++ ([])))))
set_option maxRecDepth 100000 in
theorem gz_c_X11_armor_0_c_X9_write_0 : GoodIn wz_c_X11_armor_0 wz_c_X9_write_0 := goodIn_sub (fun w h => List.mem_cons_of_mem _ (List.mem_append_right _ (List.mem_append_right _ (List.mem_append_right _ (List.mem_append_left _ h))))) (by decide +kernel)
set_option maxRecDepth 100000 in
theorem gv_c_X11_armor_0_c_X9_write_0_204 : GoodIn wz_c_X11_armor_0 (va_wsS RX11 204 yX9_write wz_c_X9_write_0) := goodIn_app (goodIn_of _ (by decide +kernel)) gz_c_X11_armor_0_c_X9_write_0
set_option maxHeartbeats 4000000 in
set_option maxRecDepth 100000 in
theorem c_X11_armor_0 (l : Launch) (D : va_G) (y : Nat → ClassId) (sz : Nat) (h0 : Nat) (ou : Nat) (sp : Nat) (sr : Nat) (w1 : Value) (w2 : Value) (w3 : Value) (w4 : Value) (w5 : Value) (w6 : Value) (w7 : Value) (w8 : Value) (w9 : Value) (w10 : Value) (w11 : Value) (w12 : Value) (w13 : Value) (w14 : Value) (w15 : Value) (w16 : Value) (w17 : Value) (g : Nat → Int32) (sa0 : Nat) (st0 : Nat) (sa1 : Nat) (st1 : Nat) (sa4 : Nat) (st4 : Nat) (sa5 : Nat) (st5 : Nat) : Met l yX11_armor wz_c_X11_armor_0 ({ frames := 6, cells := 0, slots := 0, locals := 130 }) (va_Pc [.ref h0, .int 0] (zB D y [(h0, .inr (15, [w1, w2, w3, w4, w5, w6, w7, w8, w9, w10, w11, .ref ou, .ref sp, w12, w13])), (ou, .inr (4, [w14, w15, .int 0])), (sp, .inr (4, [.ref sr, w16, w17])), (sr, .inl (y 0, 1024, .inl g))] sz [] [("java/lang/String", "COMPACT_STRINGS", "Z", .int 1)] [] [.inr (.inl (sa0, st0, 11, zs0)), .inr (.inr (.inl (RX9, 82, "-----BEGIN ", sa0))), .inr (.inr (.inr (.inr ("jdk/internal/util/Preconditions", "SIOOBE_FORMATTER", "Ljava/util/function/BiFunction;")))), .inr (.inl (sa1, st1, 11, zs1)), .inr (.inr (.inl (RX9, 24, "SEALED KEYS", sa1))), .inr (.inl (sa4, st4, 5, zs4)), .inr (.inr (.inl (RX9, 80, "-----", sa4))), .inr (.inl (sa5, st5, 9, zs5)), .inr (.inr (.inl (RX9, 113, "-----END ", sa5)))])) (va_Qi (fun (r : Int32) (_ : Unit) => r = nI 61) (fun _ t => ∃ fz0 : Nat → Int32, va_P D vwCl [(h0, .inr (15, [w1, w2, w3, w4, w5, w6, w7, w8, w9, w10, w11, .ref sp, .ref ou, w12, w13])), (ou, .inr (4, [w14, w15, .int 0])), (sp, .inr (4, [.ref sr, w16, .int (nI 61)])), (sr, .inl (y 0, 1024, .inl fz0))] t.heap ∧ va_D (va_A [(h0, .inr (15, [w1, w2, w3, w4, w5, w6, w7, w8, w9, w10, w11, .ref ou, .ref sp, w12, w13])), (ou, .inr (4, [w14, w15, .int 0])), (sp, .inr (4, [.ref sr, w16, w17])), (sr, .inl (y 0, 1024, .inl g))] sz) [(h0, .inr (15, [w1, w2, w3, w4, w5, w6, w7, w8, w9, w10, w11, .ref sp, .ref ou, w12, w13])), (ou, .inr (4, [w14, w15, .int 0])), (sp, .inr (4, [.ref sr, w16, .int (nI 61)])), (sr, .inl (y 0, 1024, .inl fz0))]) (va_A [(h0, .inr (15, [w1, w2, w3, w4, w5, w6, w7, w8, w9, w10, w11, .ref ou, .ref sp, w12, w13])), (ou, .inr (4, [w14, w15, .int 0])), (sp, .inr (4, [.ref sr, w16, w17])), (sr, .inl (y 0, 1024, .inl g))] sz)) 0 0 (va_A [(h0, .inr (15, [w1, w2, w3, w4, w5, w6, w7, w8, w9, w10, w11, .ref ou, .ref sp, w12, w13])), (ou, .inr (4, [w14, w15, .int 0])), (sp, .inr (4, [.ref sr, w16, w17])), (sr, .inl (y 0, 1024, .inl g))] sz) := by
  refine Met.ofW (cc := cX11_armor) (maxL := 3) (ret := (some .int)) (by decide) rfl ?_
  intro p e s m args below meth c s₁ B hml hv
  obtain ⟨rfl, hsz, hP, hK, hD0, hN, hE, hO, hT, hG⟩ := hv
  have hx := B.exec
  have hb := B.bytes
  have hr := B.returns
  have hts := atoms_spec (ws := wz_c_X11_armor_0) B.pre
  have hown : s.vm.findClass RX11 = some m.cls := findClass_of_methodNamed B.named
  have hlocks := B.notSynchronized
  subst hsz
  have hD := hD0.self (sz := s.heap.size)
  generalize hAe : va_A [(h0, .inr (15, [w1, w2, w3, w4, w5, w6, w7, w8, w9, w10, w11, .ref ou, .ref sp, w12, w13])), (ou, .inr (4, [w14, w15, .int 0])), (sp, .inr (4, [.ref sr, w16, w17])), (sr, .inl (y 0, 1024, .inl g))] s.heap.size = A at hD hE hT hG ⊢
  have hA : ∀ q : Nat, s.heap.size ≤ q → A q := fun q h => by rw [← hAe]; exact Or.inr h
  have hS : va_S A s.heap s.heap [] := va_S.rf
  have hl := lv_entry ([.ref h0, .int 0]) (n := 3) (Nat.le_of_ble_eq_true rfl)
  rw [lg_entry_eq]
  generalize (lg_sl ([.ref h0, .int 0]) ++ List.replicate (3 - (lg_sl ([.ref h0, .int 0])).length) Slot.unset).toArray = ls at hl ⊢
  have hl : lv_has ls 3 [(0, .ref h0), (1, .int 0)] := hl
  refine lv_iload_n hx hb dX11_armor_0 rfl (lv_at hl 1 rfl) ?_
  refine lv_if_lt (tgt := 9) hx hb dX11_armor_1 (by decide) (fun c9 => absurd c9 (by decide)) (fun _ => ?_)
  refine lv_iload_n hx hb dX11_armor_4 rfl (lv_at hl 1 rfl) ?_
  refine lv_iconst (v := 2) hx hb dX11_armor_5 (by decide) ?_
  refine lv_icmp_le (tgt := 17) hx hb dX11_armor_6 (by decide) (fun _ => ?_) (fun c9 => absurd (by decide) c9)
  refine lv_aload_n hx hb dX11_armor_17 rfl (lv_at hl 0 rfl) ?_
  refine va_get (D := D) (ci := 15) (v := .ref ou) (C := RX11) (T := TX11) (N := 15) hx hb hts (by decide +kernel) hown hK hP 0 rfl rfl 11 (by decide) (hts (.fieldLink RX11 80 "SignetRing" "out" "LSignetRing$Bytes;") (by decide +kernel)) (fun _ h9 => h9) rfl dX11_armor_18 ?_
  refine va_get (D := D) (ci := 4) (v := .int 0) (C := RX0) (T := TX0) (N := 3) hx hb hts (by decide +kernel) hown hK hP 1 rfl rfl 2 (by decide) (hts (.fieldLink RX11 86 "SignetRing$Bytes" "size" "I") (by decide +kernel)) (u_same (hts (.sameField "SignetRing$Bytes" "SignetRing$Span" "size" "I") (by decide +kernel))) rfl dX11_armor_21 ?_
  refine lv_sipush (v := 8000) hx hb dX11_armor_24 (by decide) ?_
  refine lv_icmp_le (tgt := 38) hx hb dX11_armor_27 (by decide) (fun _ => ?_) (fun c9 => absurd (by decide) c9)
  refine lv_aload_n hx hb dX11_armor_38 rfl (lv_at hl 0 rfl) ?_
  refine va_get (D := D) (ci := 15) (v := .ref sp) (C := RX11) (T := TX11) (N := 15) hx hb hts (by decide +kernel) hown hK hP 0 rfl rfl 12 (by decide) (hts (.fieldLink RX11 83 "SignetRing" "spare" "LSignetRing$Bytes;") (by decide +kernel)) (fun _ h9 => h9) rfl dX11_armor_39 ?_
  refine lv_iconst (v := nI 0) hx hb dX11_armor_42 (by decide) ?_
  refine va_put (D := D) (ci := 4) (v := .int (nI 0)) (ty := .int) (C := RX0) (T := TX0) (N := 3) hx hb hts (by decide +kernel) tyX0 tyX0_ok nmX0 hown hK hP hD hS 2 rfl rfl 2 (by decide) (hts (.fieldLink RX11 86 "SignetRing$Bytes" "size" "I") (by decide +kernel)) (u_same (hts (.sameField "SignetRing$Bytes" "SignetRing$Span" "size" "I") (by decide +kernel))) rfl (by decide +kernel) rfl rfl (Nat.le_of_ble_eq_true rfl) dX11_armor_43 (fun H locs hP hD hS => ?_)
  have hP : va_P D vwCl [(h0, .inr (15, [w1, w2, w3, w4, w5, w6, w7, w8, w9, w10, w11, .ref ou, .ref sp, w12, w13])), (ou, .inr (4, [w14, w15, .int 0])), (sp, .inr (4, [.ref sr, w16, .int (nI 0)])), (sr, .inl (y 0, 1024, .inl g))] H := hP
  have hD : va_D A [(h0, .inr (15, [w1, w2, w3, w4, w5, w6, w7, w8, w9, w10, w11, .ref ou, .ref sp, w12, w13])), (ou, .inr (4, [w14, w15, .int 0])), (sp, .inr (4, [.ref sr, w16, .int (nI 0)])), (sr, .inl (y 0, 1024, .inl g))] := hD
  refine lv_aload_n hx hb dX11_armor_46 rfl (lv_at hl 0 rfl) ?_
  refine va_get (D := D) (ci := 15) (v := .ref ou) (C := RX11) (T := TX11) (N := 15) hx hb hts (by decide +kernel) hown hK hP 0 rfl rfl 11 (by decide) (hts (.fieldLink RX11 80 "SignetRing" "out" "LSignetRing$Bytes;") (by decide +kernel)) (fun _ h9 => h9) rfl dX11_armor_47 ?_
  refine lv_iload_n hx hb dX11_armor_50 rfl (lv_at hl 1 rfl) ?_
  refine lv_aload_n hx hb dX11_armor_51 rfl (lv_at hl 0 rfl) ?_
  refine va_get (D := D) (ci := 15) (v := .ref sp) (C := RX11) (T := TX11) (N := 15) hx hb hts (by decide +kernel) hown hK hP 0 rfl rfl 12 (by decide) (hts (.fieldLink RX11 83 "SignetRing" "spare" "LSignetRing$Bytes;") (by decide +kernel)) (fun _ h9 => h9) rfl dX11_armor_52 ?_
  have hPc := hP.sub (ws' := [(ou, .inr (4, [w14, w15, .int 0])), (sp, .inr (4, [.ref sr, w16, .int (nI 0)])), (sr, .inl (y 0, 1024, .inl g))]) [1, 2, 3] rfl
  have hDc := hD.sub (ws' := [(ou, .inr (4, [w14, w15, .int 0])), (sp, .inr (4, [.ref sr, w16, .int (nI 0)])), (sr, .inl (y 0, 1024, .inl g))]) [1, 2, 3] (by decide) rfl
  have hFc := va_free (wc := [(ou, .inr (4, [w14, w15, .int 0])), (sp, .inr (4, [.ref sr, w16, .int (nI 0)])), (sr, .inl (y 0, 1024, .inl g))]) hD hS hA [1, 2, 3] rfl
  refine va_callv (va_runS (As := [.ref ou, .int 0, .ref sp]) (rest := []) ⟨hx, hb, hml, hown, hts⟩ (c_X9_write_0 l D y H.size ou sp sr w14 w15 w16 g sa0 st0 sa1 st1 sa4 st4 sa5 st5) (va_cwS 3 hts gv_c_X11_armor_0_c_X9_write_0_204 rfl rfl rfl (by decide +kernel) ⟨(Nat.le_of_ble_eq_true rfl), (Nat.le_of_ble_eq_true rfl)⟩) (zB.preS hPc hDc hK hN hE hO hT hG hS hFc (fun _ h => nomatch h) (List.forall_mem_cons.mpr ⟨List.mem_of_getElem? (i := 0) rfl, (fun _ h => nomatch h)⟩) (fun _ h => nomatch h) (List.forall_mem_cons.mpr ⟨List.mem_of_getElem? (i := 0) rfl, (List.forall_mem_cons.mpr ⟨List.mem_of_getElem? (i := 1) rfl, (List.forall_mem_cons.mpr ⟨List.mem_of_getElem? (i := 2) rfl, (List.forall_mem_cons.mpr ⟨List.mem_of_getElem? (i := 3) rfl, (List.forall_mem_cons.mpr ⟨List.mem_of_getElem? (i := 4) rfl, (List.forall_mem_cons.mpr ⟨List.mem_of_getElem? (i := 5) rfl, (List.forall_mem_cons.mpr ⟨List.mem_of_getElem? (i := 6) rfl, (List.forall_mem_cons.mpr ⟨List.mem_of_getElem? (i := 7) rfl, (List.forall_mem_cons.mpr ⟨List.mem_of_getElem? (i := 8) rfl, (fun _ h => nomatch h)⟩)⟩)⟩)⟩)⟩)⟩)⟩)⟩)⟩)) rfl rfl hl.1 rfl (lv_room (Nat.le_of_ble_eq_true rfl)) dX11_armor_55 ⟨(Nat.le_of_ble_eq_true rfl), (Nat.le_of_ble_eq_true rfl)⟩) hS (fun q _ h => hFc q h) hFc (fun u t H1 locs ht hvm hw hB hz1 hk1 hS => ?_)
  obtain ⟨f1, hP1, hD1⟩ := hB
  rw [ht] at hP1
  obtain ⟨hP, hD⟩ := va_join (wr := [(h0, .inr (15, [w1, w2, w3, w4, w5, w6, w7, w8, w9, w10, w11, .ref ou, .ref sp, w12, w13]))]) (w1 := [(ou, .inr (4, [w14, w15, .int 0])), (sp, .inr (4, [.ref sr, w16, .int (nI 61)])), (sr, .inl (y 0, 1024, .inl f1))]) hP hD [1, 2, 3] [0] rfl rfl (by decide) (by decide) hk1 hFc hP1 hD1
  generalize H1 = H at hP hS ⊢
  have hP : va_P D vwCl [(h0, .inr (15, [w1, w2, w3, w4, w5, w6, w7, w8, w9, w10, w11, .ref ou, .ref sp, w12, w13])), (ou, .inr (4, [w14, w15, .int 0])), (sp, .inr (4, [.ref sr, w16, .int (nI 61)])), (sr, .inl (y 0, 1024, .inl f1))] H := hP
  have hD : va_D A [(h0, .inr (15, [w1, w2, w3, w4, w5, w6, w7, w8, w9, w10, w11, .ref ou, .ref sp, w12, w13])), (ou, .inr (4, [w14, w15, .int 0])), (sp, .inr (4, [.ref sr, w16, .int (nI 61)])), (sr, .inl (y 0, 1024, .inl f1))] := hD
  refine lv_aload_n hx hb dX11_armor_58 rfl (lv_at hl 0 rfl) ?_
  refine va_get (D := D) (ci := 15) (v := .ref sp) (C := RX11) (T := TX11) (N := 15) hx hb hts (by decide +kernel) hown hK hP 0 rfl rfl 12 (by decide) (hts (.fieldLink RX11 83 "SignetRing" "spare" "LSignetRing$Bytes;") (by decide +kernel)) (fun _ h9 => h9) rfl dX11_armor_59 ?_
  refine lv_astore_n (lv' := [(2, .ref sp), (0, .ref h0), (1, .int 0)]) hx hb dX11_armor_62 rfl hl (by decide) rfl (fun ls hl => ?_)
  refine lv_aload_n hx hb dX11_armor_63 rfl (lv_at hl 1 rfl) ?_
  refine lv_aload_n hx hb dX11_armor_64 rfl (lv_at hl 1 rfl) ?_
  refine va_get (D := D) (ci := 15) (v := .ref ou) (C := RX11) (T := TX11) (N := 15) hx hb hts (by decide +kernel) hown hK hP 0 rfl rfl 11 (by decide) (hts (.fieldLink RX11 80 "SignetRing" "out" "LSignetRing$Bytes;") (by decide +kernel)) (fun _ h9 => h9) rfl dX11_armor_65 ?_
  refine va_put (D := D) (ci := 15) (v := .ref ou) (ty := (.object "SignetRing$Bytes")) (C := RX11) (T := TX11) (N := 15) hx hb hts (by decide +kernel) tyX11 tyX11_ok nmX11 hown hK hP hD hS 0 rfl rfl 12 (by decide) (hts (.fieldLink RX11 83 "SignetRing" "spare" "LSignetRing$Bytes;") (by decide +kernel)) (fun _ h9 => h9) rfl (by decide +kernel) rfl rfl (Nat.le_of_ble_eq_true rfl) dX11_armor_68 (fun H locs hP hD hS => ?_)
  have hP : va_P D vwCl [(h0, .inr (15, [w1, w2, w3, w4, w5, w6, w7, w8, w9, w10, w11, .ref ou, .ref ou, w12, w13])), (ou, .inr (4, [w14, w15, .int 0])), (sp, .inr (4, [.ref sr, w16, .int (nI 61)])), (sr, .inl (y 0, 1024, .inl f1))] H := hP
  have hD : va_D A [(h0, .inr (15, [w1, w2, w3, w4, w5, w6, w7, w8, w9, w10, w11, .ref ou, .ref ou, w12, w13])), (ou, .inr (4, [w14, w15, .int 0])), (sp, .inr (4, [.ref sr, w16, .int (nI 61)])), (sr, .inl (y 0, 1024, .inl f1))] := hD
  refine lv_aload_n hx hb dX11_armor_71 rfl (lv_at hl 1 rfl) ?_
  refine lv_aload_n hx hb dX11_armor_72 rfl (lv_at hl 0 rfl) ?_
  refine va_put (D := D) (ci := 15) (v := .ref sp) (ty := (.object "SignetRing$Bytes")) (C := RX11) (T := TX11) (N := 15) hx hb hts (by decide +kernel) tyX11 tyX11_ok nmX11 hown hK hP hD hS 0 rfl rfl 11 (by decide) (hts (.fieldLink RX11 80 "SignetRing" "out" "LSignetRing$Bytes;") (by decide +kernel)) (fun _ h9 => h9) rfl (by decide +kernel) rfl rfl (Nat.le_of_ble_eq_true rfl) dX11_armor_73 (fun H locs hP hD hS => ?_)
  have hP : va_P D vwCl [(h0, .inr (15, [w1, w2, w3, w4, w5, w6, w7, w8, w9, w10, w11, .ref sp, .ref ou, w12, w13])), (ou, .inr (4, [w14, w15, .int 0])), (sp, .inr (4, [.ref sr, w16, .int (nI 61)])), (sr, .inl (y 0, 1024, .inl f1))] H := hP
  have hD : va_D A [(h0, .inr (15, [w1, w2, w3, w4, w5, w6, w7, w8, w9, w10, w11, .ref sp, .ref ou, w12, w13])), (ou, .inr (4, [w14, w15, .int 0])), (sp, .inr (4, [.ref sr, w16, .int (nI 61)])), (sr, .inl (y 0, 1024, .inl f1))] := hD
  refine lv_aload_n hx hb dX11_armor_76 rfl (lv_at hl 1 rfl) ?_
  refine va_get (D := D) (ci := 15) (v := .ref sp) (C := RX11) (T := TX11) (N := 15) hx hb hts (by decide +kernel) hown hK hP 0 rfl rfl 11 (by decide) (hts (.fieldLink RX11 80 "SignetRing" "out" "LSignetRing$Bytes;") (by decide +kernel)) (fun _ h9 => h9) rfl dX11_armor_77 ?_
  refine va_get (D := D) (ci := 4) (v := .int (nI 61)) (C := RX0) (T := TX0) (N := 3) hx hb hts (by decide +kernel) hown hK hP 2 rfl rfl 2 (by decide) (hts (.fieldLink RX11 86 "SignetRing$Bytes" "size" "I") (by decide +kernel)) (u_same (hts (.sameField "SignetRing$Bytes" "SignetRing$Span" "size" "I") (by decide +kernel))) rfl dX11_armor_80 ?_
  have hP9 := hP.sub (ws' := [(h0, .inr (15, [w1, w2, w3, w4, w5, w6, w7, w8, w9, w10, w11, .ref sp, .ref ou, w12, w13])), (ou, .inr (4, [w14, w15, .int 0])), (sp, .inr (4, [.ref sr, w16, .int (nI 61)])), (sr, .inl (y 0, 1024, .inl f1))]) [0, 1, 2, 3] rfl
  have hD9 := hD.sub (ws' := [(h0, .inr (15, [w1, w2, w3, w4, w5, w6, w7, w8, w9, w10, w11, .ref sp, .ref ou, w12, w13])), (ou, .inr (4, [w14, w15, .int 0])), (sp, .inr (4, [.ref sr, w16, .int (nI 61)])), (sr, .inl (y 0, 1024, .inl f1))]) [0, 1, 2, 3] (by decide) rfl
  refine W.widen (k := 0) (n := 0) (Nat.le_of_ble_eq_true rfl) (Nat.le_of_ble_eq_true rfl) ?_
  exact W.iret (v := (nI 61)) hx hb hr (fun t ht hW => ⟨⟨(nI 61), (), rfl, rfl, f1, by rw [ht]; exact hP9, hD9⟩, hS.F ht⟩) hS.2.2 dX11_armor_83
def wz_c_X11_armor_1 : List Cond := .code yX11_armor cX11_armor 3 (some .int) :: ([.fieldLink RX11 80 "SignetRing" "out" "LSignetRing$Bytes;", .fieldLink RX11 86 "SignetRing$Bytes" "size" "I", .sameField "SignetRing$Bytes" "SignetRing$Span" "size" "I", .fieldLink RX11 83 "SignetRing" "spare" "LSignetRing$Bytes;", .methodLink RX11 204 yX9_write, .static yX9_write, .initialized RX9] ++ (wsX110 ++ (wsX00 ++ (wz_c_X9_write_1 ++ ([])))))
set_option maxRecDepth 100000 in
theorem gz_c_X11_armor_1_c_X9_write_1 : GoodIn wz_c_X11_armor_1 wz_c_X9_write_1 := goodIn_sub (fun w h => List.mem_cons_of_mem _ (List.mem_append_right _ (List.mem_append_right _ (List.mem_append_right _ (List.mem_append_left _ h))))) (by decide +kernel)
set_option maxRecDepth 100000 in
theorem gv_c_X11_armor_1_c_X9_write_1_204 : GoodIn wz_c_X11_armor_1 (va_wsS RX11 204 yX9_write wz_c_X9_write_1) := goodIn_app (goodIn_of _ (by decide +kernel)) gz_c_X11_armor_1_c_X9_write_1
set_option maxHeartbeats 4000000 in
set_option maxRecDepth 100000 in
theorem c_X11_armor_1 (l : Launch) (D : va_G) (y : Nat → ClassId) (sz : Nat) (h0 : Nat) (ou : Nat) (sp : Nat) (sr : Nat) (w1 : Value) (w2 : Value) (w3 : Value) (w4 : Value) (w5 : Value) (w6 : Value) (w7 : Value) (w8 : Value) (w9 : Value) (w10 : Value) (w11 : Value) (w12 : Value) (w13 : Value) (w14 : Value) (w15 : Value) (w16 : Value) (w17 : Value) (g : Nat → Int32) (sa0 : Nat) (st0 : Nat) (sa2 : Nat) (st2 : Nat) (sa4 : Nat) (st4 : Nat) (sa5 : Nat) (st5 : Nat) : Met l yX11_armor wz_c_X11_armor_1 ({ frames := 6, cells := 0, slots := 0, locals := 130 }) (va_Pc [.ref h0, .int 1] (zB D y [(h0, .inr (15, [w1, w2, w3, w4, w5, w6, w7, w8, w9, w10, w11, .ref ou, .ref sp, w12, w13])), (ou, .inr (4, [w14, w15, .int 0])), (sp, .inr (4, [.ref sr, w16, w17])), (sr, .inl (y 0, 1024, .inl g))] sz [] [("java/lang/String", "COMPACT_STRINGS", "Z", .int 1)] [] [.inr (.inl (sa0, st0, 11, zs0)), .inr (.inr (.inl (RX9, 82, "-----BEGIN ", sa0))), .inr (.inr (.inr (.inr ("jdk/internal/util/Preconditions", "SIOOBE_FORMATTER", "Ljava/util/function/BiFunction;")))), .inr (.inl (sa2, st2, 4, zs2)), .inr (.inr (.inl (RX9, 26, "SEAL", sa2))), .inr (.inl (sa4, st4, 5, zs4)), .inr (.inr (.inl (RX9, 80, "-----", sa4))), .inr (.inl (sa5, st5, 9, zs5)), .inr (.inr (.inl (RX9, 113, "-----END ", sa5)))])) (va_Qi (fun (r : Int32) (_ : Unit) => r = nI 47) (fun _ t => ∃ fz0 : Nat → Int32, va_P D vwCl [(h0, .inr (15, [w1, w2, w3, w4, w5, w6, w7, w8, w9, w10, w11, .ref sp, .ref ou, w12, w13])), (ou, .inr (4, [w14, w15, .int 0])), (sp, .inr (4, [.ref sr, w16, .int (nI 47)])), (sr, .inl (y 0, 1024, .inl fz0))] t.heap ∧ va_D (va_A [(h0, .inr (15, [w1, w2, w3, w4, w5, w6, w7, w8, w9, w10, w11, .ref ou, .ref sp, w12, w13])), (ou, .inr (4, [w14, w15, .int 0])), (sp, .inr (4, [.ref sr, w16, w17])), (sr, .inl (y 0, 1024, .inl g))] sz) [(h0, .inr (15, [w1, w2, w3, w4, w5, w6, w7, w8, w9, w10, w11, .ref sp, .ref ou, w12, w13])), (ou, .inr (4, [w14, w15, .int 0])), (sp, .inr (4, [.ref sr, w16, .int (nI 47)])), (sr, .inl (y 0, 1024, .inl fz0))]) (va_A [(h0, .inr (15, [w1, w2, w3, w4, w5, w6, w7, w8, w9, w10, w11, .ref ou, .ref sp, w12, w13])), (ou, .inr (4, [w14, w15, .int 0])), (sp, .inr (4, [.ref sr, w16, w17])), (sr, .inl (y 0, 1024, .inl g))] sz)) 0 0 (va_A [(h0, .inr (15, [w1, w2, w3, w4, w5, w6, w7, w8, w9, w10, w11, .ref ou, .ref sp, w12, w13])), (ou, .inr (4, [w14, w15, .int 0])), (sp, .inr (4, [.ref sr, w16, w17])), (sr, .inl (y 0, 1024, .inl g))] sz) := by
  refine Met.ofW (cc := cX11_armor) (maxL := 3) (ret := (some .int)) (by decide) rfl ?_
  intro p e s m args below meth c s₁ B hml hv
  obtain ⟨rfl, hsz, hP, hK, hD0, hN, hE, hO, hT, hG⟩ := hv
  have hx := B.exec
  have hb := B.bytes
  have hr := B.returns
  have hts := atoms_spec (ws := wz_c_X11_armor_1) B.pre
  have hown : s.vm.findClass RX11 = some m.cls := findClass_of_methodNamed B.named
  have hlocks := B.notSynchronized
  subst hsz
  have hD := hD0.self (sz := s.heap.size)
  generalize hAe : va_A [(h0, .inr (15, [w1, w2, w3, w4, w5, w6, w7, w8, w9, w10, w11, .ref ou, .ref sp, w12, w13])), (ou, .inr (4, [w14, w15, .int 0])), (sp, .inr (4, [.ref sr, w16, w17])), (sr, .inl (y 0, 1024, .inl g))] s.heap.size = A at hD hE hT hG ⊢
  have hA : ∀ q : Nat, s.heap.size ≤ q → A q := fun q h => by rw [← hAe]; exact Or.inr h
  have hS : va_S A s.heap s.heap [] := va_S.rf
  have hl := lv_entry ([.ref h0, .int 1]) (n := 3) (Nat.le_of_ble_eq_true rfl)
  rw [lg_entry_eq]
  generalize (lg_sl ([.ref h0, .int 1]) ++ List.replicate (3 - (lg_sl ([.ref h0, .int 1])).length) Slot.unset).toArray = ls at hl ⊢
  have hl : lv_has ls 3 [(0, .ref h0), (1, .int 1)] := hl
  refine lv_iload_n hx hb dX11_armor_0 rfl (lv_at hl 1 rfl) ?_
  refine lv_if_lt (tgt := 9) hx hb dX11_armor_1 (by decide) (fun c9 => absurd c9 (by decide)) (fun _ => ?_)
  refine lv_iload_n hx hb dX11_armor_4 rfl (lv_at hl 1 rfl) ?_
  refine lv_iconst (v := 2) hx hb dX11_armor_5 (by decide) ?_
  refine lv_icmp_le (tgt := 17) hx hb dX11_armor_6 (by decide) (fun _ => ?_) (fun c9 => absurd (by decide) c9)
  refine lv_aload_n hx hb dX11_armor_17 rfl (lv_at hl 0 rfl) ?_
  refine va_get (D := D) (ci := 15) (v := .ref ou) (C := RX11) (T := TX11) (N := 15) hx hb hts (by decide +kernel) hown hK hP 0 rfl rfl 11 (by decide) (hts (.fieldLink RX11 80 "SignetRing" "out" "LSignetRing$Bytes;") (by decide +kernel)) (fun _ h9 => h9) rfl dX11_armor_18 ?_
  refine va_get (D := D) (ci := 4) (v := .int 0) (C := RX0) (T := TX0) (N := 3) hx hb hts (by decide +kernel) hown hK hP 1 rfl rfl 2 (by decide) (hts (.fieldLink RX11 86 "SignetRing$Bytes" "size" "I") (by decide +kernel)) (u_same (hts (.sameField "SignetRing$Bytes" "SignetRing$Span" "size" "I") (by decide +kernel))) rfl dX11_armor_21 ?_
  refine lv_sipush (v := 8000) hx hb dX11_armor_24 (by decide) ?_
  refine lv_icmp_le (tgt := 38) hx hb dX11_armor_27 (by decide) (fun _ => ?_) (fun c9 => absurd (by decide) c9)
  refine lv_aload_n hx hb dX11_armor_38 rfl (lv_at hl 0 rfl) ?_
  refine va_get (D := D) (ci := 15) (v := .ref sp) (C := RX11) (T := TX11) (N := 15) hx hb hts (by decide +kernel) hown hK hP 0 rfl rfl 12 (by decide) (hts (.fieldLink RX11 83 "SignetRing" "spare" "LSignetRing$Bytes;") (by decide +kernel)) (fun _ h9 => h9) rfl dX11_armor_39 ?_
  refine lv_iconst (v := nI 0) hx hb dX11_armor_42 (by decide) ?_
  refine va_put (D := D) (ci := 4) (v := .int (nI 0)) (ty := .int) (C := RX0) (T := TX0) (N := 3) hx hb hts (by decide +kernel) tyX0 tyX0_ok nmX0 hown hK hP hD hS 2 rfl rfl 2 (by decide) (hts (.fieldLink RX11 86 "SignetRing$Bytes" "size" "I") (by decide +kernel)) (u_same (hts (.sameField "SignetRing$Bytes" "SignetRing$Span" "size" "I") (by decide +kernel))) rfl (by decide +kernel) rfl rfl (Nat.le_of_ble_eq_true rfl) dX11_armor_43 (fun H locs hP hD hS => ?_)
  have hP : va_P D vwCl [(h0, .inr (15, [w1, w2, w3, w4, w5, w6, w7, w8, w9, w10, w11, .ref ou, .ref sp, w12, w13])), (ou, .inr (4, [w14, w15, .int 0])), (sp, .inr (4, [.ref sr, w16, .int (nI 0)])), (sr, .inl (y 0, 1024, .inl g))] H := hP
  have hD : va_D A [(h0, .inr (15, [w1, w2, w3, w4, w5, w6, w7, w8, w9, w10, w11, .ref ou, .ref sp, w12, w13])), (ou, .inr (4, [w14, w15, .int 0])), (sp, .inr (4, [.ref sr, w16, .int (nI 0)])), (sr, .inl (y 0, 1024, .inl g))] := hD
  refine lv_aload_n hx hb dX11_armor_46 rfl (lv_at hl 0 rfl) ?_
  refine va_get (D := D) (ci := 15) (v := .ref ou) (C := RX11) (T := TX11) (N := 15) hx hb hts (by decide +kernel) hown hK hP 0 rfl rfl 11 (by decide) (hts (.fieldLink RX11 80 "SignetRing" "out" "LSignetRing$Bytes;") (by decide +kernel)) (fun _ h9 => h9) rfl dX11_armor_47 ?_
  refine lv_iload_n hx hb dX11_armor_50 rfl (lv_at hl 1 rfl) ?_
  refine lv_aload_n hx hb dX11_armor_51 rfl (lv_at hl 0 rfl) ?_
  refine va_get (D := D) (ci := 15) (v := .ref sp) (C := RX11) (T := TX11) (N := 15) hx hb hts (by decide +kernel) hown hK hP 0 rfl rfl 12 (by decide) (hts (.fieldLink RX11 83 "SignetRing" "spare" "LSignetRing$Bytes;") (by decide +kernel)) (fun _ h9 => h9) rfl dX11_armor_52 ?_
  have hPc := hP.sub (ws' := [(ou, .inr (4, [w14, w15, .int 0])), (sp, .inr (4, [.ref sr, w16, .int (nI 0)])), (sr, .inl (y 0, 1024, .inl g))]) [1, 2, 3] rfl
  have hDc := hD.sub (ws' := [(ou, .inr (4, [w14, w15, .int 0])), (sp, .inr (4, [.ref sr, w16, .int (nI 0)])), (sr, .inl (y 0, 1024, .inl g))]) [1, 2, 3] (by decide) rfl
  have hFc := va_free (wc := [(ou, .inr (4, [w14, w15, .int 0])), (sp, .inr (4, [.ref sr, w16, .int (nI 0)])), (sr, .inl (y 0, 1024, .inl g))]) hD hS hA [1, 2, 3] rfl
  refine va_callv (va_runS (As := [.ref ou, .int 1, .ref sp]) (rest := []) ⟨hx, hb, hml, hown, hts⟩ (c_X9_write_1 l D y H.size ou sp sr w14 w15 w16 g sa0 st0 sa2 st2 sa4 st4 sa5 st5) (va_cwS 3 hts gv_c_X11_armor_1_c_X9_write_1_204 rfl rfl rfl (by decide +kernel) ⟨(Nat.le_of_ble_eq_true rfl), (Nat.le_of_ble_eq_true rfl)⟩) (zB.preS hPc hDc hK hN hE hO hT hG hS hFc (fun _ h => nomatch h) (List.forall_mem_cons.mpr ⟨List.mem_of_getElem? (i := 0) rfl, (fun _ h => nomatch h)⟩) (fun _ h => nomatch h) (List.forall_mem_cons.mpr ⟨List.mem_of_getElem? (i := 0) rfl, (List.forall_mem_cons.mpr ⟨List.mem_of_getElem? (i := 1) rfl, (List.forall_mem_cons.mpr ⟨List.mem_of_getElem? (i := 2) rfl, (List.forall_mem_cons.mpr ⟨List.mem_of_getElem? (i := 3) rfl, (List.forall_mem_cons.mpr ⟨List.mem_of_getElem? (i := 4) rfl, (List.forall_mem_cons.mpr ⟨List.mem_of_getElem? (i := 5) rfl, (List.forall_mem_cons.mpr ⟨List.mem_of_getElem? (i := 6) rfl, (List.forall_mem_cons.mpr ⟨List.mem_of_getElem? (i := 7) rfl, (List.forall_mem_cons.mpr ⟨List.mem_of_getElem? (i := 8) rfl, (fun _ h => nomatch h)⟩)⟩)⟩)⟩)⟩)⟩)⟩)⟩)⟩)) rfl rfl hl.1 rfl (lv_room (Nat.le_of_ble_eq_true rfl)) dX11_armor_55 ⟨(Nat.le_of_ble_eq_true rfl), (Nat.le_of_ble_eq_true rfl)⟩) hS (fun q _ h => hFc q h) hFc (fun u t H1 locs ht hvm hw hB hz1 hk1 hS => ?_)
  obtain ⟨f1, hP1, hD1⟩ := hB
  rw [ht] at hP1
  obtain ⟨hP, hD⟩ := va_join (wr := [(h0, .inr (15, [w1, w2, w3, w4, w5, w6, w7, w8, w9, w10, w11, .ref ou, .ref sp, w12, w13]))]) (w1 := [(ou, .inr (4, [w14, w15, .int 0])), (sp, .inr (4, [.ref sr, w16, .int (nI 47)])), (sr, .inl (y 0, 1024, .inl f1))]) hP hD [1, 2, 3] [0] rfl rfl (by decide) (by decide) hk1 hFc hP1 hD1
  generalize H1 = H at hP hS ⊢
  have hP : va_P D vwCl [(h0, .inr (15, [w1, w2, w3, w4, w5, w6, w7, w8, w9, w10, w11, .ref ou, .ref sp, w12, w13])), (ou, .inr (4, [w14, w15, .int 0])), (sp, .inr (4, [.ref sr, w16, .int (nI 47)])), (sr, .inl (y 0, 1024, .inl f1))] H := hP
  have hD : va_D A [(h0, .inr (15, [w1, w2, w3, w4, w5, w6, w7, w8, w9, w10, w11, .ref ou, .ref sp, w12, w13])), (ou, .inr (4, [w14, w15, .int 0])), (sp, .inr (4, [.ref sr, w16, .int (nI 47)])), (sr, .inl (y 0, 1024, .inl f1))] := hD
  refine lv_aload_n hx hb dX11_armor_58 rfl (lv_at hl 0 rfl) ?_
  refine va_get (D := D) (ci := 15) (v := .ref sp) (C := RX11) (T := TX11) (N := 15) hx hb hts (by decide +kernel) hown hK hP 0 rfl rfl 12 (by decide) (hts (.fieldLink RX11 83 "SignetRing" "spare" "LSignetRing$Bytes;") (by decide +kernel)) (fun _ h9 => h9) rfl dX11_armor_59 ?_
  refine lv_astore_n (lv' := [(2, .ref sp), (0, .ref h0), (1, .int 1)]) hx hb dX11_armor_62 rfl hl (by decide) rfl (fun ls hl => ?_)
  refine lv_aload_n hx hb dX11_armor_63 rfl (lv_at hl 1 rfl) ?_
  refine lv_aload_n hx hb dX11_armor_64 rfl (lv_at hl 1 rfl) ?_
  refine va_get (D := D) (ci := 15) (v := .ref ou) (C := RX11) (T := TX11) (N := 15) hx hb hts (by decide +kernel) hown hK hP 0 rfl rfl 11 (by decide) (hts (.fieldLink RX11 80 "SignetRing" "out" "LSignetRing$Bytes;") (by decide +kernel)) (fun _ h9 => h9) rfl dX11_armor_65 ?_
  refine va_put (D := D) (ci := 15) (v := .ref ou) (ty := (.object "SignetRing$Bytes")) (C := RX11) (T := TX11) (N := 15) hx hb hts (by decide +kernel) tyX11 tyX11_ok nmX11 hown hK hP hD hS 0 rfl rfl 12 (by decide) (hts (.fieldLink RX11 83 "SignetRing" "spare" "LSignetRing$Bytes;") (by decide +kernel)) (fun _ h9 => h9) rfl (by decide +kernel) rfl rfl (Nat.le_of_ble_eq_true rfl) dX11_armor_68 (fun H locs hP hD hS => ?_)
  have hP : va_P D vwCl [(h0, .inr (15, [w1, w2, w3, w4, w5, w6, w7, w8, w9, w10, w11, .ref ou, .ref ou, w12, w13])), (ou, .inr (4, [w14, w15, .int 0])), (sp, .inr (4, [.ref sr, w16, .int (nI 47)])), (sr, .inl (y 0, 1024, .inl f1))] H := hP
  have hD : va_D A [(h0, .inr (15, [w1, w2, w3, w4, w5, w6, w7, w8, w9, w10, w11, .ref ou, .ref ou, w12, w13])), (ou, .inr (4, [w14, w15, .int 0])), (sp, .inr (4, [.ref sr, w16, .int (nI 47)])), (sr, .inl (y 0, 1024, .inl f1))] := hD
  refine lv_aload_n hx hb dX11_armor_71 rfl (lv_at hl 1 rfl) ?_
  refine lv_aload_n hx hb dX11_armor_72 rfl (lv_at hl 0 rfl) ?_
  refine va_put (D := D) (ci := 15) (v := .ref sp) (ty := (.object "SignetRing$Bytes")) (C := RX11) (T := TX11) (N := 15) hx hb hts (by decide +kernel) tyX11 tyX11_ok nmX11 hown hK hP hD hS 0 rfl rfl 11 (by decide) (hts (.fieldLink RX11 80 "SignetRing" "out" "LSignetRing$Bytes;") (by decide +kernel)) (fun _ h9 => h9) rfl (by decide +kernel) rfl rfl (Nat.le_of_ble_eq_true rfl) dX11_armor_73 (fun H locs hP hD hS => ?_)
  have hP : va_P D vwCl [(h0, .inr (15, [w1, w2, w3, w4, w5, w6, w7, w8, w9, w10, w11, .ref sp, .ref ou, w12, w13])), (ou, .inr (4, [w14, w15, .int 0])), (sp, .inr (4, [.ref sr, w16, .int (nI 47)])), (sr, .inl (y 0, 1024, .inl f1))] H := hP
  have hD : va_D A [(h0, .inr (15, [w1, w2, w3, w4, w5, w6, w7, w8, w9, w10, w11, .ref sp, .ref ou, w12, w13])), (ou, .inr (4, [w14, w15, .int 0])), (sp, .inr (4, [.ref sr, w16, .int (nI 47)])), (sr, .inl (y 0, 1024, .inl f1))] := hD
  refine lv_aload_n hx hb dX11_armor_76 rfl (lv_at hl 1 rfl) ?_
  refine va_get (D := D) (ci := 15) (v := .ref sp) (C := RX11) (T := TX11) (N := 15) hx hb hts (by decide +kernel) hown hK hP 0 rfl rfl 11 (by decide) (hts (.fieldLink RX11 80 "SignetRing" "out" "LSignetRing$Bytes;") (by decide +kernel)) (fun _ h9 => h9) rfl dX11_armor_77 ?_
  refine va_get (D := D) (ci := 4) (v := .int (nI 47)) (C := RX0) (T := TX0) (N := 3) hx hb hts (by decide +kernel) hown hK hP 2 rfl rfl 2 (by decide) (hts (.fieldLink RX11 86 "SignetRing$Bytes" "size" "I") (by decide +kernel)) (u_same (hts (.sameField "SignetRing$Bytes" "SignetRing$Span" "size" "I") (by decide +kernel))) rfl dX11_armor_80 ?_
  have hP9 := hP.sub (ws' := [(h0, .inr (15, [w1, w2, w3, w4, w5, w6, w7, w8, w9, w10, w11, .ref sp, .ref ou, w12, w13])), (ou, .inr (4, [w14, w15, .int 0])), (sp, .inr (4, [.ref sr, w16, .int (nI 47)])), (sr, .inl (y 0, 1024, .inl f1))]) [0, 1, 2, 3] rfl
  have hD9 := hD.sub (ws' := [(h0, .inr (15, [w1, w2, w3, w4, w5, w6, w7, w8, w9, w10, w11, .ref sp, .ref ou, w12, w13])), (ou, .inr (4, [w14, w15, .int 0])), (sp, .inr (4, [.ref sr, w16, .int (nI 47)])), (sr, .inl (y 0, 1024, .inl f1))]) [0, 1, 2, 3] (by decide) rfl
  refine W.widen (k := 0) (n := 0) (Nat.le_of_ble_eq_true rfl) (Nat.le_of_ble_eq_true rfl) ?_
  exact W.iret (v := (nI 47)) hx hb hr (fun t ht hW => ⟨⟨(nI 47), (), rfl, rfl, f1, by rw [ht]; exact hP9, hD9⟩, hS.F ht⟩) hS.2.2 dX11_armor_83
def wz_c_X11_armor_2 : List Cond := .code yX11_armor cX11_armor 3 (some .int) :: ([.fieldLink RX11 80 "SignetRing" "out" "LSignetRing$Bytes;", .fieldLink RX11 86 "SignetRing$Bytes" "size" "I", .sameField "SignetRing$Bytes" "SignetRing$Span" "size" "I", .fieldLink RX11 83 "SignetRing" "spare" "LSignetRing$Bytes;", .methodLink RX11 204 yX9_write, .static yX9_write, .initialized RX9] ++ (wsX110 ++ (wsX00 ++ (wz_c_X9_write_2 ++ ([])))))
set_option maxRecDepth 100000 in
theorem gz_c_X11_armor_2_c_X9_write_2 : GoodIn wz_c_X11_armor_2 wz_c_X9_write_2 := goodIn_sub (fun w h => List.mem_cons_of_mem _ (List.mem_append_right _ (List.mem_append_right _ (List.mem_append_right _ (List.mem_append_left _ h))))) (by decide +kernel)
set_option maxRecDepth 100000 in
theorem gv_c_X11_armor_2_c_X9_write_2_204 : GoodIn wz_c_X11_armor_2 (va_wsS RX11 204 yX9_write wz_c_X9_write_2) := goodIn_app (goodIn_of _ (by decide +kernel)) gz_c_X11_armor_2_c_X9_write_2
set_option maxHeartbeats 4000000 in
set_option maxRecDepth 100000 in
theorem c_X11_armor_2 (l : Launch) (D : va_G) (y : Nat → ClassId) (sz : Nat) (h0 : Nat) (ou : Nat) (sp : Nat) (sr : Nat) (w1 : Value) (w2 : Value) (w3 : Value) (w4 : Value) (w5 : Value) (w6 : Value) (w7 : Value) (w8 : Value) (w9 : Value) (w10 : Value) (w11 : Value) (w12 : Value) (w13 : Value) (w14 : Value) (w15 : Value) (w16 : Value) (w17 : Value) (g : Nat → Int32) (sa0 : Nat) (st0 : Nat) (sa3 : Nat) (st3 : Nat) (sa4 : Nat) (st4 : Nat) (sa5 : Nat) (st5 : Nat) : Met l yX11_armor wz_c_X11_armor_2 ({ frames := 6, cells := 0, slots := 0, locals := 130 }) (va_Pc [.ref h0, .int 2] (zB D y [(h0, .inr (15, [w1, w2, w3, w4, w5, w6, w7, w8, w9, w10, w11, .ref ou, .ref sp, w12, w13])), (ou, .inr (4, [w14, w15, .int 0])), (sp, .inr (4, [.ref sr, w16, w17])), (sr, .inl (y 0, 1024, .inl g))] sz [] [("java/lang/String", "COMPACT_STRINGS", "Z", .int 1)] [] [.inr (.inl (sa0, st0, 11, zs0)), .inr (.inr (.inl (RX9, 82, "-----BEGIN ", sa0))), .inr (.inr (.inr (.inr ("jdk/internal/util/Preconditions", "SIOOBE_FORMATTER", "Ljava/util/function/BiFunction;")))), .inr (.inl (sa3, st3, 13, zs3)), .inr (.inr (.inl (RX9, 28, "SEALED LETTER", sa3))), .inr (.inl (sa4, st4, 5, zs4)), .inr (.inr (.inl (RX9, 80, "-----", sa4))), .inr (.inl (sa5, st5, 9, zs5)), .inr (.inr (.inl (RX9, 113, "-----END ", sa5)))])) (va_Qi (fun (r : Int32) (_ : Unit) => r = nI 65) (fun _ t => ∃ fz0 : Nat → Int32, va_P D vwCl [(h0, .inr (15, [w1, w2, w3, w4, w5, w6, w7, w8, w9, w10, w11, .ref sp, .ref ou, w12, w13])), (ou, .inr (4, [w14, w15, .int 0])), (sp, .inr (4, [.ref sr, w16, .int (nI 65)])), (sr, .inl (y 0, 1024, .inl fz0))] t.heap ∧ va_D (va_A [(h0, .inr (15, [w1, w2, w3, w4, w5, w6, w7, w8, w9, w10, w11, .ref ou, .ref sp, w12, w13])), (ou, .inr (4, [w14, w15, .int 0])), (sp, .inr (4, [.ref sr, w16, w17])), (sr, .inl (y 0, 1024, .inl g))] sz) [(h0, .inr (15, [w1, w2, w3, w4, w5, w6, w7, w8, w9, w10, w11, .ref sp, .ref ou, w12, w13])), (ou, .inr (4, [w14, w15, .int 0])), (sp, .inr (4, [.ref sr, w16, .int (nI 65)])), (sr, .inl (y 0, 1024, .inl fz0))]) (va_A [(h0, .inr (15, [w1, w2, w3, w4, w5, w6, w7, w8, w9, w10, w11, .ref ou, .ref sp, w12, w13])), (ou, .inr (4, [w14, w15, .int 0])), (sp, .inr (4, [.ref sr, w16, w17])), (sr, .inl (y 0, 1024, .inl g))] sz)) 0 0 (va_A [(h0, .inr (15, [w1, w2, w3, w4, w5, w6, w7, w8, w9, w10, w11, .ref ou, .ref sp, w12, w13])), (ou, .inr (4, [w14, w15, .int 0])), (sp, .inr (4, [.ref sr, w16, w17])), (sr, .inl (y 0, 1024, .inl g))] sz) := by
  refine Met.ofW (cc := cX11_armor) (maxL := 3) (ret := (some .int)) (by decide) rfl ?_
  intro p e s m args below meth c s₁ B hml hv
  obtain ⟨rfl, hsz, hP, hK, hD0, hN, hE, hO, hT, hG⟩ := hv
  have hx := B.exec
  have hb := B.bytes
  have hr := B.returns
  have hts := atoms_spec (ws := wz_c_X11_armor_2) B.pre
  have hown : s.vm.findClass RX11 = some m.cls := findClass_of_methodNamed B.named
  have hlocks := B.notSynchronized
  subst hsz
  have hD := hD0.self (sz := s.heap.size)
  generalize hAe : va_A [(h0, .inr (15, [w1, w2, w3, w4, w5, w6, w7, w8, w9, w10, w11, .ref ou, .ref sp, w12, w13])), (ou, .inr (4, [w14, w15, .int 0])), (sp, .inr (4, [.ref sr, w16, w17])), (sr, .inl (y 0, 1024, .inl g))] s.heap.size = A at hD hE hT hG ⊢
  have hA : ∀ q : Nat, s.heap.size ≤ q → A q := fun q h => by rw [← hAe]; exact Or.inr h
  have hS : va_S A s.heap s.heap [] := va_S.rf
  have hl := lv_entry ([.ref h0, .int 2]) (n := 3) (Nat.le_of_ble_eq_true rfl)
  rw [lg_entry_eq]
  generalize (lg_sl ([.ref h0, .int 2]) ++ List.replicate (3 - (lg_sl ([.ref h0, .int 2])).length) Slot.unset).toArray = ls at hl ⊢
  have hl : lv_has ls 3 [(0, .ref h0), (1, .int 2)] := hl
  refine lv_iload_n hx hb dX11_armor_0 rfl (lv_at hl 1 rfl) ?_
  refine lv_if_lt (tgt := 9) hx hb dX11_armor_1 (by decide) (fun c9 => absurd c9 (by decide)) (fun _ => ?_)
  refine lv_iload_n hx hb dX11_armor_4 rfl (lv_at hl 1 rfl) ?_
  refine lv_iconst (v := 2) hx hb dX11_armor_5 (by decide) ?_
  refine lv_icmp_le (tgt := 17) hx hb dX11_armor_6 (by decide) (fun _ => ?_) (fun c9 => absurd (by decide) c9)
  refine lv_aload_n hx hb dX11_armor_17 rfl (lv_at hl 0 rfl) ?_
  refine va_get (D := D) (ci := 15) (v := .ref ou) (C := RX11) (T := TX11) (N := 15) hx hb hts (by decide +kernel) hown hK hP 0 rfl rfl 11 (by decide) (hts (.fieldLink RX11 80 "SignetRing" "out" "LSignetRing$Bytes;") (by decide +kernel)) (fun _ h9 => h9) rfl dX11_armor_18 ?_
  refine va_get (D := D) (ci := 4) (v := .int 0) (C := RX0) (T := TX0) (N := 3) hx hb hts (by decide +kernel) hown hK hP 1 rfl rfl 2 (by decide) (hts (.fieldLink RX11 86 "SignetRing$Bytes" "size" "I") (by decide +kernel)) (u_same (hts (.sameField "SignetRing$Bytes" "SignetRing$Span" "size" "I") (by decide +kernel))) rfl dX11_armor_21 ?_
  refine lv_sipush (v := 8000) hx hb dX11_armor_24 (by decide) ?_
  refine lv_icmp_le (tgt := 38) hx hb dX11_armor_27 (by decide) (fun _ => ?_) (fun c9 => absurd (by decide) c9)
  refine lv_aload_n hx hb dX11_armor_38 rfl (lv_at hl 0 rfl) ?_
  refine va_get (D := D) (ci := 15) (v := .ref sp) (C := RX11) (T := TX11) (N := 15) hx hb hts (by decide +kernel) hown hK hP 0 rfl rfl 12 (by decide) (hts (.fieldLink RX11 83 "SignetRing" "spare" "LSignetRing$Bytes;") (by decide +kernel)) (fun _ h9 => h9) rfl dX11_armor_39 ?_
  refine lv_iconst (v := nI 0) hx hb dX11_armor_42 (by decide) ?_
  refine va_put (D := D) (ci := 4) (v := .int (nI 0)) (ty := .int) (C := RX0) (T := TX0) (N := 3) hx hb hts (by decide +kernel) tyX0 tyX0_ok nmX0 hown hK hP hD hS 2 rfl rfl 2 (by decide) (hts (.fieldLink RX11 86 "SignetRing$Bytes" "size" "I") (by decide +kernel)) (u_same (hts (.sameField "SignetRing$Bytes" "SignetRing$Span" "size" "I") (by decide +kernel))) rfl (by decide +kernel) rfl rfl (Nat.le_of_ble_eq_true rfl) dX11_armor_43 (fun H locs hP hD hS => ?_)
  have hP : va_P D vwCl [(h0, .inr (15, [w1, w2, w3, w4, w5, w6, w7, w8, w9, w10, w11, .ref ou, .ref sp, w12, w13])), (ou, .inr (4, [w14, w15, .int 0])), (sp, .inr (4, [.ref sr, w16, .int (nI 0)])), (sr, .inl (y 0, 1024, .inl g))] H := hP
  have hD : va_D A [(h0, .inr (15, [w1, w2, w3, w4, w5, w6, w7, w8, w9, w10, w11, .ref ou, .ref sp, w12, w13])), (ou, .inr (4, [w14, w15, .int 0])), (sp, .inr (4, [.ref sr, w16, .int (nI 0)])), (sr, .inl (y 0, 1024, .inl g))] := hD
  refine lv_aload_n hx hb dX11_armor_46 rfl (lv_at hl 0 rfl) ?_
  refine va_get (D := D) (ci := 15) (v := .ref ou) (C := RX11) (T := TX11) (N := 15) hx hb hts (by decide +kernel) hown hK hP 0 rfl rfl 11 (by decide) (hts (.fieldLink RX11 80 "SignetRing" "out" "LSignetRing$Bytes;") (by decide +kernel)) (fun _ h9 => h9) rfl dX11_armor_47 ?_
  refine lv_iload_n hx hb dX11_armor_50 rfl (lv_at hl 1 rfl) ?_
  refine lv_aload_n hx hb dX11_armor_51 rfl (lv_at hl 0 rfl) ?_
  refine va_get (D := D) (ci := 15) (v := .ref sp) (C := RX11) (T := TX11) (N := 15) hx hb hts (by decide +kernel) hown hK hP 0 rfl rfl 12 (by decide) (hts (.fieldLink RX11 83 "SignetRing" "spare" "LSignetRing$Bytes;") (by decide +kernel)) (fun _ h9 => h9) rfl dX11_armor_52 ?_
  have hPc := hP.sub (ws' := [(ou, .inr (4, [w14, w15, .int 0])), (sp, .inr (4, [.ref sr, w16, .int (nI 0)])), (sr, .inl (y 0, 1024, .inl g))]) [1, 2, 3] rfl
  have hDc := hD.sub (ws' := [(ou, .inr (4, [w14, w15, .int 0])), (sp, .inr (4, [.ref sr, w16, .int (nI 0)])), (sr, .inl (y 0, 1024, .inl g))]) [1, 2, 3] (by decide) rfl
  have hFc := va_free (wc := [(ou, .inr (4, [w14, w15, .int 0])), (sp, .inr (4, [.ref sr, w16, .int (nI 0)])), (sr, .inl (y 0, 1024, .inl g))]) hD hS hA [1, 2, 3] rfl
  refine va_callv (va_runS (As := [.ref ou, .int 2, .ref sp]) (rest := []) ⟨hx, hb, hml, hown, hts⟩ (c_X9_write_2 l D y H.size ou sp sr w14 w15 w16 g sa0 st0 sa3 st3 sa4 st4 sa5 st5) (va_cwS 3 hts gv_c_X11_armor_2_c_X9_write_2_204 rfl rfl rfl (by decide +kernel) ⟨(Nat.le_of_ble_eq_true rfl), (Nat.le_of_ble_eq_true rfl)⟩) (zB.preS hPc hDc hK hN hE hO hT hG hS hFc (fun _ h => nomatch h) (List.forall_mem_cons.mpr ⟨List.mem_of_getElem? (i := 0) rfl, (fun _ h => nomatch h)⟩) (fun _ h => nomatch h) (List.forall_mem_cons.mpr ⟨List.mem_of_getElem? (i := 0) rfl, (List.forall_mem_cons.mpr ⟨List.mem_of_getElem? (i := 1) rfl, (List.forall_mem_cons.mpr ⟨List.mem_of_getElem? (i := 2) rfl, (List.forall_mem_cons.mpr ⟨List.mem_of_getElem? (i := 3) rfl, (List.forall_mem_cons.mpr ⟨List.mem_of_getElem? (i := 4) rfl, (List.forall_mem_cons.mpr ⟨List.mem_of_getElem? (i := 5) rfl, (List.forall_mem_cons.mpr ⟨List.mem_of_getElem? (i := 6) rfl, (List.forall_mem_cons.mpr ⟨List.mem_of_getElem? (i := 7) rfl, (List.forall_mem_cons.mpr ⟨List.mem_of_getElem? (i := 8) rfl, (fun _ h => nomatch h)⟩)⟩)⟩)⟩)⟩)⟩)⟩)⟩)⟩)) rfl rfl hl.1 rfl (lv_room (Nat.le_of_ble_eq_true rfl)) dX11_armor_55 ⟨(Nat.le_of_ble_eq_true rfl), (Nat.le_of_ble_eq_true rfl)⟩) hS (fun q _ h => hFc q h) hFc (fun u t H1 locs ht hvm hw hB hz1 hk1 hS => ?_)
  obtain ⟨f1, hP1, hD1⟩ := hB
  rw [ht] at hP1
  obtain ⟨hP, hD⟩ := va_join (wr := [(h0, .inr (15, [w1, w2, w3, w4, w5, w6, w7, w8, w9, w10, w11, .ref ou, .ref sp, w12, w13]))]) (w1 := [(ou, .inr (4, [w14, w15, .int 0])), (sp, .inr (4, [.ref sr, w16, .int (nI 65)])), (sr, .inl (y 0, 1024, .inl f1))]) hP hD [1, 2, 3] [0] rfl rfl (by decide) (by decide) hk1 hFc hP1 hD1
  generalize H1 = H at hP hS ⊢
  have hP : va_P D vwCl [(h0, .inr (15, [w1, w2, w3, w4, w5, w6, w7, w8, w9, w10, w11, .ref ou, .ref sp, w12, w13])), (ou, .inr (4, [w14, w15, .int 0])), (sp, .inr (4, [.ref sr, w16, .int (nI 65)])), (sr, .inl (y 0, 1024, .inl f1))] H := hP
  have hD : va_D A [(h0, .inr (15, [w1, w2, w3, w4, w5, w6, w7, w8, w9, w10, w11, .ref ou, .ref sp, w12, w13])), (ou, .inr (4, [w14, w15, .int 0])), (sp, .inr (4, [.ref sr, w16, .int (nI 65)])), (sr, .inl (y 0, 1024, .inl f1))] := hD
  refine lv_aload_n hx hb dX11_armor_58 rfl (lv_at hl 0 rfl) ?_
  refine va_get (D := D) (ci := 15) (v := .ref sp) (C := RX11) (T := TX11) (N := 15) hx hb hts (by decide +kernel) hown hK hP 0 rfl rfl 12 (by decide) (hts (.fieldLink RX11 83 "SignetRing" "spare" "LSignetRing$Bytes;") (by decide +kernel)) (fun _ h9 => h9) rfl dX11_armor_59 ?_
  refine lv_astore_n (lv' := [(2, .ref sp), (0, .ref h0), (1, .int 2)]) hx hb dX11_armor_62 rfl hl (by decide) rfl (fun ls hl => ?_)
  refine lv_aload_n hx hb dX11_armor_63 rfl (lv_at hl 1 rfl) ?_
  refine lv_aload_n hx hb dX11_armor_64 rfl (lv_at hl 1 rfl) ?_
  refine va_get (D := D) (ci := 15) (v := .ref ou) (C := RX11) (T := TX11) (N := 15) hx hb hts (by decide +kernel) hown hK hP 0 rfl rfl 11 (by decide) (hts (.fieldLink RX11 80 "SignetRing" "out" "LSignetRing$Bytes;") (by decide +kernel)) (fun _ h9 => h9) rfl dX11_armor_65 ?_
  refine va_put (D := D) (ci := 15) (v := .ref ou) (ty := (.object "SignetRing$Bytes")) (C := RX11) (T := TX11) (N := 15) hx hb hts (by decide +kernel) tyX11 tyX11_ok nmX11 hown hK hP hD hS 0 rfl rfl 12 (by decide) (hts (.fieldLink RX11 83 "SignetRing" "spare" "LSignetRing$Bytes;") (by decide +kernel)) (fun _ h9 => h9) rfl (by decide +kernel) rfl rfl (Nat.le_of_ble_eq_true rfl) dX11_armor_68 (fun H locs hP hD hS => ?_)
  have hP : va_P D vwCl [(h0, .inr (15, [w1, w2, w3, w4, w5, w6, w7, w8, w9, w10, w11, .ref ou, .ref ou, w12, w13])), (ou, .inr (4, [w14, w15, .int 0])), (sp, .inr (4, [.ref sr, w16, .int (nI 65)])), (sr, .inl (y 0, 1024, .inl f1))] H := hP
  have hD : va_D A [(h0, .inr (15, [w1, w2, w3, w4, w5, w6, w7, w8, w9, w10, w11, .ref ou, .ref ou, w12, w13])), (ou, .inr (4, [w14, w15, .int 0])), (sp, .inr (4, [.ref sr, w16, .int (nI 65)])), (sr, .inl (y 0, 1024, .inl f1))] := hD
  refine lv_aload_n hx hb dX11_armor_71 rfl (lv_at hl 1 rfl) ?_
  refine lv_aload_n hx hb dX11_armor_72 rfl (lv_at hl 0 rfl) ?_
  refine va_put (D := D) (ci := 15) (v := .ref sp) (ty := (.object "SignetRing$Bytes")) (C := RX11) (T := TX11) (N := 15) hx hb hts (by decide +kernel) tyX11 tyX11_ok nmX11 hown hK hP hD hS 0 rfl rfl 11 (by decide) (hts (.fieldLink RX11 80 "SignetRing" "out" "LSignetRing$Bytes;") (by decide +kernel)) (fun _ h9 => h9) rfl (by decide +kernel) rfl rfl (Nat.le_of_ble_eq_true rfl) dX11_armor_73 (fun H locs hP hD hS => ?_)
  have hP : va_P D vwCl [(h0, .inr (15, [w1, w2, w3, w4, w5, w6, w7, w8, w9, w10, w11, .ref sp, .ref ou, w12, w13])), (ou, .inr (4, [w14, w15, .int 0])), (sp, .inr (4, [.ref sr, w16, .int (nI 65)])), (sr, .inl (y 0, 1024, .inl f1))] H := hP
  have hD : va_D A [(h0, .inr (15, [w1, w2, w3, w4, w5, w6, w7, w8, w9, w10, w11, .ref sp, .ref ou, w12, w13])), (ou, .inr (4, [w14, w15, .int 0])), (sp, .inr (4, [.ref sr, w16, .int (nI 65)])), (sr, .inl (y 0, 1024, .inl f1))] := hD
  refine lv_aload_n hx hb dX11_armor_76 rfl (lv_at hl 1 rfl) ?_
  refine va_get (D := D) (ci := 15) (v := .ref sp) (C := RX11) (T := TX11) (N := 15) hx hb hts (by decide +kernel) hown hK hP 0 rfl rfl 11 (by decide) (hts (.fieldLink RX11 80 "SignetRing" "out" "LSignetRing$Bytes;") (by decide +kernel)) (fun _ h9 => h9) rfl dX11_armor_77 ?_
  refine va_get (D := D) (ci := 4) (v := .int (nI 65)) (C := RX0) (T := TX0) (N := 3) hx hb hts (by decide +kernel) hown hK hP 2 rfl rfl 2 (by decide) (hts (.fieldLink RX11 86 "SignetRing$Bytes" "size" "I") (by decide +kernel)) (u_same (hts (.sameField "SignetRing$Bytes" "SignetRing$Span" "size" "I") (by decide +kernel))) rfl dX11_armor_80 ?_
  have hP9 := hP.sub (ws' := [(h0, .inr (15, [w1, w2, w3, w4, w5, w6, w7, w8, w9, w10, w11, .ref sp, .ref ou, w12, w13])), (ou, .inr (4, [w14, w15, .int 0])), (sp, .inr (4, [.ref sr, w16, .int (nI 65)])), (sr, .inl (y 0, 1024, .inl f1))]) [0, 1, 2, 3] rfl
  have hD9 := hD.sub (ws' := [(h0, .inr (15, [w1, w2, w3, w4, w5, w6, w7, w8, w9, w10, w11, .ref sp, .ref ou, w12, w13])), (ou, .inr (4, [w14, w15, .int 0])), (sp, .inr (4, [.ref sr, w16, .int (nI 65)])), (sr, .inl (y 0, 1024, .inl f1))]) [0, 1, 2, 3] (by decide) rfl
  refine W.widen (k := 0) (n := 0) (Nat.le_of_ble_eq_true rfl) (Nat.le_of_ble_eq_true rfl) ?_
  exact W.iret (v := (nI 65)) hx hb hr (fun t ht hW => ⟨⟨(nI 65), (), rfl, rfl, f1, by rw [ht]; exact hP9, hD9⟩, hS.F ht⟩) hS.2.2 dX11_armor_83
def wz_c_X11_armor_lo : List Cond := .code yX11_armor cX11_armor 3 (some .int) :: ([.classLink RX11 112 "java/lang/IllegalArgumentException", .initialized "java/lang/IllegalArgumentException"] ++ ((vx_at0 RX11 114 "java/lang/IllegalArgumentException" ["java/lang/RuntimeException", "java/lang/Exception"]).filter goodWord ++ ([])))
set_option maxHeartbeats 4000000 in
set_option maxRecDepth 100000 in
theorem c_X11_armor_lo (l : Launch) (hl0 : l.stackTraces = false) (D : va_G) (y : Nat → ClassId) (sz : Nat) (h0 : Nat) (w1 : Value) (w2 : Value) (w3 : Value) (w4 : Value) (w5 : Value) (w6 : Value) (w7 : Value) (w8 : Value) (w9 : Value) (w10 : Value) (w11 : Value) (w12 : Value) (w13 : Value) (w14 : Value) (w15 : Value) (n : Int32) (h1 : n < 0) : vx_Met l yX11_armor wz_c_X11_armor_lo ({ frames := 6, cells := 1, slots := 6, locals := 81 }) (va_Pc [.ref h0, .int n] (zB D y [(h0, .inr (15, [w1, w2, w3, w4, w5, w6, w7, w8, w9, w10, w11, w12, w13, w14, w15]))] sz [.declares (Bundle.init0 "java/lang/RuntimeException"), .declares (Bundle.init0 "java/lang/Exception"), .declares (Bundle.init0 "java/lang/Throwable"), .castable "java/lang/IllegalArgumentException" "java/lang/IllegalArgumentException"] [] zTh [])) (va_Qi (fun (r : Int32) (_ : Unit) => False) (fun _ t => va_P D vwCl [(h0, .inr (15, [w1, w2, w3, w4, w5, w6, w7, w8, w9, w10, w11, w12, w13, w14, w15]))] t.heap ∧ va_D (va_A [(h0, .inr (15, [w1, w2, w3, w4, w5, w6, w7, w8, w9, w10, w11, w12, w13, w14, w15]))] sz) [(h0, .inr (15, [w1, w2, w3, w4, w5, w6, w7, w8, w9, w10, w11, w12, w13, w14, w15]))]) (va_A [(h0, .inr (15, [w1, w2, w3, w4, w5, w6, w7, w8, w9, w10, w11, w12, w13, w14, w15]))] sz)) (vx_X (fun _ : Unit => True) (fun E _ _ => E = "java/lang/IllegalArgumentException") (va_A [(h0, .inr (15, [w1, w2, w3, w4, w5, w6, w7, w8, w9, w10, w11, w12, w13, w14, w15]))] sz)) 1 6 (va_A [(h0, .inr (15, [w1, w2, w3, w4, w5, w6, w7, w8, w9, w10, w11, w12, w13, w14, w15]))] sz) := by
  refine vx_ofW (cc := cX11_armor) (maxL := 3) (ret := (some .int)) (by decide) rfl ?_
  intro p e s m args below meth c s₁ B hml hnt hv
  obtain ⟨rfl, hsz, hP, hK, hD0, hN, hE, hO, hT, hG⟩ := hv
  have hx := B.exec
  have hb := B.bytes
  have hr := B.returns
  have hts := atoms_spec (ws := wz_c_X11_armor_lo) B.pre
  have hown : s.vm.findClass RX11 = some m.cls := findClass_of_methodNamed B.named
  have hlocks := B.notSynchronized
  subst hsz
  have hD := hD0.self (sz := s.heap.size)
  generalize hAe : va_A [(h0, .inr (15, [w1, w2, w3, w4, w5, w6, w7, w8, w9, w10, w11, w12, w13, w14, w15]))] s.heap.size = A at hD hE hT hG ⊢
  have hA : ∀ q : Nat, s.heap.size ≤ q → A q := fun q h => by rw [← hAe]; exact Or.inr h
  have hS : va_S A s.heap s.heap [] := va_S.rf
  have hl := lv_entry ([.ref h0, .int n]) (n := 3) (Nat.le_of_ble_eq_true rfl)
  rw [lg_entry_eq]
  generalize (lg_sl ([.ref h0, .int n]) ++ List.replicate (3 - (lg_sl ([.ref h0, .int n])).length) Slot.unset).toArray = ls at hl ⊢
  have hl : lv_has ls 3 [(0, .ref h0), (1, .int n)] := hl
  refine lv_iload_n hx hb dX11_armor_0 rfl (lv_at hl 1 rfl) ?_
  refine lv_if_lt (tgt := 9) hx hb dX11_armor_1 (by decide) (fun _ => ?_) (fun c9 => absurd h1 c9)
  exact vx_throw0 (names := ["java/lang/RuntimeException", "java/lang/Exception"]) (cls := "java/lang/IllegalArgumentException") hx hb hl0 hown (by decide) (by decide) (hts (.classLink RX11 112 "java/lang/IllegalArgumentException") (by decide +kernel)) (hts (.initialized "java/lang/IllegalArgumentException") (by decide +kernel)) (vx_hat (L := (vx_at0 RX11 114 "java/lang/IllegalArgumentException" ["java/lang/RuntimeException", "java/lang/Exception"])) (B := [.declares (Bundle.init0 "java/lang/RuntimeException"), .declares (Bundle.init0 "java/lang/Exception"), .declares (Bundle.init0 "java/lang/Throwable"), .castable "java/lang/IllegalArgumentException" "java/lang/IllegalArgumentException"]) (fun w hw => hts w (List.mem_cons_of_mem _ (List.mem_append_right _ (List.mem_append_left _ hw)))) (by decide +kernel) (hN.words (List.forall_mem_cons.mpr ⟨List.mem_of_getElem? (i := 0) rfl, (List.forall_mem_cons.mpr ⟨List.mem_of_getElem? (i := 1) rfl, (List.forall_mem_cons.mpr ⟨List.mem_of_getElem? (i := 2) rfl, (List.forall_mem_cons.mpr ⟨List.mem_of_getElem? (i := 3) rfl, (fun _ h => nomatch h)⟩)⟩)⟩)⟩))) (by decide +kernel) (hT _ (List.mem_of_getElem? (i := 0) rfl)) (hT _ (List.mem_of_getElem? (i := 1) rfl)) hS (hl.1.trans hml.symm) dX11_armor_9 dX11_armor_12 dX11_armor_13 dX11_armor_16 (fun x h => (hnt x h).elim) (Nat.le_of_ble_eq_true rfl) (Nat.le_of_ble_eq_true rfl) (Nat.le_of_ble_eq_true rfl) (Nat.le_of_ble_eq_true rfl) hlocks (fun t _ hz hq => ⟨(), trivial, rfl, ⟨Nat.le_trans hS.1 hz, fun q h1 h2 => (hq q (Nat.lt_of_lt_of_le h1 hS.1)).trans (hS.2.1 q h1 h2)⟩⟩) hS.2.2 (Nat.le_of_ble_eq_true rfl) (Nat.le_of_ble_eq_true rfl)
def wz_c_X11_armor_hi : List Cond := .code yX11_armor cX11_armor 3 (some .int) :: ([.classLink RX11 112 "java/lang/IllegalArgumentException", .initialized "java/lang/IllegalArgumentException"] ++ ((vx_at0 RX11 114 "java/lang/IllegalArgumentException" ["java/lang/RuntimeException", "java/lang/Exception"]).filter goodWord ++ ([])))
set_option maxHeartbeats 4000000 in
set_option maxRecDepth 100000 in
theorem c_X11_armor_hi (l : Launch) (hl0 : l.stackTraces = false) (D : va_G) (y : Nat → ClassId) (sz : Nat) (h0 : Nat) (w1 : Value) (w2 : Value) (w3 : Value) (w4 : Value) (w5 : Value) (w6 : Value) (w7 : Value) (w8 : Value) (w9 : Value) (w10 : Value) (w11 : Value) (w12 : Value) (w13 : Value) (w14 : Value) (w15 : Value) (n : Int32) (h1 : ¬ n < 0) (h2 : ¬ n ≤ 2) : vx_Met l yX11_armor wz_c_X11_armor_hi ({ frames := 6, cells := 1, slots := 6, locals := 81 }) (va_Pc [.ref h0, .int n] (zB D y [(h0, .inr (15, [w1, w2, w3, w4, w5, w6, w7, w8, w9, w10, w11, w12, w13, w14, w15]))] sz [.declares (Bundle.init0 "java/lang/RuntimeException"), .declares (Bundle.init0 "java/lang/Exception"), .declares (Bundle.init0 "java/lang/Throwable"), .castable "java/lang/IllegalArgumentException" "java/lang/IllegalArgumentException"] [] zTh [])) (va_Qi (fun (r : Int32) (_ : Unit) => False) (fun _ t => va_P D vwCl [(h0, .inr (15, [w1, w2, w3, w4, w5, w6, w7, w8, w9, w10, w11, w12, w13, w14, w15]))] t.heap ∧ va_D (va_A [(h0, .inr (15, [w1, w2, w3, w4, w5, w6, w7, w8, w9, w10, w11, w12, w13, w14, w15]))] sz) [(h0, .inr (15, [w1, w2, w3, w4, w5, w6, w7, w8, w9, w10, w11, w12, w13, w14, w15]))]) (va_A [(h0, .inr (15, [w1, w2, w3, w4, w5, w6, w7, w8, w9, w10, w11, w12, w13, w14, w15]))] sz)) (vx_X (fun _ : Unit => True) (fun E _ _ => E = "java/lang/IllegalArgumentException") (va_A [(h0, .inr (15, [w1, w2, w3, w4, w5, w6, w7, w8, w9, w10, w11, w12, w13, w14, w15]))] sz)) 1 6 (va_A [(h0, .inr (15, [w1, w2, w3, w4, w5, w6, w7, w8, w9, w10, w11, w12, w13, w14, w15]))] sz) := by
  refine vx_ofW (cc := cX11_armor) (maxL := 3) (ret := (some .int)) (by decide) rfl ?_
  intro p e s m args below meth c s₁ B hml hnt hv
  obtain ⟨rfl, hsz, hP, hK, hD0, hN, hE, hO, hT, hG⟩ := hv
  have hx := B.exec
  have hb := B.bytes
  have hr := B.returns
  have hts := atoms_spec (ws := wz_c_X11_armor_hi) B.pre
  have hown : s.vm.findClass RX11 = some m.cls := findClass_of_methodNamed B.named
  have hlocks := B.notSynchronized
  subst hsz
  have hD := hD0.self (sz := s.heap.size)
  generalize hAe : va_A [(h0, .inr (15, [w1, w2, w3, w4, w5, w6, w7, w8, w9, w10, w11, w12, w13, w14, w15]))] s.heap.size = A at hD hE hT hG ⊢
  have hA : ∀ q : Nat, s.heap.size ≤ q → A q := fun q h => by rw [← hAe]; exact Or.inr h
  have hS : va_S A s.heap s.heap [] := va_S.rf
  have hl := lv_entry ([.ref h0, .int n]) (n := 3) (Nat.le_of_ble_eq_true rfl)
  rw [lg_entry_eq]
  generalize (lg_sl ([.ref h0, .int n]) ++ List.replicate (3 - (lg_sl ([.ref h0, .int n])).length) Slot.unset).toArray = ls at hl ⊢
  have hl : lv_has ls 3 [(0, .ref h0), (1, .int n)] := hl
  refine lv_iload_n hx hb dX11_armor_0 rfl (lv_at hl 1 rfl) ?_
  refine lv_if_lt (tgt := 9) hx hb dX11_armor_1 (by decide) (fun c9 => absurd c9 h1) (fun _ => ?_)
  refine lv_iload_n hx hb dX11_armor_4 rfl (lv_at hl 1 rfl) ?_
  refine lv_iconst (v := 2) hx hb dX11_armor_5 (by decide) ?_
  refine lv_icmp_le (tgt := 17) hx hb dX11_armor_6 (by decide) (fun c9 => absurd c9 h2) (fun _ => ?_)
  exact vx_throw0 (names := ["java/lang/RuntimeException", "java/lang/Exception"]) (cls := "java/lang/IllegalArgumentException") hx hb hl0 hown (by decide) (by decide) (hts (.classLink RX11 112 "java/lang/IllegalArgumentException") (by decide +kernel)) (hts (.initialized "java/lang/IllegalArgumentException") (by decide +kernel)) (vx_hat (L := (vx_at0 RX11 114 "java/lang/IllegalArgumentException" ["java/lang/RuntimeException", "java/lang/Exception"])) (B := [.declares (Bundle.init0 "java/lang/RuntimeException"), .declares (Bundle.init0 "java/lang/Exception"), .declares (Bundle.init0 "java/lang/Throwable"), .castable "java/lang/IllegalArgumentException" "java/lang/IllegalArgumentException"]) (fun w hw => hts w (List.mem_cons_of_mem _ (List.mem_append_right _ (List.mem_append_left _ hw)))) (by decide +kernel) (hN.words (List.forall_mem_cons.mpr ⟨List.mem_of_getElem? (i := 0) rfl, (List.forall_mem_cons.mpr ⟨List.mem_of_getElem? (i := 1) rfl, (List.forall_mem_cons.mpr ⟨List.mem_of_getElem? (i := 2) rfl, (List.forall_mem_cons.mpr ⟨List.mem_of_getElem? (i := 3) rfl, (fun _ h => nomatch h)⟩)⟩)⟩)⟩))) (by decide +kernel) (hT _ (List.mem_of_getElem? (i := 0) rfl)) (hT _ (List.mem_of_getElem? (i := 1) rfl)) hS (hl.1.trans hml.symm) dX11_armor_9 dX11_armor_12 dX11_armor_13 dX11_armor_16 (fun x h => (hnt x h).elim) (Nat.le_of_ble_eq_true rfl) (Nat.le_of_ble_eq_true rfl) (Nat.le_of_ble_eq_true rfl) (Nat.le_of_ble_eq_true rfl) hlocks (fun t _ hz hq => ⟨(), trivial, rfl, ⟨Nat.le_trans hS.1 hz, fun q h1 h2 => (hq q (Nat.lt_of_lt_of_le h1 hS.1)).trans (hS.2.1 q h1 h2)⟩⟩) hS.2.2 (Nat.le_of_ble_eq_true rfl) (Nat.le_of_ble_eq_true rfl)

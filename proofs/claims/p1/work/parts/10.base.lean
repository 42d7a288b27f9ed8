/-! The shape that all contracts here have: the array classes by one list, nest words and statics beside the world. -/
/-- the array classes: y 0 byte, y 1 int, y 2 long, y 3 boolean, y 4 Object, y 5 int[] (by its name) -/
abbrev zT (y : Nat → ClassId) : List (ClassId × FieldType) := [(y 0, .byte), (y 1, .int), (y 2, .long), (y 3, .boolean), (y 4, .object "java/lang/Object"), (y 5, .array .int)]
theorem zz_one {D : va_G} {cl : List vw_C} {tys : List (ClassId × FieldType)} {s : State} {c1 c2 : ClassId} {ty : FieldType} (h : va_K D cl tys s) (i j : Nat) (hi : tys[i]? = some (c1, ty)) (hj : tys[j]? = some (c2, ty)) : c1 = c2 := by
  have h1 := (h.2 i _ hi).2
  have h2 := (h.2 j _ hj).2
  cases ty with
  | object C =>
    obtain ⟨_, _, _, _, _, e1⟩ := h1
    obtain ⟨_, _, _, _, _, e2⟩ := h2
    exact Option.some.inj (e1.symm.trans e2)
  | _ => exact Option.some.inj (Eq.trans (Eq.symm h1) h2)
/-- words of the tables that no list of good words carries: nest links, declared methods, casts -/
def zW : Cond → Bool
  | .methodLinkNest .. => true
  | .declares .. => true
  | .castable .. => true
  | _ => false
theorem zW_on {w : Cond} (h : zW w = true) : w.onTables = true := by
  cases w <;> first | rfl | exact absurd (show false = true from h) (by decide)
def zN (L : List Cond) (U : State) : Prop := ∀ w ∈ L, zW w = true ∧ va_Nw w U
theorem zN.warm {L : List Cond} {s U : State} (hW : s.WarmedH U.vm) (h : zN L s) : zN L U := fun w hw => by
  obtain ⟨h1, h2⟩ := h w hw
  refine ⟨h1, ?_⟩
  cases w <;> first | exact va_Nw.warmM hW h2 | exact va_Nw.warmD hW h2 | exact va_Nw.warmC hW h2 | exact absurd (show false = true from h1) (by decide)
theorem zN.sub {L L' : List Cond} {s : State} (h : zN L s) (hl : ∀ q ∈ L', q ∈ L) : zN L' s := fun q hq => h q (hl q hq)
theorem zN.words {L B : List Cond} {s : State} {args : Array Value} (h : zN L s) (hl : ∀ q ∈ B, q ∈ L) : ∀ w ∈ B, w.before args s = true := fun w hw => va_Nw.use (zW_on (h w (hl w hw)).1) (h w (hl w hw)).2
/-- statics of references that hold null or some reference (for throws) -/
def zQ (T : List (String × String × String)) (A : Nat → Prop) (U : State) (H : Heap) : Prop := ∀ q ∈ T, vx_Zq q.1 q.2.1 q.2.2 A U H
theorem zQ.pass {T T' : List (String × String × String)} {A B : Nat → Prop} {s U : State} {H : Heap} {locs : List Loc} (h : zQ T A s s.heap) (hT : ∀ q ∈ T', q ∈ T) (hS : va_S A s.heap H locs) (hB : ∀ q, B q → A q) (hW : s.WarmedH U.vm) (hU : U.heap = H) : zQ T' B U U.heap := fun q hq => by
  have h1 := vx_Zq.kept (h q (hT q hq)) (H1 := H) (fun a ha hn => hS.2.1 a ha hn)
  have h2 := vx_Zq.narrow h1 hB
  rw [hU]
  exact vx_Zq.moved hW.alike h2
abbrev zTh : List (String × String × String) := [(Bundle.tN, "UNASSIGNED_STACK", Bundle.steD), (Bundle.tN, "SUPPRESSED_SENTINEL", Bundle.listD)]
/-- statics that hold given values, outside what may be written -/
def zE (E : List (String × String × String × Value)) (A : Nat → Prop) (U : State) (H : Heap) : Prop := ∀ q ∈ E, va_Z q.1 q.2.1 q.2.2.1 q.2.2.2 A U H
theorem zE.pass {E : List (String × String × String × Value)} {A B : Nat → Prop} {s U : State} {H : Heap} {locs : List Loc} (h : zE E A s s.heap) (hS : va_S A s.heap H locs) (hB : ∀ q, B q → A q) (hW : s.WarmedH U.vm) (hU : U.heap = H) : zE E B U U.heap := fun q hq => by
  have h1 := va_Z.kept (h q hq) (H1 := H) (fun a ha hn => hS.2.1 a ha hn)
  have h2 := va_Z.narrow h1 hB
  rw [hU]
  exact va_Z.moved hW.alike h2
theorem zE.sub {E E' : List (String × String × String × Value)} {A : Nat → Prop} {U : State} {H : Heap} (h : zE E A U H) (hl : ∀ q ∈ E', q ∈ E) : zE E' A U H := fun q hq => h q (hl q hq)
def zAO (U : State) : Prop := (Cond.arrayOver (.array .int)).before #[] U = true
theorem zAO.use {A : Array Value} {U : State} (h : zAO U) : (Cond.arrayOver (.array .int)).before A U = true := over_moved (Vm.Alike.refl U.vm) h
theorem zAO.moved {u U : State} (hvm : u.vm.Alike U.vm) (h : zAO u) : zAO U := over_moved hvm h
/-- what lies outside and is only read: int arrays that statics hold, Strings, String constants -/
abbrev zGi := (Nat × Nat × (Nat → Int32)) ⊕ ((Nat × Nat × Nat × (Nat → Int32)) ⊕ ((String × Nat × String × Nat) ⊕ ((String × String) ⊕ (String × String × String))))
def zStr (a t n : Nat) (f : Nat → Int32) (A : Nat → Prop) (U : State) (H : Heap) : Prop := va_O "java/lang/String" a A U H ∧ va_OF "java/lang/String" "coder" "B" (.int 0) a A U H ∧ va_OF "java/lang/String" "value" "[B" (.ref t) a A U H ∧ va_T .byte t n (fun j => .int (f j)) A U H
def zg (q : zGi) (A : Nat → Prop) (U : State) (H : Heap) : Prop := match q with
  | .inl (t, n, f) => va_T .int t n (fun j => .int (f j)) A U H
  | .inr (.inl (a, t, n, f)) => zStr a t n f A U H
  | .inr (.inr (.inl (own, k, tx, a))) => vk_R own k tx a U
  | .inr (.inr (.inr (.inl (C, T)))) => va_Nc C T U
  | .inr (.inr (.inr (.inr (C, n, d)))) => va_Zq C n d A U H
def zG (G : List zGi) (A : Nat → Prop) (U : State) (H : Heap) : Prop := ∀ q ∈ G, zg q A U H
theorem zg.pass {q : zGi} {A B : Nat → Prop} {s U : State} {H : Heap} {locs : List Loc} (h : zg q A s s.heap) (hS : va_S A s.heap H locs) (hB : ∀ q, B q → A q) (hW : s.WarmedH U.vm) (hU : U.heap = H) : zg q B U U.heap := by
  have hq : ∀ a : Nat, a < s.heap.size → ¬ A a → H[a]? = s.heap[a]? := fun a ha hn => hS.2.1 a ha hn
  match q, h with
  | .inl (t, n, f), h =>
    rw [hU]
    exact va_T.moved (u := s) hW.alike ((va_T.kept h hq).narrow hB)
  | .inr (.inl (a, t, n, f)), h =>
    obtain ⟨h1, h2, h3, h4⟩ := h
    rw [hU]
    exact ⟨va_O.moved (u := s) hW.alike ((va_O.kept h1 hq).narrow hB), va_OF.moved (u := s) hW.alike ((va_OF.kept h2 hq).narrow hB), va_OF.moved (u := s) hW.alike ((va_OF.kept h3 hq).narrow hB), va_T.moved (u := s) hW.alike ((va_T.kept h4 hq).narrow hB)⟩
  | .inr (.inr (.inl (own, k, tx, a))), h => exact vk_R.warm hW h
  | .inr (.inr (.inr (.inl (C, T)))), h => exact va_Nc.moved (u := s) hW.alike h
  | .inr (.inr (.inr (.inr (C, n, d)))), h =>
    rw [hU]
    exact va_Zq.moved (u := s) hW.alike ((va_Zq.kept h hq).narrow hB)
theorem zg.same {q : zGi} {A : Nat → Prop} {u U : State} {H : Heap} (hv : U.vm = u.vm) (hvm : u.vm.Alike U.vm) (h : zg q A u H) : zg q A U H := by
  match q, h with
  | .inl (t, n, f), h => exact va_T.moved (u := u) hvm h
  | .inr (.inl (a, t, n, f)), h =>
    obtain ⟨h1, h2, h3, h4⟩ := h
    exact ⟨va_O.moved (u := u) hvm h1, va_OF.moved (u := u) hvm h2, va_OF.moved (u := u) hvm h3, va_T.moved (u := u) hvm h4⟩
  | .inr (.inr (.inl (own, k, tx, a))), h => exact vk_R.same hv h
  | .inr (.inr (.inr (.inl (C, T)))), h => exact va_Nc.moved (u := u) hvm h
  | .inr (.inr (.inr (.inr (C, n, d)))), h => exact va_Zq.moved (u := u) hvm h
theorem zG.pass {G G' : List zGi} {A B : Nat → Prop} {s U : State} {H : Heap} {locs : List Loc} (h : zG G A s s.heap) (hl : ∀ q ∈ G', q ∈ G) (hS : va_S A s.heap H locs) (hB : ∀ q, B q → A q) (hW : s.WarmedH U.vm) (hU : U.heap = H) : zG G' B U U.heap := fun q hq => zg.pass (h q (hl q hq)) hS hB hW hU
theorem zStr.recv {a t n : Nat} {f : Nat → Int32} {A : Nat → Prop} {s : State} {H : Heap} {locs : List Loc} (h : zStr a t n f A s s.heap) (hS : va_S A s.heap H locs) : ∃ cell : Cell, H[a]? = some cell ∧ cell.vm.isStatics = false ∧ s.vm.findClass "java/lang/String" = some cell.cls := by
  obtain ⟨cell, h1, h2, h3, -⟩ := h.1.kept hS.2.1
  exact ⟨cell, h1, h2, h3⟩
def zB (D : va_G) (y : Nat → ClassId) (ws : va_W) (sz : Nat) (L : List Cond) (E : List (String × String × String × Value)) (T : List (String × String × String)) (G : List zGi) (U : State) : Prop :=
  U.heap.size = sz ∧ va_P D vwCl ws U.heap ∧ va_K D vwCl (zT y) U ∧ va_D (fun _ => True) ws ∧ zN L U ∧ zE E (va_A ws sz) U U.heap ∧ zAO U ∧ zQ T (va_A ws sz) U U.heap ∧ zG G (va_A ws sz) U U.heap
theorem zB.blind {av : List Value} {D : va_G} {y : Nat → ClassId} {ws : va_W} {sz : Nat} {L : List Cond} {E : List (String × String × String × Value)} {T : List (String × String × String)} {G : List zGi} : FrameBlind (va_Pc av (zB D y ws sz L E T G)) := by
  intro a U g mk h
  obtain ⟨q0, q1, qP, qK, qD, qN, qE, qO, qT, qG⟩ := h
  exact ⟨q0, q1, qP, va_K.moved (u := U) (U := U.calling g mk a) (Vm.Alike.refl U.vm) qK, qD, fun q hq => ⟨(qN q hq).1, va_Nw.same (u := U) (U := U.calling g mk a) (zW_on (qN q hq).1) rfl (qN q hq).2⟩, fun q hq => va_Z.moved (u := U) (U := U.calling g mk a) (Vm.Alike.refl U.vm) (qE q hq), zAO.moved (u := U) (U := U.calling g mk a) (Vm.Alike.refl U.vm) qO, fun q hq => vx_Zq.moved (u := U) (U := U.calling g mk a) (Vm.Alike.refl U.vm) (qT q hq), fun q hq => zg.same (u := U) (U := U.calling g mk a) rfl (Vm.Alike.refl U.vm) (qG q hq)⟩
theorem zB.preS {av : List Value} {D : va_G} {y : Nat → ClassId} {wc : va_W} {A : Nat → Prop} {s : State} {H : Heap} {locs : List Loc} {L L' : List Cond} {E E' : List (String × String × String × Value)} {T T' : List (String × String × String)} {G G' : List zGi} (hPc : va_P D vwCl wc H) (hDc : va_D A wc) (hK : va_K D vwCl (zT y) s) (hN : zN L s) (hE : zE E A s s.heap) (hO : zAO s) (hT : zQ T A s s.heap) (hG : zG G A s s.heap) (hS : va_S A s.heap H locs) (hF : ∀ q, va_A wc H.size q → A q) (hL : ∀ q ∈ L', q ∈ L) (hE' : ∀ q ∈ E', q ∈ E) (hT' : ∀ q ∈ T', q ∈ T) (hG' : ∀ q ∈ G', q ∈ G) : PreS s H (va_Pc av (zB D y wc H.size L' E' T' G')) av :=
  ⟨zB.blind, fun U hU hW => ⟨rfl, by rw [hU], by rw [hU]; exact hPc, va_K.moved hW.alike hK, hDc.weaken (fun _ _ _ _ => trivial), (zN.warm hW hN).sub hL, (hE.sub hE').pass hS hF hW hU, zAO.moved hW.alike hO, hT.pass hT' hS hF hW hU, hG.pass hG' hS hF hW hU⟩⟩
theorem zB.preV {C : String} {b : Addr} {As : List Value} {D : va_G} {y : Nat → ClassId} {wc : va_W} {A : Nat → Prop} {s : State} {H : Heap} {locs : List Loc} {L L' : List Cond} {E E' : List (String × String × String × Value)} {T T' : List (String × String × String)} {G G' : List zGi} (hPc : va_P D vwCl wc H) (hDc : va_D A wc) (hK : va_K D vwCl (zT y) s) (hN : zN L s) (hE : zE E A s s.heap) (hO : zAO s) (hT : zQ T A s s.heap) (hG : zG G A s s.heap) (hS : va_S A s.heap H locs) (hF : ∀ q, va_A wc H.size q → A q) (hL : ∀ q ∈ L', q ∈ L) (hE' : ∀ q ∈ E', q ∈ E) (hT' : ∀ q ∈ T', q ∈ T) (hG' : ∀ q ∈ G', q ∈ G) (hr : ∃ cell : Cell, H[b]? = some cell ∧ cell.vm.isStatics = false ∧ s.vm.findClass C = some cell.cls) : PreV s H C b (va_Pc (.ref b :: As) (zB D y wc H.size L' E' T' G')) As :=
  ⟨zB.blind, hr, fun U hU hW => ⟨rfl, by rw [hU], by rw [hU]; exact hPc, va_K.moved hW.alike hK, hDc.weaken (fun _ _ _ _ => trivial), (zN.warm hW hN).sub hL, (hE.sub hE').pass hS hF hW hU, zAO.moved hW.alike hO, hT.pass hT' hS hF hW hU, hG.pass hG' hS hF hW hU⟩⟩
section ZNew
variable {p : Program} {l : Launch} {e : Env} {R : Room} {s : State} {m : MethodId} {args : Array Value} {below : List Frame} {meth : Method} {c : Code} {H : Heap} {locs : List Loc} {cells slots : Nat} {Q : State → Prop}
variable {cc : ByteArray} {pc : Nat} {ls : Array Slot} {rest : List Value} {D : va_G} {cl : List vw_C} {tys : List (ClassId × FieldType)} {ws : va_W} {A : Nat → Prop} {H0 : Heap}
theorem zz_newa (hexec : p.tables.exec = Jvm.exec) (hb : c.code = cc) {atype : ArrayType} (harr : (Cond.arrayClass (newarray.typeOf atype)).before args s = true) {ty : FieldType} (hty : newarray.typeOf atype = ty) (hK : va_K D cl tys s) (t0 : Nat) {cA : ClassId} (ht : tys[t0]? = some (cA, ty)) (hP : va_P D cl ws H) (hD : va_D A ws) (hS : va_S A H0 H locs) (hA : ∀ q, H0.size ≤ q → A q)
    {n : Int32} {N' : Nat} {a0 : vp_A} (ha : ∀ cA : ClassId, vp_cell cA a0 = arrV cA N' (fun _ => defaultValue ty)) (hn : ¬ n < 0) (hN : n.toNatClampNeg = N') (hbytes : N' * componentBytes ty ≤ 536870912) (hcells : cells + 1 ≤ R.cells) (hslots : slots + N' ≤ R.slots) (hdg : decode cc pc = .ok (.newarray atype, 2))
    (kk : ∀ (q : Nat) (H1 : Heap), va_P D cl (ws ++ [(q, .inl (cA, a0))]) H1 → va_D A (ws ++ [(q, .inl (cA, a0))]) → va_S A H0 H1 locs →
      W p l e R s m args below meth c H1 locs (cells + 1) (slots + N') Q (F0 m (pc + 2) ls (.ref q :: rest))) : W p l e R s m args below meth c H locs cells slots Q (F0 m pc ls (.int n :: rest)) := by
  refine va_newa hexec hb harr hty hK hP hD hS hA ha hn hN hbytes hcells hslots hdg (fun q cA' H1 hK1 hP1 hD1 hS1 => ?_)
  have hlt : t0 < tys.length := (List.getElem?_eq_some_iff.mp ht).1
  have e1 : cA' = cA := zz_one (c1 := cA') (c2 := cA) (ty := ty) hK1 tys.length t0 (by simp) (by rw [List.getElem?_append_left hlt]; exact ht)
  subst e1
  exact kk q H1 hP1 hD1 hS1
theorem zz_newq (hexec : p.tables.exec = Jvm.exec) (hb : c.code = cc) {own : String} {index : Nat} (hown : s.vm.findClass own = some m.cls) (hclink : (Cond.classLink own index "[I").before args s = true) (hover : zAO s) (hK : va_K D cl tys s) (t0 : Nat) {cA : ClassId} (ht : tys[t0]? = some (cA, .array .int)) (hP : va_P D cl ws H) (hD : va_D A ws) (hS : va_S A H0 H locs) (hA : ∀ q, H0.size ≤ q → A q)
    {n : Int32} {N' : Nat} (hn : ¬ n < 0) (hN : n.toNatClampNeg = N') (hbytes : N' * 4 ≤ 536870912) (hcells : cells + 1 ≤ R.cells) (hslots : slots + N' ≤ R.slots) (hdg : decode cc pc = .ok (.anewarray index, 3))
    (kk : ∀ (q : Nat) (H1 : Heap), va_P D cl (ws ++ [(q, .inl (cA, N', .inr (.inr (.inr (.inr (fun _ => none))))))]) H1 → va_D A (ws ++ [(q, .inl (cA, N', .inr (.inr (.inr (.inr (fun _ => none))))))]) → va_S A H0 H1 locs →
      W p l e R s m args below meth c H1 locs (cells + 1) (slots + N') Q (F0 m (pc + 3) ls (.ref q :: rest))) : W p l e R s m args below meth c H locs cells slots Q (F0 m pc ls (.int n :: rest)) := by
  subst hN
  refine W.anewA (t := .int) hexec hb hown (by rw [show (FieldType.array .int).toString = "[I" from by decide]; exact hclink) hover.use rfl hdg rfl hn hbytes hcells hslots fun cA' kA comp f1 f2 f3 f4 => ?_
  have h1 : s.vm.findClass ("[" ++ (FieldType.array .int).toString) = some cA := (hK.2 t0 _ ht).2
  have e0 : cA' = cA := Option.some.inj (f1.symm.trans h1)
  subst e0
  generalize hH1 : H.push ({ cls := cA', slots := Array.replicate n.toNatClampNeg .null, vm := .none } : Cell) = H1
  have z1 : H1.size = H.size + 1 := by rw [← hH1, Array.size_push]
  have e1 : H1[H.size]? = some (arrV cA' n.toNatClampNeg (fun _ => .null)) := by rw [← hH1, Array.getElem?_push_size, ← arrV_new]
  have o1 : ∀ q : Nat, q < H.size → H1[q]? = H[q]? := fun q hq => by rw [← hH1, Array.getElem?_push, if_neg (Nat.ne_of_lt hq)]
  have hk : ∀ (k : Nat) (x : Nat × va_E), ws[k]? = some x → H1[x.1]? = H[x.1]? := fun k x hx => o1 x.1 ((hP k x hx).lt)
  refine kk H.size H1 ((hP.kept hk).app (fun k x hx => ?_)) (hD.push hP rfl (hA _ hS.1)) ⟨Nat.le_trans hS.1 (by omega), fun x h1 h2 => (o1 x (Nat.lt_of_lt_of_le h1 hS.1)).trans (hS.2.1 x h1 h2), hS.2.2⟩
  have hz : k < 1 := (List.getElem?_eq_some_iff.mp hx).1
  rw [show k = 0 by omega] at hx
  cases hx
  show H1[H.size]? = some (vp_cell _ _)
  exact e1
end ZNew
theorem zz_aB (n : Nat) (cA : ClassId) : vp_cell cA (n, .inl (fun _ => 0)) = arrV cA n (fun _ => defaultValue .byte) := rfl
theorem zz_aI (n : Nat) (cA : ClassId) : vp_cell cA (n, .inl (fun _ => 0)) = arrV cA n (fun _ => defaultValue .int) := rfl
theorem zz_aZ (n : Nat) (cA : ClassId) : vp_cell cA (n, .inl (fun _ => 0)) = arrV cA n (fun _ => defaultValue .boolean) := rfl
theorem zz_aJ (n : Nat) (cA : ClassId) : vp_cell cA (n, .inr (.inl (fun _ => 0))) = arrV cA n (fun _ => defaultValue .long) := rfl

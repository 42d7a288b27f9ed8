/-! Rows of my own beside the kit's: loops by a count, arrays filled from a table, private methods on a subclass's object, wide String constants. -/
/-- f with its first n places filled from t -/
def zf (t : Nat → Int32) : Nat → (Nat → Int32) → Nat → Int32
  | 0, f => f
  | n + 1, f => upd (zf t n f) n (t n)
theorem zf_in {t f : Nat → Int32} {j : Nat} : ∀ {n : Nat}, j < n → zf t n f j = t j
  | 0, h => absurd h (Nat.not_lt_zero j)
  | n + 1, h => by
    show upd (zf t n f) n (t n) j = t j
    by_cases e : j = n
    · subst e; exact pk_us
    · rw [pk_un e]; exact zf_in (Nat.lt_of_le_of_ne (Nat.le_of_lt_succ h) e)
theorem zf_out {t f : Nat → Int32} {j : Nat} : ∀ {n : Nat}, n ≤ j → zf t n f j = f j
  | 0, _ => rfl
  | n + 1, h => by
    show upd (zf t n f) n (t n) j = f j
    rw [pk_un (Nat.ne_of_gt (Nat.lt_of_succ_le h))]
    exact zf_out (Nat.le_of_lt (Nat.lt_of_succ_le h))
theorem zf_rd {t f : Nat → Int32} {n j : Nat} (h : j < n) (hj : j < 2 ^ 31) : zf t n f (nI j).toNatClampNeg = t j := by
  rw [nI_clamp hj]; exact zf_in h
theorem zf_rdo {t f : Nat → Int32} {n j : Nat} {v : Int32} (h : n ≤ j) (hj : j < 2 ^ 31) (e : f (nI j).toNatClampNeg = v) : zf t n f (nI j).toNatClampNeg = v := by
  rw [nI_clamp hj] at e ⊢; rw [zf_out h]; exact e
theorem zf_st {t f : Nat → Int32} {n : Nat} {v : Int32} (hn : n < 2 ^ 31) (h : v = t n) : upd (zf t n f) (nI n).toNatClampNeg v = zf t (n + 1) f := by
  rw [nI_clamp hn, h]; rfl
theorem zf_ow {t f : Nat → Int32} {n j : Nat} {v : Int32} (hj : j < n) (hj2 : j < 2 ^ 31) (h : v = t j) : upd (zf t n f) (nI j).toNatClampNeg v = zf t n f := by
  rw [nI_clamp hj2]
  funext i
  by_cases e : i = j
  · subst e; rw [pk_us, zf_in hj]; exact h
  · rw [pk_un e]
theorem zf_up2 {t t' f : Nat → Int32} {n i1 i2 : Nat} {v1 v2 : Int32} (h1 : i1 < n) (h2 : i2 < n) (hn : n < 2 ^ 31) (h : ∀ j : Nat, j < n → upd (upd t i1 v1) i2 v2 j = t' j) : upd (upd (zf t n f) (nI i1).toNatClampNeg v1) (nI i2).toNatClampNeg v2 = zf t' n f := by
  rw [nI_clamp (Nat.lt_trans h1 hn), nI_clamp (Nat.lt_trans h2 hn)]
  funext i
  by_cases hi : i < n
  · rw [zf_in hi, ← h i hi]
    show (if i = i2 then v2 else if i = i1 then v1 else zf t n f i) = (if i = i2 then v2 else if i = i1 then v1 else t i)
    rw [zf_in hi]
  · have hi' : n ≤ i := Nat.not_lt.mp hi
    rw [pk_un (j := i) (k := i2) (by omega), pk_un (j := i) (k := i1) (by omega), zf_out hi', zf_out hi']
/-- the logical shift to the right -/
def zu (a b : Int32) : Int32 := (a.toUInt32 >>> (b.toUInt32 &&& Int32.toUInt32 31)).toInt32
theorem zz_chr (x : Int32) : ((x &&& 255).toUInt32 % 65536).toInt32 = x &&& 255 ∧ narrow .char (.int (x &&& 255)) = .int (x &&& 255) := by
  obtain ⟨j, hj, e⟩ := pk_andE x (m := 255) 8 (by decide)
  rw [e]
  refine ⟨?_, (pk_charN (by omega)).1⟩
  have h : ∀ j : Nat, j < 256 → ((nI j).toUInt32 % 65536).toInt32 = nI j := by decide +kernel
  exact h j (by omega)
section ZLoop
variable {p : Program} {l : Launch} {e : Env} {R : Room} {s : State} {m : MethodId} {args : Array Value} {below : List Frame} {meth : Method} {c : Code} {H : Heap} {locs : List Loc} {cells slots : Nat} {Q : State → Prop}
variable {cc : ByteArray} {pc : Nat} {ls : Array Slot} {rest : List Value}
theorem zz_loop {st : List Value} (I : Nat → Array Slot → Heap → List Loc → Prop) (lo hi : Nat) (h1 : lo ≤ hi) (h0 : I lo ls H locs)
    (step : ∀ (k : Nat) (ls : Array Slot) (H : Heap) (locs : List Loc), lo ≤ k → k < hi → I k ls H locs → (∀ (ls : Array Slot) (H : Heap) (locs : List Loc), I (k + 1) ls H locs → W p l e R s m args below meth c H locs cells slots Q (F0 m pc ls st)) → W p l e R s m args below meth c H locs cells slots Q (F0 m pc ls st))
    (exit : ∀ (ls : Array Slot) (H : Heap) (locs : List Loc), I hi ls H locs → W p l e R s m args below meth c H locs cells slots Q (F0 m pc ls st)) : W p l e R s m args below meth c H locs cells slots Q (F0 m pc ls st) := by
  have go : ∀ (n k : Nat), k + n = hi → lo ≤ k → ∀ (ls : Array Slot) (H : Heap) (locs : List Loc), I k ls H locs → W p l e R s m args below meth c H locs cells slots Q (F0 m pc ls st) := by
    intro n
    induction n with
    | zero => intro k hk _ ls H locs hI; have hk : k = hi := hk; subst hk; exact exit ls H locs hI
    | succ n ih => intro k hk hl ls H locs hI; exact step k ls H locs hl (by omega) hI (fun ls H locs h => ih (k + 1) (by omega) (by omega) ls H locs h)
  exact go (hi - lo) lo (by omega) (Nat.le_refl lo) ls H locs h0
theorem zz_ldcwS (hexec : p.tables.exec = Jvm.exec) (hb : c.code = cc) {own tx : String} {index q : Nat} (hown : s.vm.findClass own = some m.cls) (hZ : vk_R own index tx q s) (hdg : decode cc pc = .ok (.ldc_w index, 3))
    (k : W p l e R s m args below meth c H locs cells slots Q (F0 m (pc + 3) ls (.ref q :: rest))) : W p l e R s m args below meth c H locs cells slots Q (F0 m pc ls rest) := by
  intro T hT X
  obtain ⟨t, a1, b1⟩ := k T hT X
  exact ⟨t, Stand.ldcStringW X hexec hown (text := tx) (a := q) hZ.1 hZ.2 (g := F0 m pc ls rest) rfl (by rw [hb]; exact hdg) t a1, b1⟩
end ZLoop
theorem zz_selP {C : String} {y : MethodName} {s : State} {args : Array Value} {n : Nat} (hins : (Cond.instantiable C n).before args s = true) (hpriv : (Cond.privateMethod y).before args s = true) (hinst : (Cond.instanceMethod y).before args s = true) (hsame : (Cond.sameMethod y.cls y.cls y.name y.desc).before args s = true) :
    (Cond.selects C y y).before args s = true := by
  obtain ⟨c, k, hc, hk, -, -, -, -⟩ := Cond.instantiable_spec hins
  obtain ⟨mk, methM, hnamed, hmethM, -, -⟩ := Cond.instanceMethod_spec hinst
  obtain ⟨co, ko, r, hco, hko, hni, hf, hn⟩ := Cond.sameMethod_found hsame
  cases hnamed.symm.trans hn
  have hcls : mk.cls = co := Option.some.inj ((findClass_of_methodNamed hnamed).symm.trans hco)
  have hsel : selectMethod {} s.vm c mk = .method mk := selectMethod_private hmethM (Cond.privateMethod_at hpriv mk methM hnamed hmethM)
  simp only [Cond.before, Cond.holds, Cond.value, hc, hf, hnamed, hsel, hcls, hko]
  simp; exact hni
/-- a private method of a superclass, called on an object of a subclass -/
def zz_wsP (own : String) (idx : Nat) (C : String) (n : Nat) (y : MethodName) (ws : List Cond) : List Cond := ([.methodLink own idx y, .sameMethod y.cls y.cls y.name y.desc, .privateMethod y, .instanceMethod y, .initialized y.cls, .instantiable C n] : List Cond) ++ ws
theorem zz_cwP {R : Room} {s : State} {args : Array Value} {own C owner : String} {index maxL mc ms n0 : Nat} {y : MethodName} {bytes : ByteArray} {ret : Option FieldType} {Ts ws ws' : List Cond} {rm : Room} (n : Nat) (ht : ∀ w ∈ Ts, w.before args s = true) (hT : GoodIn Ts (zz_wsP own index C n0 y ws)) (hw : ws = Cond.code y bytes maxL ret :: ws') (hrc : rm.cells = mc) (hrs : rm.slots = ms)
    (hyx : y = ⟨owner, y.name, y.desc⟩) (hd : owner ≠ "java/lang/invoke/MethodHandle" ∧ owner ≠ "java/lang/invoke/VarHandle" ∧ (parseMethodDescriptor y.desc).map (fun d => d.parameters.length) = some n) (hR : rm.frames + 1 ≤ R.frames ∧ 8 + (maxL + 11) + rm.locals ≤ R.locals) : va_CU R s args own C owner index y y bytes maxL ret ws rm mc ms n := by
  have ok : ∀ w ∈ zz_wsP own index C n0 y ws, w.before args s = true := fun w h => ht w (hT w h).1
  have hG : GoodIn Ts ws := fun w h => hT w (by unfold zz_wsP; exact List.mem_append_right _ h)
  have hc : Cond.code y bytes maxL ret ∈ ws := by rw [hw]; exact List.mem_cons_self
  have e1 : owner = y.cls := by rw [hyx]
  have hin : (Cond.instanceMethod y).before args s = true := ok _ (by simp [zz_wsP])
  have hsm : (Cond.sameMethod y.cls y.cls y.name y.desc).before args s = true := ok _ (by simp [zz_wsP])
  refine ⟨⟨hrc, hrs, hR.1, hR.2, pay_in ht hG, hc⟩, ht _ (hG _ hc).1, ok _ (by simp [zz_wsP]), ⟨hd.1, hd.2.1⟩, fun sig h => ?_, ok _ (by simp [zz_wsP]), by rw [e1]; exact hsm, by rw [← hyx]; exact va_Decl.of hin (ht _ (hG _ hc).1), zz_selP (n := n0) (ok _ (by simp [zz_wsP])) (ok _ (by simp [zz_wsP])) hin hsm, hin⟩
  have h2 := hd.2.2
  rw [h] at h2
  exact (Option.some.inj h2).symm

/-! static tables of ints: exact length; copied and cloned -/
def tb_T (t N : Nat) (f : Nat → Int32) (A : Nat → Prop) (U : State) (H : Heap) : Prop := ∃ cell : Cell, H[t]? = some cell ∧ U.isArrayOf cell .int ∧ cell.vm ≠ .unknown ∧ cell.slots.size = N ∧ (∀ j : Nat, j < N → cell.slots[j]? = some (.int (f j))) ∧ ¬ A t
/-- the table's own class is the class named [I (the Statement doesn't say so: it is what a clone of it wants) -/
def tb_I (t : Nat) (U : State) (H : Heap) : Prop := ∀ cell : Cell, H[t]? = some cell → U.vm.findClass "[I" = some cell.cls
theorem tb_T.moved {t N : Nat} {f : Nat → Int32} {A : Nat → Prop} {u U : State} {H : Heap} (hvm : u.vm.Alike U.vm) (h : tb_T t N f A u H) : tb_T t N f A U H := by
  obtain ⟨cell, h1, h2, h3⟩ := h
  exact ⟨cell, h1, State.isArrayOf_alike hvm h2, h3⟩
theorem tb_T.kept {t N : Nat} {f : Nat → Int32} {A B : Nat → Prop} {U : State} {H H1 : Heap} (h : tb_T t N f A U H) (hq : ∀ a : Nat, a < H.size → ¬ A a → H1[a]? = H[a]?) (hAB : ∀ q, B q → A q) : tb_T t N f B U H1 := by
  obtain ⟨cell, h1, h2, h3, h4, h5, h6⟩ := h
  exact ⟨cell, by rw [hq t (Array.getElem?_eq_some_iff.mp h1).1 h6]; exact h1, h2, h3, h4, h5, fun z => h6 (hAB t z)⟩
theorem tb_T.to {t N : Nat} {f : Nat → Int32} {A : Nat → Prop} {U : State} {H : Heap} (h : tb_T t N f A U H) (hN : N < 2 ^ 31) : va_T .int t N (fun j => .int (f j)) A U H := by
  obtain ⟨cell, h1, h2, h3, h4, h5, h6⟩ := h
  exact ⟨cell, h1, h2, h3, Nat.le_of_eq h4.symm, by rw [h4], h5, h6⟩
theorem tb_Tof {args : Array Value} {s : State} {tm : Term} {N : Nat} {f : Nat → Int32} {A : Nat → Prop} (hN : N < 2 ^ 31) (harr : (Cond.arrayOf tm .int).before args s = true) (hlen : (Term.length tm).eval args s none [] s = some (.int (Int32.ofNat N))) (hel : ∀ j : Nat, j < N → (Term.elem tm (.int (Int32.ofNat j))).eval args s none [] s = some (.int (f j))) (hA : ∀ a : Nat, a < s.heap.size → ¬ A a) : ∃ t : Nat, tm.eval args s none [] s = some (.ref t) ∧ tb_T t N f A s s.heap := by
  obtain ⟨t, ht, cell, h1, h2, h3, h4, h5, h6, h7⟩ := va_Tof (f := fun j => .int (f j)) (A := A) hN harr hlen hel hA
  refine ⟨t, ht, cell, h1, h2, h3, ?_, h6, h7⟩
  obtain ⟨a, cell2, ht2, hat, hv⟩ := Term.length_spec hlen
  cases ht.symm.trans ht2
  cases (State.arrayAt?_spec hat).1.symm.trans h1
  have hsz : cell.slots.size < 2 ^ 31 := by
    simp only [Term.eval, ht, hat, Option.bind_eq_bind, Option.bind_some] at hlen
    by_cases hlt : cell.slots.size < 2147483648
    · exact hlt
    · simp [hlt] at hlen
  have e1 : Int32.ofNat cell.slots.size = Int32.ofNat N := h5
  exact (nI_eq hsz hN).mp e1
section STA
variable {p : Program} {l : Launch} {e : Env} {R : Room} {s : State} {m : MethodId} {args : Array Value} {below : List Frame} {meth : Method} {c : Code} {H : Heap} {locs : List Loc} {cells slots : Nat} {Q : State → Prop}
variable {cc : ByteArray} {pc : Nat} {ls : Array Slot} {rest : List Value} {D : va_G} {cl : List vw_C} {A : Nat → Prop} {tys : List (ClassId × FieldType)} {H0 : Heap} {b n : Nat} {E : Nat → va_E}
/-- System.arraycopy of a whole static table into a row of the segment of the same length -/
theorem sg_copyT (hexec : p.tables.exec = Jvm.exec) (hb : c.code = cc) (hml : c.maxLocals = ls.size) {own : String} {index : Nat} (hown : s.vm.findClass own = some m.cls) (hlink : (Cond.methodLink own index arraycopyName).before args s = true) (hnat : (Cond.native arraycopyName).before args s = true) (hstat : (Cond.static arraycopyName).before args s = true) (hini : (Cond.initialized "java/lang/System").before args s = true)
    (hK : va_K D cl tys s) (hW : sg_W D cl b n E H) (hA : ∀ q, b ≤ q → A q) (hS : va_S A s.heap H locs) {t N : Nat} {f : Nat → Int32} (hT : tb_T t N f A s s.heap) (o : Nat) (ho : o < n) (t0 : Nat) {cA : ClassId} {g : Nat → Int32} (he : E o = .inl (cA, N, .inl g)) (ht : tys[t0]? = some (cA, .int))
    {i : Int32} (hN : i.toNatClampNeg = N) (h3 : ¬ i < 0) (hframes : 1 ≤ R.frames) (hlocals : (rest.map fun v => v.category).sum + (nativeFrameWords "java/lang/System" "arraycopy" 5 + 11) ≤ R.locals) (hdg : decode cc pc = .ok (.invokestatic index, 3))
    (kk : ∀ (H1 : Heap) (locs1 : List Loc), sg_W D cl b n (va_up E o (.inl (cA, N, .inl (va_cpy f g 0 0 N)))) H1 → va_S A s.heap H1 locs1 → W p l e R s m args below meth c H1 locs1 cells slots Q (F0 m (pc + 3) ls rest)) : W p l e R s m args below meth c H locs cells slots Q (F0 m pc ls (.int i :: .int 0 :: .ref (b + o) :: .int 0 :: .ref t :: rest)) := by
  obtain ⟨scr, s1, s2, s3, s4, s5, s6⟩ := hT
  have hu := hW.to o ho
  rw [he] at hu
  have hc0 : H[t]? = some scr := by rw [hS.2.1 t (Array.getElem?_eq_some_iff.mp s1).1 s6]; exact s1
  have hc1 : H[b + o]? = some (arrV cA N (fun j => .int (g j))) := hu
  have hn0 : i.toInt = (N : Int) := by
    have h6 : (0 : Int) ≤ i.toInt := by simpa using Int32.le_iff_toInt_le.mp (Int32.not_lt.mp h3)
    rw [← hN]
    show i.toInt = ((i.toInt.toNat : Nat) : Int)
    omega
  have hz : (0 : Int32).toInt = 0 := by decide
  intro T hT X1
  obtain ⟨hs6, k0, hk0, cm0, hkk0⟩ := s2
  obtain ⟨-, k1, hk1, cm1, hkk1⟩ := (hK.2 t0 _ ht).1 N (fun j => .int (g j))
  obtain ⟨vm', X', step⟩ := X1.arraycopy hexec hown hlink hnat hstat hini (src := t) (dst := b + o) (srcPos := 0) (destPos := 0) (n := i) (by rw [hT]; exact hc0) (by rw [hT]; exact hc1)
    hs6 (fun _ h => by cases h) s3 (fun h => by cases h) hk0 hk1 hkk0 hkk1 (by simp [refKind]) (by decide) (by decide) h3
    (by rw [hn0, hz, s4]; omega) (by rw [hn0, hz, arrV_size]; omega)
    (fun vm₁ _ j hj => by
      have h7 : j < N := by omega
      have h8 : scr.slots.getD ((0 : Int32).toNatClampNeg + j) .null = .int (f j) := by
        rw [sb_cl0, Nat.zero_add, Array.getD_eq_getD_getElem?, s5 j h7]
        rfl
      rw [h8]
      exact ⟨rfl, trivial⟩)
    (g := F0 m pc ls (.int i :: .int 0 :: .ref (b + o) :: .int 0 :: .ref t :: rest)) rfl (by rw [hml]) (rest := rest) rfl (by rw [hb]; exact hdg) hframes (by show 2 * 0 + _ + _ ≤ _; omega)
  have e1 : copied scr (arrV cA N (fun j => .int (g j))) 0 0 i = vp_cell cA (N, .inl (va_cpy f g 0 0 N)) := by
    have h9 := va_copiedX (fun z => .int z) scr cA (n1 := N) (sp := 0) (dp := 0) (n := N) f g s5 (by omega)
    rw [← hN] at h9 ⊢
    exact h9
  rw [e1] at X' step
  have hlt : b + o < (T.setVm vm').heap.size := by show _ < T.heap.size; rw [hT]; exact (Array.getElem?_eq_some_iff.mp hc1).1
  have oq : ∀ q : Nat, q ≠ b + o → ((T.setVm vm').setCell (b + o) (vp_cell cA (N, .inl (va_cpy f g 0 0 N)))).heap[q]? = H[q]? := fun q hq => by
    rw [heapAt_setCell_ne _ (Ne.symm hq)]
    show T.heap[q]? = _
    rw [hT]
  have z2 : ((T.setVm vm').setCell (b + o) (vp_cell cA (N, .inl (va_cpy f g 0 0 N)))).heap.size = H.size := by
    rw [size_setCell]
    show T.heap.size = _
    rw [hT]
  obtain ⟨t', a1, b1⟩ := kk _ _ (sg_upd hW ho z2 oq (heapAt_setCell_self _ hlt)) ⟨by rw [z2]; exact hS.1, fun q g1 g2 => by
    have hne : q ≠ b + o := fun h => g2 (by rw [h]; exact hA _ (Nat.le_add_right b o))
    rw [oq q hne]
    exact hS.2.1 q g1 g2, fun q hq => by
    rcases List.mem_append.mp hq with h | h
    · exact hS.2.2 q h
    · obtain ⟨z, -, hz⟩ := List.mem_map.mp h
      rw [← hz]
      exact hA _ (Nat.le_add_right b o)⟩ _ rfl X'
  exact ⟨t', step t' a1, b1⟩
/-- clone of a static table whose class is the class named [I -/
theorem sg_cloneT (hexec : p.tables.exec = Jvm.exec) (hb : c.code = cc) (hml : c.maxLocals = ls.size) {own : String} {index : Nat} (hown : s.vm.findClass own = some m.cls)
    (hlink : (Cond.methodLink own index ⟨"[I", "clone", "()Ljava/lang/Object;"⟩).before args s = true) (hsame : (Cond.sameMethod "[I" "java/lang/Object" "clone" "()Ljava/lang/Object;").before args s = true)
    (hnat : (Cond.native ⟨"java/lang/Object", "clone", "()Ljava/lang/Object;"⟩).before args s = true) (hinst : (Cond.instanceMethod ⟨"java/lang/Object", "clone", "()Ljava/lang/Object;"⟩).before args s = true)
    (hsel : (Cond.selects "[I" ⟨"[I", "clone", "()Ljava/lang/Object;"⟩ ⟨"java/lang/Object", "clone", "()Ljava/lang/Object;"⟩).before args s = true) (hcl : va_Nw (.castable "[I" "java/lang/Cloneable") s)
    (hK : va_K D cl tys s) (hW : sg_W D cl b n E H) (hS : va_S A s.heap H locs) {t N : Nat} {f : Nat → Int32} (hT : tb_T t N f A s s.heap) (hI : tb_I t s s.heap) (t0 : Nat) {cA : ClassId} (ht : tys[t0]? = some (cA, .int))
    (hframes : 1 ≤ R.frames) (hlocals : (rest.map fun v => v.category).sum + 14 ≤ R.locals) (hcells : cells + 1 ≤ R.cells) (hslots : slots + N ≤ R.slots) (hdg : decode cc pc = .ok (.invokevirtual index, 3))
    (kk : ∀ H1 : Heap, sg_W D cl b (n + 1) (va_up E n (.inl (cA, N, .inl f))) H1 → va_S A s.heap H1 locs → W p l e R s m args below meth c H1 locs (cells + 1) (slots + N) Q (F0 m (pc + 3) ls (.ref (b + n) :: rest))) : W p l e R s m args below meth c H locs cells slots Q (F0 m pc ls (.ref t :: rest)) := by
  obtain ⟨scr, s1, s2, s3, s4, s5, s6⟩ := hT
  have hcl0 := hI scr s1
  have hcA : scr.cls = cA := Option.some.inj (hcl0.symm.trans (hK.2 t0 _ ht).2)
  have hc0 : H[t]? = some scr := by rw [hS.2.1 t (Array.getElem?_eq_some_iff.mp s1).1 s6]; exact s1
  obtain ⟨c0, tc, f1, f2, f3⟩ := Cond.castable_spec (va_Nw.use (A := args) rfl hcl)
  have ec : c0 = scr.cls := Option.some.inj (f1.symm.trans hcl0)
  subst ec
  have hE : ({ cls := scr.cls, slots := scr.slots } : Cell) = vp_cell cA (N, .inl f) := by
    rw [vp_cell_i, hcA]
    unfold arrV
    congr 1
    apply Array.ext
    · rw [s4, Array.size_ofFn]
    · intro i h1 h2
      have h3 : i < N := by rw [← s4]; exact h1
      have h5 := s5 i h3
      rw [Array.getElem?_eq_getElem h1] at h5
      rw [Option.some.inj h5, Array.getElem_ofFn]
  intro T hT X
  obtain ⟨kS, hkS, compS, hkindS⟩ := s2.2
  obtain ⟨-, kA, hkA, comp, hkind⟩ := State.isArrayOf_alike X.warmed.alike s2
  have hz := hW.1
  obtain ⟨vm', X', st⟩ := X.cloneArray hexec hown hlink hsame hnat hinst hsel (a := t) (cell := scr) (by rw [hT]; exact hc0) s2.1 s3 hcl0 f2 f3
    (fun i v hv => by
      have hi : i < N := by rw [← s4]; exact (Array.getElem?_eq_some_iff.mp hv).1
      rw [s5 i hi] at hv
      cases hv
      have hk' : T.vm.classes[scr.cls]? = some kA := hkA
      simp [State.fitsSlot, State.slotType?, hk', hkind, fits])
    (g := F0 m pc ls (.ref t :: rest)) rfl (by rw [hml]) rfl (by rw [hb]; exact hdg) hframes (by show 2 * 0 + _ + 14 ≤ _; omega) hcells (by rw [s4]; exact hslots) (hloader := Vm.clonesLoader_of_array hkS hkindS)
  rw [hE, s4] at X'
  rw [hE] at st
  have z1 : ((T.setVm vm').pushCell (vp_cell cA (N, .inl f))).heap.size = b + n + 1 := by
    rw [State.heap_size_pushCell]
    show T.heap.size + 1 = _
    rw [hT, hz]
  have o1 : ∀ q : Nat, q < b + n → ((T.setVm vm').pushCell (vp_cell cA (N, .inl f))).heap[q]? = H[q]? := fun q hq => by
    have hl : q < (T.setVm vm').heap.size := by show q < T.heap.size; rw [hT, hz]; exact hq
    rw [State.heap_pushCell_of_lt (h := hl)]
    show T.heap[q]? = _
    rw [hT]
  have e1 : ((T.setVm vm').pushCell (vp_cell cA (N, .inl f))).heap[b + n]? = some (vp_cell cA (N, .inl f)) := by
    have h9 : (T.setVm vm').heap.size = b + n := by show T.heap.size = _; rw [hT, hz]
    rw [← h9]
    exact State.heap_pushCell_size _ _
  obtain ⟨t', b1, b2⟩ := kk _ (sg_push hW z1 o1 e1) (sg_S hS hW z1 o1) _ rfl X'
  refine ⟨t', st t' ?_, b2⟩
  rw [hT, hz]
  exact b1
end STA

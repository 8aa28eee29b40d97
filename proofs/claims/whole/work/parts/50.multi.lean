/-! MULTIANEWARRAY of two dimensions, of ints (own row: the kit's worlds have none). What stands behind i rows: the outer array holds i of them, and they are there. -/
def mn_f (a i : Nat) : Nat → Value := fun j => if j < i then .ref (a + 1 + j) else .null
def mn_T (T : State) (cA cI : ClassId) (N M : Nat) : Nat → State
  | 0 => T.pushCell (arrV cA N (mn_f T.heap.size 0))
  | i + 1 => ((mn_T T cA cI N M i).pushCell (arrV cI M (fun _ => .int 0))).setCell T.heap.size (arrV cA N (mn_f T.heap.size (i + 1)))
def mn_J (H H1 : Heap) (cA cI : ClassId) (N M i : Nat) : Prop := H1.size = H.size + (1 + i) ∧ (∀ a : Nat, a < H.size → H1[a]? = H[a]?) ∧ H1[H.size]? = some (arrV cA N (mn_f H.size i)) ∧ ∀ j : Nat, j < i → H1[H.size + 1 + j]? = some (arrV cI M (fun _ => .int 0))
theorem mn_upd (a i : Nat) : updV (mn_f a i) i (.ref (a + 1 + i)) = mn_f a (i + 1) := by
  funext j
  unfold updV mn_f
  by_cases h : j = i
  · subst h
    rw [if_pos rfl, if_pos (Nat.lt_succ_self j)]
  · rw [if_neg h]
    by_cases h2 : j < i
    · rw [if_pos h2, if_pos (by omega)]
    · rw [if_neg h2, if_neg (by omega)]
theorem mn_top (T : State) (f : JFrame) (cA cI : ClassId) (N M : Nat) : ∀ i, mn_T (T.setTop f) cA cI N M i = (mn_T T cA cI N M i).setTop f
  | 0 => rfl
  | i + 1 => by
    show ((mn_T (T.setTop f) cA cI N M i).pushCell _).setCell _ _ = _
    rw [mn_top T f cA cI N M i]
    rfl
section MN
variable {p : Program} {l : Launch} {e : Env} {R : Room} {s : State} {m : MethodId} {args : Array Value} {below : List Frame} {meth : Method} {c : Code} {H : Heap} {locs : List Loc} {cells slots : Nat} {Q : State → Prop} {T : State}
theorem mn_all (X : Stand p l e R s m args below meth c T locs cells slots) (cA cI : ClassId) (N M : Nat) : ∀ i, ∃ L : List Loc, Stand p l e R s m args below meth c (mn_T T cA cI N M i) (locs ++ L) (cells + (1 + i)) (slots + (N + i * M)) ∧ mn_J T.heap (mn_T T cA cI N M i).heap cA cI N M i ∧ (mn_T T cA cI N M i).vm = T.vm ∧ ∀ q ∈ L, q.base = T.heap.size := by
  intro i
  induction i with
  | zero =>
    refine ⟨[], ?_, ⟨by simp [mn_T], fun a ha => State.heap_pushCell_of_lt _ _ ha, by simp [mn_T], fun j hj => absurd hj (Nat.not_lt_zero j)⟩, rfl, fun q hq => by cases hq⟩
    have h := X.pushed (arrV cA N (mn_f T.heap.size 0))
    rw [arrV_size] at h
    simpa [mn_T] using h
  | succ i ih =>
    obtain ⟨L, Xi, ⟨j1, j2, j3, j4⟩, hv, hL⟩ := ih
    have hlt : T.heap.size < (mn_T T cA cI N M i).heap.size := by omega
    have hc : ((mn_T T cA cI N M i).pushCell (arrV cI M (fun _ => .int 0))).heap[T.heap.size]? = some (arrV cA N (mn_f T.heap.size i)) := by
      rw [State.heap_pushCell_of_lt (h := hlt)]
      exact j3
    have h := (Xi.pushed (arrV cI M (fun _ => .int 0))).stored hc i (.ref (T.heap.size + 1 + i))
    rw [arrV_size, arrV_store, mn_upd] at h
    refine ⟨L ++ [⟨T.heap.size, i⟩], ?_, ⟨?_, ?_, ?_, ?_⟩, ?_, ?_⟩
    · have e1 : slots + (N + (i + 1) * M) = slots + (N + i * M) + M := by rw [Nat.succ_mul]; omega
      rw [← List.append_assoc, e1]
      exact h
    · show (((mn_T T cA cI N M i).pushCell _).setCell T.heap.size _).heap.size = _
      rw [size_setCell, State.heap_size_pushCell, j1]
      omega
    · intro a ha
      show (((mn_T T cA cI N M i).pushCell _).setCell T.heap.size _).heap[a]? = _
      have hl2 : a < (mn_T T cA cI N M i).heap.size := by omega
      rw [heapAt_setCell_ne _ (Nat.ne_of_gt ha), State.heap_pushCell_of_lt (h := hl2)]
      exact j2 a ha
    · have hl3 : T.heap.size < ((mn_T T cA cI N M i).pushCell (arrV cI M (fun _ => .int 0))).heap.size := by
        rw [State.heap_size_pushCell]
        omega
      exact heapAt_setCell_self _ hl3
    · intro j hj
      show (((mn_T T cA cI N M i).pushCell _).setCell T.heap.size _).heap[T.heap.size + 1 + j]? = _
      have hne : T.heap.size ≠ T.heap.size + 1 + j := by omega
      rw [heapAt_setCell_ne _ hne]
      by_cases hji : j < i
      · have hl4 : T.heap.size + 1 + j < (mn_T T cA cI N M i).heap.size := by omega
        rw [State.heap_pushCell_of_lt (h := hl4)]
        exact j4 j hji
      · rw [show T.heap.size + 1 + j = (mn_T T cA cI N M i).heap.size by omega]
        exact State.heap_pushCell_size _ _
    · show (mn_T T cA cI N M i).vm = _
      exact hv
    · intro q hq
      rcases List.mem_append.mp hq with h1 | h1
      · exact hL q h1
      · rw [List.mem_singleton.mp h1]
theorem mn_make1 {E : CtlPost} {d : Bool} {acts : List Action} {S : State} {cI cE : ClassId} {kI : Class} {k : Int32} (hkI : S.vm.classes[cI]? = some kI) (hkind : kI.kind = .array cE .int) (hk : ¬ k < 0) (h2 : k.toNatClampNeg ≤ e.platform.arrayLengthLimit) (h3 : k.toNatClampNeg * componentBytes .int ≤ e.platform.maxHeapBytes) (hc : S.heap.size < e.platform.maxCells) (hs : S.slotsUsed + k.toNatClampNeg ≤ e.platform.maxSlots) {Q : Addr → Pre} (hq : ∀ acts', Q S.heap.size d acts' (S.pushCell (arrV cI k.toNatClampNeg (fun _ => .int 0)))) :
    wp (Op.multianewarray.make cI [k]) Q E e d acts S := by
  rw [Op.multianewarray.make]
  simp only [wp_bind', W.ite, hk, if_false, wp_pure', W.theClass, hkI, hkind, Option.some.injEq, exists_eq_left']
  refine W.newArray_of hkI hkind (Nat.not_lt.mpr h2) (Nat.not_lt.mpr h3) hc hs rfl (fun acts' => ?_)
  have h := hq acts'
  rw [← arrV_new] at h
  exact h
theorem mn_make2 (X : Stand p l e R s m args below meth c T locs cells slots) (f : JFrame) {E : CtlPost} {d : Bool} {acts : List Action} {cA cI cE : ClassId} {kA kI : Class} {n k : Int32} (hkA : T.vm.classes[cA]? = some kA) (hkindA : kA.kind = .array cI (.array .int)) (hkI : T.vm.classes[cI]? = some kI) (hkindI : kI.kind = .array cE .int) (hn : ¬ n < 0) (hk : ¬ k < 0)
    (h0 : n.toNatClampNeg ≤ e.platform.arrayLengthLimit) (h1 : n.toNatClampNeg * componentBytes (.array .int) ≤ e.platform.maxHeapBytes) (h2 : k.toNatClampNeg ≤ e.platform.arrayLengthLimit) (h3 : k.toNatClampNeg * componentBytes .int ≤ e.platform.maxHeapBytes) (hcells : cells + (1 + n.toNatClampNeg) ≤ R.cells) (hslots : slots + (n.toNatClampNeg + n.toNatClampNeg * k.toNatClampNeg) ≤ R.slots)
    {Q : Addr → Pre} (hq : ∀ d' acts', Q T.heap.size d' acts' ((mn_T T cA cI n.toNatClampNeg k.toNatClampNeg n.toNatClampNeg).setTop f)) : wp (Op.multianewarray.make cA [n, k]) Q E e d acts (T.setTop f) := by
  have hfind : ([k].find? (· < 0)) = none := by simp [hk]
  generalize hN : n.toNatClampNeg = N at *
  generalize hM : k.toNatClampNeg = M at *
  rw [Op.multianewarray.make]
  simp only [wp_bind', W.ite, hn, if_false, wp_pure', W.theClass, State.vm_setTop, hkA, hkindA, Option.some.injEq, exists_eq_left']
  obtain ⟨r1, r2⟩ := X.roomAbove hcells hslots
  refine W.newArray_of (k := kA) (comp := cI) (type := .array .int) hkA hkindA (Nat.not_lt.mpr (by rw [hN]; exact h0)) (Nat.not_lt.mpr (by rw [hN]; exact h1)) (by show T.heap.size < _; omega) (by show T.slotsUsed + _ ≤ _; rw [hN]; omega) rfl (fun acts1 => ?_)
  simp only [hfind]
  rw [ite_self, wp_bind', Std.Legacy.Range.forIn_eq_forIn_range']
  have hsz : ([:n.toNatClampNeg] : Std.Legacy.Range).size = N := by simp [Std.Legacy.Range.size, hN]
  rw [hsz]
  show wp (forIn (List.range' 0 N 1) PUnit.unit _) _ E e d acts1 _
  refine wp_forIn_inv (fun rest s' => ∃ i, i ≤ N ∧ rest = List.range' i (N - i) ∧ s' = (mn_T T cA cI N M i).setTop f) _ _ ⟨0, Nat.zero_le _, rfl, ?_⟩ ?_ ?_
  · rw [hN]
    show _ = (T.pushCell (arrV cA N (mn_f T.heap.size 0))).setTop f
    rw [show mn_f T.heap.size 0 = (fun _ => .null) from by funext j; simp [mn_f], ← arrV_new]
    rfl
  · rintro x rest s' d' acts' Q' ⟨i, hi, hl, rfl⟩ hnext
    have hlt : i < N := by
      rcases Nat.lt_or_ge i N with h | h
      · exact h
      · rw [show N - i = 0 by omega] at hl
        simp at hl
    obtain ⟨rfl, hrest⟩ : x = i ∧ rest = List.range' (i + 1) (N - (i + 1)) := by
      rw [show N - i = (N - (i + 1)) + 1 by omega, List.range'_succ] at hl
      exact List.cons.inj hl
    obtain ⟨L, Xi, ⟨j1, j2, j3, j4⟩, hv, -⟩ := mn_all X cA cI N M x
    have hmul : x * M + M ≤ N * M := by
      have := Nat.mul_le_mul_right M (show x + 1 ≤ N from hlt)
      rw [Nat.succ_mul] at this
      exact this
    obtain ⟨q1, q2⟩ := Xi.roomAbove (a := 1) (b := M) (by omega) (by omega)
    simp only [wp_bind']
    refine mn_make1 (cE := cE) (kI := kI) (by rw [State.vm_setTop, hv]; exact hkI) hkindI hk (by rw [hM]; exact h2) (by rw [hM]; exact h3) (by show (mn_T T cA cI N M x).heap.size < _; omega) (by show (mn_T T cA cI N M x).slotsUsed + _ ≤ _; rw [hM]; exact q2) (fun acts2 => ?_)
    have hlt0 : T.heap.size < (mn_T T cA cI N M x).heap.size := by omega
    simp only [wp_bind', W.writeLoc, wp_pure']
    refine ⟨arrV cA N (mn_f T.heap.size x), ?_, fun h => (by cases h), by rw [arrV_size]; exact hlt, ?_, hnext _ _ _ ⟨x + 1, hlt, hrest, ?_⟩⟩
    · show ((mn_T T cA cI N M x).pushCell _).heap[T.heap.size]? = _
      rw [State.heap_pushCell_of_lt (h := hlt0)]
      exact j3
    · show State.fitsSlot _ cA .none x _ = true
      simp [State.fitsSlot, State.slotType?, hv, hkA, hkindA, fits]
    · have hz9 : ((mn_T T cA cI N M x).setTop f).heap.size = T.heap.size + 1 + x := by
        show (mn_T T cA cI N M x).heap.size = _
        omega
      rw [arrV_store, hM, hz9, mn_upd]
      rfl
  · rintro s' d' acts' ⟨i, hi, hl, rfl⟩
    have hiN : i = N := by
      rcases Nat.lt_or_ge i N with h | h
      · rw [show N - i = (N - (i + 1)) + 1 by omega, List.range'_succ] at hl
        cases hl
      · omega
    subst hiN
    simp only [wp_pure']
    exact hq _ _
theorem mn_W {cc : ByteArray} (hexec : p.tables.exec = Jvm.exec) (hb : c.code = cc) {own : String} {index : Nat} (hown : s.vm.findClass own = some m.cls) (hclink : (Cond.classLink own index "[[I").before args s = true) (hover : (Cond.arrayOver (.array .int)).before args s = true) (harr : (Cond.arrayClass .int).before args s = true)
    {pc : Nat} {ls : Array Slot} {rest : List Value} {n k : Int32} {N M : Nat} (hn : ¬ n < 0) (hk : ¬ k < 0) (hN : n.toNatClampNeg = N) (hM : k.toNatClampNeg = M) (h1 : N ≤ 100000) (h2 : M ≤ 100000) (hcells : cells + (1 + N) ≤ R.cells) (hslots : slots + (N + N * M) ≤ R.slots) (hdg : decode cc pc = .ok (.multianewarray index 2, 4))
    (kk : ∀ (H1 : Heap) (cA cI : ClassId) (L : List Loc), mn_J H H1 cA cI N M N → (∀ q ∈ L, q.base = H.size) → s.vm.findClass "[[I" = some cA → s.vm.findClass "[I" = some cI → ArrOfT s cA (.array .int) → ArrOfT s cI .int → W p l e R s m args below meth c H1 (locs ++ L) (cells + (1 + N)) (slots + (N + N * M)) Q (F0 m (pc + 4) ls (.ref H.size :: rest))) : W p l e R s m args below meth c H locs cells slots Q (F0 m pc ls (.int k :: .int n :: rest)) := by
  intro T hT X
  subst hT
  subst hb
  subst hN
  subst hM
  have hpl : e.platform.magicAccessors = ({} : Platform).magicAccessors := by rw [X.admits.platform]
  obtain ⟨cI, cA, kA, hcomp, -, hkA, hkindA, hnameA⟩ := arrayOverA_spec hover
  obtain ⟨cI2, kI, cE, hcI2, hkI, hkindI⟩ := Cond.arrayClass_spec harr
  have ecI : cI2 = cI := Option.some.inj (hcI2.symm.trans hcomp)
  subst ecI
  obtain ⟨c0, hfc0, hcl⟩ := Cond.classLink_spec hown hclink e.platform hpl
  have ecA : c0 = cA := Option.some.inj (hfc0.symm.trans hnameA)
  subst ecA
  obtain ⟨hg₁, hwarm₁, hready₁⟩ := State.classEntry (e := e) X.warmed hcl
  generalize T.vm.noted m.cls index (.cls c0) = vm₁ at hg₁ hwarm₁ hready₁
  have hal : s.vm.Alike vm₁ := hwarm₁.alike
  obtain ⟨kA₁, hkA₁, heA⟩ := hal.2.2 _ _ hkA
  obtain ⟨kI₁, hkI₁, heI⟩ := hal.2.2 _ _ hkI
  have X₁ := X.noted hwarm₁
  obtain ⟨L, XN, J, -, hL⟩ := mn_all X₁ c0 cI2 n.toNatClampNeg k.toNatClampNeg n.toNatClampNeg
  obtain ⟨t, a1, b1⟩ := kk _ c0 cI2 L J hL hnameA hcomp (fun _ _ => ⟨fun q h => (by cases h), kA, hkA, cI2, hkindA⟩) (fun _ _ => ⟨fun q h => (by cases h), kI, hkI, cE, hkindI⟩) _ rfl XN
  refine ⟨t, ?_, b1⟩
  have l0 : n.toNatClampNeg ≤ e.platform.arrayLengthLimit := by rw [Launch.admits_arrayLengthLimit X.admits]; omega
  have l1 : n.toNatClampNeg * componentBytes (.array .int) ≤ e.platform.maxHeapBytes := by
    rw [Launch.admits_maxHeapBytes X.admits]
    show n.toNatClampNeg * 4 ≤ 536870912
    omega
  have l2 : k.toNatClampNeg ≤ e.platform.arrayLengthLimit := by rw [Launch.admits_arrayLengthLimit X.admits]; omega
  have l3 : k.toNatClampNeg * componentBytes .int ≤ e.platform.maxHeapBytes := by
    rw [Launch.admits_maxHeapBytes X.admits]
    show k.toNatClampNeg * 4 ≤ 536870912
    omega
  obtain ⟨g, hg⟩ : ∃ g, g = F0 m pc ls (.int k :: .int n :: rest) := ⟨_, rfl⟩
  have hgm : g.method = m := by rw [hg]
  have hgs : g.stack = .int k :: .int n :: rest := by rw [hg]
  have hgp : g.pc = pc := by rw [hg]
  have hge : F0 m (pc + 4) ls (.ref T.heap.size :: rest) = { g with pc := g.pc + 4, stack := .ref T.heap.size :: rest } := by rw [hg]
  rw [hge] at a1
  rw [← hg]
  rw [← hgp] at hdg
  clear hge hgp hg
  subst hgm
  jvm_step X.here [hexec, hdg]
  simp only [Op.multianewarray.sem, wp_bind', W.resolveClassAt_links (State.method?_setTop g X.here.top) hg₁]
  rw [W.popN, if_neg (by decide)]
  refine ⟨g, State.topJava?_setTop' (s := T.setVm vm₁) g X.here.top, [.int n, .int k], rest, rfl, hgs, ?_⟩
  simp only [List.mapM_cons, List.mapM_nil, wp_bind', wp_pure']
  have eS : ((T.setTop g).setVm vm₁).setTop { g with stack := rest } = (T.setVm vm₁).setTop { g with stack := rest } := by
    show ((T.setVm vm₁).setTop g).setTop _ = _
    rw [State.setTop_setTop]
  rw [eS]
  refine mn_make2 X₁ { g with stack := rest } (kA := kA₁) (kI := kI₁) (cI := cI2) (cE := cE) hkA₁ (by rw [heA]; exact hkindA) hkI₁ (by rw [heI]; exact hkindI) hn hk l0 l1 l2 l3 hcells hslots (fun d' acts' => ?_)
  simp only [wp_bind', W.mark, W.pushRef, State.topJava?_setTop' _ XN.here.top, Option.some.injEq, exists_eq_left', State.setTop_setTop, State.heap_setTop]
  intro acts
  simp [jvm, XN.here.top]
  exact a1
end MN

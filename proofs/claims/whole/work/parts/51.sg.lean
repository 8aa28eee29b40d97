/-! SEGMENT WORLDS (own rows): the cells from b on, n of them, at known addresses; constructors make them one behind the other. -/
def sg_L (b n : Nat) (E : Nat → va_E) : va_W := (List.range n).map (fun o => (b + o, E o))
def sg_W (D : va_G) (cl : List vw_C) (b n : Nat) (E : Nat → va_E) (H : Heap) : Prop := H.size = b + n ∧ va_P D cl (sg_L b n E) H
theorem sg_at {b n : Nat} {E : Nat → va_E} (o : Nat) (h : o < n) {e : va_E} (he : E o = e) : (sg_L b n E)[o]? = some (b + o, e) := by
  subst he
  simp [sg_L, h]
theorem sg_of {D : va_G} {cl : List vw_C} {b n : Nat} {E : Nat → va_E} {H : Heap} (hz : H.size = b + n) (h : ∀ o, o < n → va_at D cl (b + o, E o) H) : sg_W D cl b n E H := by
  refine ⟨hz, fun k q hk => ?_⟩
  have hl : k < n := by
    have := (List.getElem?_eq_some_iff.mp hk).1
    simpa [sg_L] using this
  rw [sg_at k hl rfl] at hk
  cases hk
  exact h k hl
theorem sg_W.to {D : va_G} {cl : List vw_C} {b n : Nat} {E : Nat → va_E} {H : Heap} (h : sg_W D cl b n E H) (o : Nat) (ho : o < n) : va_at D cl (b + o, E o) H := h.2 o _ (sg_at o ho rfl)
theorem sg_D {A : Nat → Prop} {b n : Nat} {E : Nat → va_E} (hA : ∀ q, b ≤ q → A q) : va_D A (sg_L b n E) := by
  have key : ∀ (k : Nat) (q : Nat × va_E), (sg_L b n E)[k]? = some q → q.1 = b + k := by
    intro k q hk
    have hl : k < n := by
      have := (List.getElem?_eq_some_iff.mp hk).1
      simpa [sg_L] using this
    rw [sg_at k hl rfl] at hk
    cases hk
    rfl
  refine ⟨fun i j p q hi hj e => ?_, fun k q hk => ?_⟩
  · have h1 := key i p hi
    have h2 := key j q hj
    omega
  · rw [key k q hk]
    exact hA _ (by omega)
theorem sg_set {b n : Nat} {E : Nat → va_E} (o : Nat) (h : o < n) (e : va_E) : (sg_L b n E).set o (b + o, e) = sg_L b n (va_up E o e) := by
  apply List.ext_getElem?
  intro j
  rw [List.getElem?_set]
  by_cases hj : j < n
  · by_cases ho : o = j
    · subst ho
      rw [if_pos rfl, if_pos (by simpa [sg_L] using h), sg_at o h rfl, va_up_self]
    · rw [if_neg ho, sg_at j hj rfl, sg_at j hj rfl, va_up_ne _ _ (fun h => ho h.symm)]
  · have h1 : (sg_L b n E)[j]? = none := by simp [sg_L]; omega
    have h2 : (sg_L b n (va_up E o e))[j]? = none := by simp [sg_L]; omega
    rw [h1, h2]
    split
    · split
      · rename_i h3 h4
        exfalso
        have : o < n := by simpa [sg_L] using h4
        omega
      · rfl
    · rfl
theorem sg_push {D : va_G} {cl : List vw_C} {b n : Nat} {E : Nat → va_E} {H H1 : Heap} (hW : sg_W D cl b n E H) {e : va_E} (z1 : H1.size = b + n + 1) (o1 : ∀ q : Nat, q < b + n → H1[q]? = H[q]?) (he : va_at D cl (b + n, e) H1) : sg_W D cl b (n + 1) (va_up E n e) H1 := by
  refine sg_of (by omega) (fun o ho => ?_)
  by_cases h : o = n
  · subst h
    rw [va_up_self]
    exact he
  · rw [va_up_ne _ _ h]
    exact (hW.to o (by omega)).kept (o1 _ (by show b + o < b + n; omega))
theorem sg_S {A : Nat → Prop} {D : va_G} {cl : List vw_C} {b n k : Nat} {E : Nat → va_E} {H0 H H1 : Heap} {locs : List Loc} (hS : va_S A H0 H locs) (hW : sg_W D cl b n E H) (z1 : H1.size = b + n + k) (o1 : ∀ q : Nat, q < b + n → H1[q]? = H[q]?) : va_S A H0 H1 locs := by
  have hz := hW.1
  exact ⟨Nat.le_trans hS.1 (by omega), fun x h1 h2 => (o1 x (by have := hS.1; omega)).trans (hS.2.1 x h1 h2), hS.2.2⟩
section SGR
variable {p : Program} {l : Launch} {e : Env} {R : Room} {s : State} {m : MethodId} {args : Array Value} {below : List Frame} {meth : Method} {c : Code} {H : Heap} {locs : List Loc} {cells slots : Nat} {Q : State → Prop}
variable {cc : ByteArray} {pc : Nat} {ls : Array Slot} {rest : List Value} {D : va_G} {cl : List vw_C} {A : Nat → Prop} {tys : List (ClassId × FieldType)} {H0 : Heap} {b n : Nat} {E : Nat → va_E}
theorem sg_new (hexec : p.tables.exec = Jvm.exec) (hb : c.code = cc) {own C : String} {T : u_T} {N ci index : Nat} {Ts : List Cond} (hts : ∀ w ∈ Ts, w.before args s = true) (hin : ∀ w ∈ u_ws C T N, w ∈ Ts) (ty : Nat → FieldType) (hty : ∀ k, k < N → parseFieldDescriptor (T k).2.2.1 = some (ty k)) (hown : s.vm.findClass own = some m.cls) (hcl : (Cond.classLink own index C).before args s = true) (hinst : (Cond.instantiable C N).before args s = true) (hini : (Cond.initialized C).before args s = true)
    (hK : va_K D cl tys s) (hW : sg_W D cl b n E H) (hS : va_S A H0 H locs) (hc : cl[ci]? = some (C, T, N)) {fs : List Value} (hfs : ∀ j, j < N → defaultValue (ty j) = vp_V fs j) (hcells : cells + 1 ≤ R.cells) (hslots : slots + N ≤ R.slots) (hdg : decode cc pc = .ok (.new index, 3))
    (kk : ∀ H1 : Heap, sg_W D cl b (n + 1) (va_up E n (.inr (ci, fs))) H1 → va_S A H0 H1 locs → W p l e R s m args below meth c H1 locs (cells + 1) (slots + N) Q (F0 m (pc + 3) ls (.ref (b + n) :: rest))) : W p l e R s m args below meth c H locs cells slots Q (F0 m pc ls rest) := by
  have hKn := hK.1 ci _ hc
  refine W.newcK hexec hb hown hcl hinst hini rfl hdg hcells hslots hKn.2.1 hW.1 fun H1 kC hkC e1 z1 o1 => ?_
  exact kk H1 (sg_push hW z1 o1 ⟨_, hc, (u_born ty hts hin hKn hkC e1 hty).to hfs⟩) (sg_S hS hW z1 o1)
theorem sg_newa (hexec : p.tables.exec = Jvm.exec) (hb : c.code = cc) {atype : ArrayType} (harr : (Cond.arrayClass (newarray.typeOf atype)).before args s = true) {ty : FieldType} (hty : newarray.typeOf atype = ty) (hK : va_K D cl tys s) (hW : sg_W D cl b n E H) (hS : va_S A H0 H locs) (t0 : Nat) {cA : ClassId} (ht : tys[t0]? = some (cA, ty))
    {i : Int32} {N : Nat} {a0 : vp_A} (ha : ∀ cA : ClassId, vp_cell cA a0 = arrV cA N (fun _ => defaultValue ty)) (hn : ¬ i < 0) (hN : i.toNatClampNeg = N) (hbytes : N * componentBytes ty ≤ 536870912) (hcells : cells + 1 ≤ R.cells) (hslots : slots + N ≤ R.slots) (hdg : decode cc pc = .ok (.newarray atype, 2))
    (kk : ∀ H1 : Heap, sg_W D cl b (n + 1) (va_up E n (.inl (cA, a0))) H1 → va_S A H0 H1 locs → W p l e R s m args below meth c H1 locs (cells + 1) (slots + N) Q (F0 m (pc + 2) ls (.ref (b + n) :: rest))) : W p l e R s m args below meth c H locs cells slots Q (F0 m pc ls (.int i :: rest)) := by
  subst hty
  refine va_newaK hexec hb harr rfl hdg rfl hn hN hbytes hcells hslots hW.1 fun H1 cB e1 z1 o1 hAr hNm => ?_
  have hcA : cB = cA := by
    have h := (hK.2 t0 _ ht).2
    have h2 : s.vm.findClass ("[" ++ (newarray.typeOf atype).toString) = some cA := by cases atype <;> exact h
    exact Option.some.inj (hNm.symm.trans h2)
  subst hcA
  refine kk H1 (sg_push hW z1 o1 ?_) (sg_S hS hW z1 o1)
  show H1[b + n]? = some (vp_cell _ _)
  rw [ha]
  exact e1
theorem sg_anew (hexec : p.tables.exec = Jvm.exec) (hb : c.code = cc) {own C : String} {index : Nat} (hown : s.vm.findClass own = some m.cls) (hclink : (Cond.classLink own index C).before args s = true) (hover : (Cond.arrayOver (.object C)).before args s = true) (hK : va_K D cl tys s) (hW : sg_W D cl b n E H) (hS : va_S A H0 H locs) (t0 : Nat) {cA : ClassId} (ht : tys[t0]? = some (cA, .object C))
    {i : Int32} {N : Nat} (hn : ¬ i < 0) (hN : i.toNatClampNeg = N) (hbytes : N * 4 ≤ 536870912) (hcells : cells + 1 ≤ R.cells) (hslots : slots + N ≤ R.slots) (hdg : decode cc pc = .ok (.anewarray index, 3))
    (kk : ∀ H1 : Heap, sg_W D cl b (n + 1) (va_up E n (.inl (cA, N, .inr (.inr (.inr (.inr (fun _ => none))))))) H1 → va_S A H0 H1 locs → W p l e R s m args below meth c H1 locs (cells + 1) (slots + N) Q (F0 m (pc + 3) ls (.ref (b + n) :: rest))) : W p l e R s m args below meth c H locs cells slots Q (F0 m pc ls (.int i :: rest)) := by
  subst hN
  refine W.anew hexec hb hown hclink hover rfl hdg rfl hn hbytes hcells hslots fun cB kA comp f1 f2 f3 f4 => ?_
  obtain ⟨kA', comp', -, -, -, g4⟩ := (hK.2 t0 _ ht).2
  have hcA : cB = cA := Option.some.inj (f1.symm.trans g4)
  subst hcA
  have hz := hW.1
  generalize hH1 : H.push ({ cls := cB, slots := Array.replicate i.toNatClampNeg .null, vm := .none } : Cell) = H1
  have z1 : H1.size = b + n + 1 := by rw [← hH1, Array.size_push, hz]
  have e1 : H1[b + n]? = some (arrV cB i.toNatClampNeg (fun _ => .null)) := by rw [← hH1, ← hz, Array.getElem?_push_size, ← arrV_new]
  have o1 : ∀ q : Nat, q < b + n → H1[q]? = H[q]? := fun q hq => by rw [← hH1, Array.getElem?_push, if_neg (by omega)]
  rw [hz]
  refine kk H1 (sg_push hW z1 o1 ?_) (sg_S hS hW z1 o1)
  show H1[b + n]? = some (vp_cell _ _)
  rw [vp_cell_q]
  exact e1
/-- two dimensions of ints: the outer array, then its rows -/
def sg_rows (b n : Nat) (E : Nat → va_E) (cA cI : ClassId) (N M : Nat) : Nat → va_E := fun o => if o < n then E o else if o = n then .inl (cA, N, .inr (.inr (.inr (.inr (fun j => if j < N then some (b + n + 1 + j) else none))))) else .inl (cI, M, .inl (fun _ => 0))
theorem sg_multi (hexec : p.tables.exec = Jvm.exec) (hb : c.code = cc) {own : String} {index : Nat} (hown : s.vm.findClass own = some m.cls) (hclink : (Cond.classLink own index "[[I").before args s = true) (hover : (Cond.arrayOver (.array .int)).before args s = true) (harr : (Cond.arrayClass .int).before args s = true)
    (hK : va_K D cl tys s) (hW : sg_W D cl b n E H) (hA : ∀ q, b ≤ q → A q) (hS : va_S A H0 H locs) (t0 t1 : Nat) {cA cI : ClassId} (ht0 : tys[t0]? = some (cA, .array .int)) (ht1 : tys[t1]? = some (cI, .int)) {i j : Int32} {N M : Nat} (hi : ¬ i < 0) (hj : ¬ j < 0) (hN : i.toNatClampNeg = N) (hM : j.toNatClampNeg = M) (h1 : N ≤ 100000) (h2 : M ≤ 100000) (hcells : cells + (1 + N) ≤ R.cells) (hslots : slots + (N + N * M) ≤ R.slots) (hdg : decode cc pc = .ok (.multianewarray index 2, 4))
    (kk : ∀ (H1 : Heap) (locs1 : List Loc), sg_W D cl b (n + (1 + N)) (sg_rows b n E cA cI N M) H1 → va_S A H0 H1 locs1 → W p l e R s m args below meth c H1 locs1 (cells + (1 + N)) (slots + (N + N * M)) Q (F0 m (pc + 4) ls (.ref (b + n) :: rest))) : W p l e R s m args below meth c H locs cells slots Q (F0 m pc ls (.int j :: .int i :: rest)) := by
  refine mn_W hexec hb hown hclink hover harr hi hj hN hM h1 h2 hcells hslots hdg (fun H1 cA' cI' L hJ hL f1 f2 hA1 hA2 => ?_)
  have e1 : cA' = cA := Option.some.inj (f1.symm.trans (hK.2 t0 _ ht0).2)
  have e2 : cI' = cI := Option.some.inj (f2.symm.trans (hK.2 t1 _ ht1).2)
  subst e1
  subst e2
  obtain ⟨j1, j2, j3, j4⟩ := hJ
  have hz := hW.1
  rw [hz] at j1 j2 j3 j4
  rw [hz]
  refine kk H1 _ (sg_of (by omega) (fun o ho => ?_)) ⟨?_, ?_, ?_⟩
  · unfold sg_rows
    by_cases c1 : o < n
    · rw [if_pos c1]
      exact (hW.to o c1).kept (j2 _ (by show b + o < b + n; omega))
    · rw [if_neg c1]
      by_cases c2 : o = n
      · subst c2
        rw [if_pos rfl]
        show H1[b + o]? = some (vp_cell _ _)
        rw [j3, vp_cell_q]
        congr 2
        funext k
        unfold mn_f
        by_cases c3 : k < N
        · rw [if_pos c3, if_pos c3]
          rfl
        · rw [if_neg c3, if_neg c3]
          rfl
      · rw [if_neg c2]
        show H1[b + o]? = some (vp_cell _ _)
        rw [show b + o = b + n + 1 + (o - n - 1) by omega, j4 (o - n - 1) (by omega), vp_cell_i]
  · have := hS.1
    omega
  · intro x g1 g2
    have := hS.1
    exact (j2 x (by omega)).trans (hS.2.1 x g1 g2)
  · intro q hq
    rcases List.mem_append.mp hq with h | h
    · exact hS.2.2 q h
    · rw [hL q h, hz]
      exact hA _ (by omega)
end SGR

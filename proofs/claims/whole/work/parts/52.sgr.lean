/-! more rows over segments: stores and reads at a known offset; constructors' contracts -/
theorem sg_upd {D : va_G} {cl : List vw_C} {b n o : Nat} {E : Nat → va_E} {H H1 : Heap} (hW : sg_W D cl b n E H) (ho : o < n) {e : va_E} (z : H1.size = H.size) (oq : ∀ q : Nat, q ≠ b + o → H1[q]? = H[q]?) (he : va_at D cl (b + o, e) H1) : sg_W D cl b n (va_up E o e) H1 := by
  refine sg_of (by rw [z]; exact hW.1) (fun k hk => ?_)
  by_cases h : k = o
  · subst h
    rw [va_up_self]
    exact he
  · rw [va_up_ne _ _ h]
    exact (hW.to k hk).kept (oq _ (by show b + k ≠ b + o; omega))
section SGQ
variable {p : Program} {l : Launch} {e : Env} {R : Room} {s : State} {m : MethodId} {args : Array Value} {below : List Frame} {meth : Method} {c : Code} {H : Heap} {locs : List Loc} {cells slots : Nat} {Q : State → Prop}
variable {cc : ByteArray} {pc : Nat} {ls : Array Slot} {rest : List Value} {D : va_G} {cl : List vw_C} {A : Nat → Prop} {tys : List (ClassId × FieldType)} {H0 : Heap} {b n : Nat} {E : Nat → va_E}
theorem sg_put (hexec : p.tables.exec = Jvm.exec) (hb : c.code = cc) {own C : String} {T : u_T} {N ci index : Nat} {Ts : List Cond} (hts : ∀ w ∈ Ts, w.before args s = true) (hin : ∀ w ∈ u_ws C T N, w ∈ Ts) (ty0 : Nat → FieldType) (hty : ∀ k, k < N → parseFieldDescriptor (T k).2.2.1 = some (ty0 k)) (hnm : ∀ a, a < N → ∀ b, b < N → a ≠ b → (T a).2.1 ≠ (T b).2.1) (hown : s.vm.findClass own = some m.cls) (hK : va_K D cl tys s) (hW : sg_W D cl b n E H) (hA : ∀ q, b ≤ q → A q) (hS0 : va_S A H0 H locs) (o : Nat) (ho : o < n) {fs : List Value} (he : E o = .inr (ci, fs)) (hc : cl[ci]? = some (C, T, N)) (k : Nat) (hk : k < N) (hlink : (Cond.fieldLink own index C (T k).2.1 (T k).2.2.1).before args s = true) (hO : (T k).1 = C) (hCo : C = own) (hin2 : meth.name = "<init>") {ty : FieldType} {v : Value} (hd : parseFieldDescriptor (T k).2.2.1 = some ty) (hn : narrow ty v = v) (hfit : fits ty v = true) (hl : k < fs.length)
    (hdg : decode cc pc = .ok (.putfield index, 3)) (kk : ∀ (H1 : Heap) (locs1 : List Loc), sg_W D cl b n (va_up E o (.inr (ci, fs.set k v))) H1 → va_S A H0 H1 locs1 → W p l e R s m args below meth c H1 locs1 cells slots Q (F0 m (pc + 3) ls rest)) : W p l e R s m args below meth c H locs cells slots Q (F0 m pc ls (v :: .ref (b + o) :: rest)) := by
  subst hCo
  have hap := va_apart (own := C) hts hin ty0 hty hnm hK hc
  have h0 := hW.to o ho
  rw [he] at h0
  obtain ⟨r, h1, cell, q1, q2, q3, q4⟩ := h0
  have hr : r = (C, T, N) := Option.some.inj (h1.symm.trans hc)
  subst hr
  obtain ⟨hS, hfc, kC, hkC, hkind⟩ := hK.1 ci _ hc
  obtain ⟨cf, kf, fi, f, hi, hsl⟩ := hS k hk
  have hi2 : s.fieldFound? C (T k).2.1 (T k).2.2.1 = some (cf, kf, fi, f) := by rw [← hO]; exact hi
  have hlay := u_lays hts hin hk
  have hst := (u_facts hfc hkC hlay hi).1
  have h6 := u_fits hfc hkC hkind hlay hi hd hn hfit
  have hlt : f.slot < cell.slots.size := by rw [hsl]; exact k2_hasslot (q4 k hk)
  have fin : ∀ H' : Heap, H'[b + o]? = some (cell.setSlot f.slot v) → H'.size = H.size → (∀ q, q ≠ b + o → H'[q]? = H[q]?) → W p l e R s m args below meth c H' (locs ++ [⟨b + o, f.slot⟩]) cells slots Q (F0 m (pc + 3) ls rest) := by
    intro H' e1 e2 e3
    rw [hsl] at e1 ⊢
    refine kk H' _ (sg_upd hW ho e2 e3 ?_) (hS0.put e2 e3 (hA _ (Nat.le_add_right b o)))
    exact ⟨_, hc, t_OB.to (V := updV (vp_V fs) k v) ⟨_, e1, q2, q3, t_set q4 hap hk v⟩ (fun j _ => vp_updV_set hl v j)⟩
  by_cases hfin : (T k).2.2.2 = true
  · have hlay2 := hts _ (hin _ (u_in_lay hk))
    unfold u_lay at hlay2
    rw [if_pos hfin] at hlay2
    have hcf : m.cls = cf := by
      obtain ⟨_, _, c', _, _, _, -, -, hf', -, -, -, hown2, -⟩ := Cond.laysFinal_spec hlay2
      have e1 : c' = cf := by have := hi.symm.trans hf'; simp at this; exact this.1.symm
      rw [hO] at hown2
      rw [← e1]; exact Option.some.inj (hown.symm.trans hown2)
    exact W.putFinK hexec hb hown hlink hi2 hst hcf hin2 (by rw [q2]; exact h6) q1 q3 hlt rfl rfl hdg fin
  · have hlay2 := hts _ (hin _ (u_in_lay hk))
    unfold u_lay at hlay2
    rw [if_neg hfin] at hlay2
    have h7 := u_store hfc hkC hkind hlay2 hi hd hn hfit
    exact W.putK hexec hb (f := f) ⟨hown, hlink, ⟨_, _, _, hi2⟩, hst⟩ (by rw [q2]; exact h7) q1 q3 hlt rfl rfl hdg fin
theorem sg_get (hexec : p.tables.exec = Jvm.exec) (hb : c.code = cc) {own ref C : String} {T : u_T} {N ci index : Nat} {Ts : List Cond} (hts : ∀ w ∈ Ts, w.before args s = true) (hin : ∀ w ∈ u_ws C T N, w ∈ Ts) (hown : s.vm.findClass own = some m.cls) (hK : va_K D cl tys s) (hW : sg_W D cl b n E H) (o : Nat) (ho : o < n) {fs : List Value} (he : E o = .inr (ci, fs)) (hc : cl[ci]? = some (C, T, N)) (k : Nat) (hk : k < N) (hlink : (Cond.fieldLink own index ref (T k).2.1 (T k).2.2.1).before args s = true) (hsame : ∀ x, s.fieldFound? (T k).1 (T k).2.1 (T k).2.2.1 = some x → s.fieldFound? ref (T k).2.1 (T k).2.2.1 = some x) {v : Value} (hv : fs[k]? = some v) (hdg : decode cc pc = .ok (.getfield index, 3))
    (kk : W p l e R s m args below meth c H locs cells slots Q (F0 m (pc + 3) ls (v :: rest))) : W p l e R s m args below meth c H locs cells slots Q (F0 m pc ls (.ref (b + o) :: rest)) :=
  va_get (D := D) (ci := ci) (v := v) (C := C) (T := T) (N := N) hexec hb hts hin hown hK hW.2 o (sg_at o ho he) hc k hk hlink hsame hv hdg kk
theorem sg_aald (hexec : p.tables.exec = Jvm.exec) (hb : c.code = cc) (hK : va_K D cl tys s) (hW : sg_W D cl b n E H) (o : Nat) (ho : o < n) (t0 : Nat) {cA : ClassId} {N : Nat} {f : Nat → Option Nat} (he : E o = .inl (cA, N, .inr (.inr (.inr (.inr f))))) {ty : FieldType} (ht : tys[t0]? = some (cA, ty)) (hty : ty.isReference = true) {i : Int32} (ii : Nat) (hii : i.toNatClampNeg = ii) {v : Nat} (hf : f ii = some v) (hin : vp_in i N) (hdg : decode cc pc = .ok (.aaload, 1))
    (kk : W p l e R s m args below meth c H locs cells slots Q (F0 m (pc + 1) ls (.ref v :: rest))) : W p l e R s m args below meth c H locs cells slots Q (F0 m pc ls (.int i :: .ref (b + o) :: rest)) := by
  have ha := hW.to o ho
  rw [he] at ha
  have hlt : i.toNatClampNeg < N := vi_lt hin
  subst hii
  refine W.aald (v := .ref v) (ty := ty) hexec hb ha ((hK.2 t0 _ ht).1 N (fun j => va_rf (f j))) hty (fun q => by cases q) (by show ¬ (i < 0 ∨ (arrV _ _ _).slots.size ≤ _); rw [arrV_size]; exact hin) ?_ rfl rfl hdg kk
  show (arrV _ _ _).slots[_]? = _
  rw [arrV_read _ _ hlt, hf]
  rfl
theorem sg_iast (hexec : p.tables.exec = Jvm.exec) (hb : c.code = cc) (hK : va_K D cl tys s) (hW : sg_W D cl b n E H) (hA : ∀ q, b ≤ q → A q) (hS : va_S A H0 H locs) (o : Nat) (ho : o < n) (t0 : Nat) {cA : ClassId} {N : Nat} {f : Nat → Int32} (he : E o = .inl (cA, N, .inl f)) (ht : tys[t0]? = some (cA, .int)) {i x : Int32} (ii : Nat) (hii : i.toNatClampNeg = ii) (hin : vp_in i N) (hdg : decode cc pc = .ok (.iastore, 1))
    (kk : ∀ (H1 : Heap) (locs1 : List Loc), sg_W D cl b n (va_up E o (.inl (cA, N, .inl (upd f ii x)))) H1 → va_S A H0 H1 locs1 → W p l e R s m args below meth c H1 locs1 cells slots Q (F0 m (pc + 1) ls rest)) : W p l e R s m args below meth c H locs cells slots Q (F0 m pc ls (.int x :: .int i :: .ref (b + o) :: rest)) := by
  have ha := hW.to o ho
  rw [he] at ha
  subst hii
  refine W.iast hexec hb ha ((hK.2 t0 _ ht).1 N (fun j => .int (f j))) (fun q => by cases q) (by show ¬ (i < 0 ∨ (arrV _ _ _).slots.size ≤ _); rw [arrV_size]; exact hin) rfl rfl hdg fun H1 e z oq => ?_
  refine kk H1 _ (sg_upd hW ho z oq ?_) (hS.put z oq (hA _ (Nat.le_add_right b o)))
  show H1[b + o]? = some (vp_cell _ _)
  rw [e]
  show some ((vp_cell cA (N, .inl f)).setSlot _ _) = _
  rw [vp_cell_i, vp_cell_i, arrV_store]
  congr 2
  funext j
  by_cases hj : j = i.toNatClampNeg
  · subst hj
    simp [updV, upd]
  · simp [updV, upd, hj]
/-- a reference to an object among the segment's, into an array of such -/
theorem sg_aast (hexec : p.tables.exec = Jvm.exec) (hb : c.code = cc) (hK : va_K D cl tys s) (hW : sg_W D cl b n E H) (hA : ∀ q, b ≤ q → A q) (hS : va_S A H0 H locs) (o : Nat) (ho : o < n) (ov : Nat) (hov : ov < n) (t0 ci : Nat) {cA : ClassId} {r : vw_C} {N : Nat} {vs : List Value} {f : Nat → Option Nat} (he : E o = .inl (cA, N, .inr (.inr (.inr (.inr f))))) (ht : tys[t0]? = some (cA, .object r.1)) (hv : E ov = .inr (ci, vs)) (hc : cl[ci]? = some r) {i : Int32} (ii : Nat) (hii : i.toNatClampNeg = ii) (hin : vp_in i N) (hdg : decode cc pc = .ok (.aastore, 1))
    (kk : ∀ (H1 : Heap) (locs1 : List Loc), sg_W D cl b n (va_up E o (.inl (cA, N, .inr (.inr (.inr (.inr (va_up f ii (some (b + ov)))))))) ) H1 → va_S A H0 H1 locs1 → W p l e R s m args below meth c H1 locs1 cells slots Q (F0 m (pc + 1) ls rest)) : W p l e R s m args below meth c H locs cells slots Q (F0 m pc ls (.ref (b + ov) :: .int i :: .ref (b + o) :: rest)) := by
  have ha := hW.to o ho
  rw [he] at ha
  have hvv := hW.to ov hov
  rw [hv] at hvv
  subst hii
  have hlt : i.toNatClampNeg < N := vi_lt hin
  have h0 : ¬ i < 0 := fun q => hin (Or.inl q)
  obtain ⟨r', hr', cellV, g1, g2, g3, -⟩ := hvv
  have hcls := (hK.1 ci r hc).2
  obtain ⟨kA, comp, k1, k2, k3, -⟩ := (hK.2 t0 _ ht).2
  have hcomp : comp = D.1 ci := Option.some.inj (k3.symm.trans hcls.1)
  subst hcomp
  obtain ⟨kC, hkC, -⟩ := hcls.2
  refine W.aast hexec hb ha (fun q h => by cases h) (fun h => by cases h) k1 k2 rfl hkC ⟨h0, by show _ < (arrV _ _ _).slots.size; rw [arrV_size]; exact hlt⟩ g1 (fun q h => by rw [g3] at h; cases h) (by rw [g2]; exact hkC) (by rw [g2]; exact va_assign hcls) rfl rfl hdg fun H1 e z oq => ?_
  refine kk H1 _ (sg_upd hW ho z oq ?_) (hS.put z oq (hA _ (Nat.le_add_right b o)))
  show H1[b + o]? = some (vp_cell _ _)
  rw [e]
  show some ((vp_cell cA (N, .inr (.inr (.inr (.inr f))))).setSlot _ _) = _
  rw [vp_cell_q, vp_cell_q, arrV_store]
  congr 2
  funext q
  by_cases hq : q = i.toNatClampNeg
  · subst hq
    simp [updV, va_up, va_rf]
  · simp [updV, va_up, hq]
end SGQ

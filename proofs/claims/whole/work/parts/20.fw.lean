def fw_tys (cA : Nat → ClassId) : List (ClassId × FieldType) := [(cA 0, .int), (cA 1, .array .int), (cA 2, .object "TapOffice$Card"), (cA 3, .object "TapOffice$Account"), (cA 4, .object "TapOffice$Validator"), (cA 5, .boolean)]
/-! TAG WORLDS (own rows): the cells of a family of objects, each by a tag (kind, i, j); all their ints are one function of tag and place. -/
abbrev fw_T : Type := Nat × Nat × Nat
abbrev fw_S : Type := fw_T → Nat → Int32
/-- a cell's shape: an array of numbers (its array class, its length), an array of references (class, length, targets), an object (its class, its fields: a reference to a tag, or the number at a place) -/
abbrev fw_H : Type := (Nat × Nat) ⊕ (Nat × Nat × (Nat → fw_T)) ⊕ (Nat × List (fw_T ⊕ Nat))
abbrev fw_X : Type := va_G × (Nat → ClassId) × (fw_T → Nat)
/-- another row at a tag; another number at a place of it -/
def fw_row (σ : fw_S) (t : fw_T) (r : Nat → Int32) : fw_S := fun u => if u = t then r else σ u
def fw_st (σ : fw_S) (t : fw_T) (k : Nat) (x : Int32) : fw_S := fw_row σ t (upd (σ t) k x)
def fw_fv (ad : fw_T → Nat) (r : Nat → Int32) (f : fw_T ⊕ Nat) : Value := match f with
  | .inl u => .ref (ad u)
  | .inr k => .int (r k)
def fw_ent (cA : Nat → ClassId) (ad : fw_T → Nat) (r : Nat → Int32) (h : fw_H) : va_E := match h with
  | .inl q => .inl (cA q.1, q.2, .inl r)
  | .inr (.inl q) => .inl (cA q.1, q.2.1, .inr (.inr (.inr (.inr (fun i => some (ad (q.2.2 i)))))))
  | .inr (.inr q) => .inr (q.1, q.2.map (fw_fv ad r))
def fw_W (cl : List vw_C) (sh : fw_T → fw_H) (V : fw_T → Prop) (X : fw_X) (σ : fw_S) (H : Heap) : Prop := ∀ t, V t → va_at X.1 cl (X.2.2 t, fw_ent X.2.1 X.2.2 (σ t) (sh t)) H
def fw_I (V : fw_T → Prop) (X : fw_X) : Prop := ∀ t u, V t → V u → X.2.2 t = X.2.2 u → t = u
def fw_A (V : fw_T → Prop) (X : fw_X) : Nat → Prop := fun q => ∃ t, V t ∧ q = X.2.2 t
theorem fw_row_self (σ : fw_S) (t : fw_T) (r : Nat → Int32) : fw_row σ t r t = r := if_pos rfl
theorem fw_row_ne (σ : fw_S) {t u : fw_T} (r : Nat → Int32) (h : u ≠ t) : fw_row σ t r u = σ u := if_neg h
theorem fw_st_at (σ : fw_S) (t : fw_T) (k : Nat) (x : Int32) (u : fw_T) (j : Nat) : fw_st σ t k x u j = if u = t ∧ j = k then x else σ u j := by
  unfold fw_st fw_row upd
  by_cases h : u = t
  · subst h
    by_cases h2 : j = k <;> simp [h2]
  · simp [h]
theorem fw_W.store {cl : List vw_C} {sh : fw_T → fw_H} {V : fw_T → Prop} {X : fw_X} {σ : fw_S} {H H1 : Heap} (h : fw_W cl sh V X σ H) (hI : fw_I V X) {t : fw_T} (hV : V t) {r : Nat → Int32} (he : va_at X.1 cl (X.2.2 t, fw_ent X.2.1 X.2.2 r (sh t)) H1) (oq : ∀ q : Nat, q ≠ X.2.2 t → H1[q]? = H[q]?) : fw_W cl sh V X (fw_row σ t r) H1 := by
  intro u hu
  by_cases e : u = t
  · subst e
    rw [fw_row_self]
    exact he
  · rw [fw_row_ne σ r e]
    exact (h u hu).kept (oq _ (fun q => e (hI u t hu hV q)))
theorem fw_W.kept {cl : List vw_C} {sh : fw_T → fw_H} {V : fw_T → Prop} {X : fw_X} {σ : fw_S} {H H1 : Heap} (h : fw_W cl sh V X σ H) (oq : ∀ t, V t → H1[X.2.2 t]? = H[X.2.2 t]?) : fw_W cl sh V X σ H1 := fun t ht => (h t ht).kept (oq t ht)
theorem fw_W.lt {cl : List vw_C} {sh : fw_T → fw_H} {V : fw_T → Prop} {X : fw_X} {σ : fw_S} {H : Heap} (h : fw_W cl sh V X σ H) {t : fw_T} (ht : V t) : X.2.2 t < H.size := (h t ht).lt
/-- the numbers among an object's fields stand at their own places -/
def fw_ok : Nat → List (fw_T ⊕ Nat) → Bool
  | _, [] => true
  | n, .inl _ :: l => fw_ok (n + 1) l
  | n, .inr i :: l => (i == n) && fw_ok (n + 1) l
theorem fw_ok_at : ∀ (l : List (fw_T ⊕ Nat)) (n : Nat), fw_ok n l = true → ∀ j i, l[j]? = some (.inr i) → i = n + j
  | [], _, _, j, i, h => by simp at h
  | .inl u :: l, n, ho, j, i, h => by
    cases j with
    | zero => simp at h
    | succ j =>
      have := fw_ok_at l (n + 1) ho j i (by simpa using h)
      omega
  | .inr a :: l, n, ho, j, i, h => by
    simp only [fw_ok, Bool.and_eq_true, beq_iff_eq] at ho
    cases j with
    | zero =>
      have e : a = i := by simpa using h
      omega
    | succ j =>
      have := fw_ok_at l (n + 1) ho.2 j i (by simpa using h)
      omega
theorem fw_set {ad : fw_T → Nat} {r : Nat → Int32} {l : List (fw_T ⊕ Nat)} (ho : fw_ok 0 l = true) {k : Nat} (hk : l[k]? = some (.inr k)) (x : Int32) : l.map (fw_fv ad (upd r k x)) = (l.map (fw_fv ad r)).set k (.int x) := by
  apply List.ext_getElem?
  intro j
  rw [List.getElem?_map, List.getElem?_set, List.getElem?_map, List.length_map]
  have hlt : k < l.length := (List.getElem?_eq_some_iff.mp hk).1
  by_cases e : k = j
  · subst e
    rw [if_pos rfl, if_pos hlt, hk]
    simp [fw_fv, upd]
  · rw [if_neg e]
    cases hj : l[j]? with
    | none => rfl
    | some f =>
      cases f with
      | inl u => rfl
      | inr i =>
        have := fw_ok_at l 0 ho j i hj
        have hne : i ≠ k := by omega
        simp [fw_fv, upd, hne]
section FWR
variable {p : Program} {l : Launch} {e : Env} {R : Room} {s : State} {m : MethodId} {args : Array Value} {below : List Frame} {meth : Method} {c : Code} {H : Heap} {locs : List Loc} {cells slots : Nat} {Q : State → Prop}
variable {cc : ByteArray} {pc : Nat} {ls : Array Slot} {rest : List Value} {cl : List vw_C} {A : Nat → Prop} {tys : List (ClassId × FieldType)} {H0 : Heap} {sh : fw_T → fw_H} {V : fw_T → Prop} {X : fw_X} {σ : fw_S}
/-- getfield of a tag's object -/
theorem fw_get (hexec : p.tables.exec = Jvm.exec) (hb : c.code = cc) {own ref C : String} {T : u_T} {N ci index : Nat} {Ts : List Cond} (hts : ∀ w ∈ Ts, w.before args s = true) (hin : ∀ w ∈ u_ws C T N, w ∈ Ts) (hown : s.vm.findClass own = some m.cls) (hK : va_K X.1 cl tys s) (hW : fw_W cl sh V X σ H) (t : fw_T) (hV : V t) {fl : List (fw_T ⊕ Nat)} (hsh : sh t = .inr (.inr (ci, fl))) (hc : cl[ci]? = some (C, T, N)) (k : Nat) (hk : k < N) (hlink : (Cond.fieldLink own index ref (T k).2.1 (T k).2.2.1).before args s = true) (hsame : ∀ x, s.fieldFound? (T k).1 (T k).2.1 (T k).2.2.1 = some x → s.fieldFound? ref (T k).2.1 (T k).2.2.1 = some x) {f : fw_T ⊕ Nat} (hf : fl[k]? = some f) {v : Value} (hv : fw_fv X.2.2 (σ t) f = v) (hdg : decode cc pc = .ok (.getfield index, 3))
    (kk : W p l e R s m args below meth c H locs cells slots Q (F0 m (pc + 3) ls (v :: rest))) : W p l e R s m args below meth c H locs cells slots Q (F0 m pc ls (.ref (X.2.2 t) :: rest)) := by
  have h1 := hW t hV
  rw [hsh] at h1
  have hP : va_P X.1 cl [(X.2.2 t, .inr (ci, fl.map (fw_fv X.2.2 (σ t))))] H := fun j q hq => by
    cases j with
    | zero => cases hq; exact h1
    | succ j => simp at hq
  subst hv
  exact va_get (D := X.1) (ci := ci) (v := fw_fv X.2.2 (σ t) f) (C := C) (T := T) (N := N) hexec hb hts hin hown hK hP 0 rfl hc k hk hlink hsame (by rw [List.getElem?_map, hf]; rfl) hdg kk
/-- putfield of a number of a tag's object -/
theorem fw_put (hexec : p.tables.exec = Jvm.exec) (hb : c.code = cc) {own ref C : String} {T : u_T} {N ci index : Nat} {Ts : List Cond} (hts : ∀ w ∈ Ts, w.before args s = true) (hin : ∀ w ∈ u_ws C T N, w ∈ Ts) (ty0 : Nat → FieldType) (hty : ∀ k, k < N → parseFieldDescriptor (T k).2.2.1 = some (ty0 k)) (hnm : ∀ a, a < N → ∀ b, b < N → a ≠ b → (T a).2.1 ≠ (T b).2.1) (hown : s.vm.findClass own = some m.cls) (hK : va_K X.1 cl tys s) (hW : fw_W cl sh V X σ H) (hI : fw_I V X) (hA : ∀ t, V t → A (X.2.2 t)) (hS0 : va_S A H0 H locs) (t : fw_T) (hV : V t) {fl : List (fw_T ⊕ Nat)} (hsh : sh t = .inr (.inr (ci, fl))) (hok : fw_ok 0 fl = true) (hc : cl[ci]? = some (C, T, N)) (k : Nat) (hk : k < N) (hlink : (Cond.fieldLink own index ref (T k).2.1 (T k).2.2.1).before args s = true) (hsame : ∀ x, s.fieldFound? (T k).1 (T k).2.1 (T k).2.2.1 = some x → s.fieldFound? ref (T k).2.1 (T k).2.2.1 = some x) (hfin : (T k).2.2.2 = false) (hf : fl[k]? = some (.inr k)) {ty : FieldType} {x : Int32} (hd : parseFieldDescriptor (T k).2.2.1 = some ty) (hn : narrow ty (.int x) = .int x) (hfit : fits ty (.int x) = true)
    (hdg : decode cc pc = .ok (.putfield index, 3)) (kk : ∀ (H1 : Heap) (locs1 : List Loc), fw_W cl sh V X (fw_st σ t k x) H1 → va_S A H0 H1 locs1 → W p l e R s m args below meth c H1 locs1 cells slots Q (F0 m (pc + 3) ls rest)) : W p l e R s m args below meth c H locs cells slots Q (F0 m pc ls (.int x :: .ref (X.2.2 t) :: rest)) := by
  have hap := va_apart (own := own) hts hin ty0 hty hnm hK hc
  have h0 := hW t hV
  rw [hsh] at h0
  obtain ⟨r, h1, cell, q1, q2, q3, q4⟩ := h0
  have hr : r = (C, T, N) := Option.some.inj (h1.symm.trans hc)
  subst hr
  obtain ⟨hS, hfc, kC, hkC, hkind⟩ := hK.1 ci _ hc
  obtain ⟨cf, kf, fi, f, hi, hsl⟩ := hS k hk
  have hlay := hts _ (hin _ (u_in_lay hk))
  unfold u_lay at hlay
  rw [if_neg (by rw [hfin]; decide)] at hlay
  have hst := (u_facts hfc hkC (u_lays hts hin hk) hi).1
  have h6 := u_store hfc hkC hkind hlay hi hd hn hfit
  have hlen : k < (fl.map (fw_fv X.2.2 (σ t))).length := by rw [List.length_map]; exact (List.getElem?_eq_some_iff.mp hf).1
  refine W.putK hexec hb (f := f) ⟨hown, hlink, ⟨_, _, _, hsame _ hi⟩, hst⟩ (by rw [q2]; exact h6) q1 q3 (by rw [hsl]; exact k2_hasslot (q4 k hk)) rfl rfl hdg fun H' e1 e2 e3 => ?_
  rw [hsl] at e1 ⊢
  refine kk H' _ (hW.store hI hV ?_ e3) (hS0.put e2 e3 (hA t hV))
  rw [hsh]
  show ∃ r : vw_C, cl[ci]? = some r ∧ t_OB (X.2.2 t) (X.1.1 ci) r.2.2 (X.1.2 ci) H' (vp_V (fl.map (fw_fv X.2.2 (upd (σ t) k x))))
  rw [fw_set hok hf]
  exact ⟨_, hc, t_OB.to (V := updV (vp_V (fl.map (fw_fv X.2.2 (σ t)))) k (.int x)) ⟨_, e1, q2, q3, t_set q4 hap hk (.int x)⟩ (fun j _ => vp_updV_set hlen (.int x) j)⟩
theorem fw_iald (hexec : p.tables.exec = Jvm.exec) (hb : c.code = cc) (hK : va_K X.1 cl tys s) (hW : fw_W cl sh V X σ H) (t : fw_T) (hV : V t) {q n : Nat} (hsh : sh t = .inl (q, n)) (t0 : Nat) (ht : tys[t0]? = some (X.2.1 q, .int)) {i : Int32} (ii : Nat) (hii : i.toNatClampNeg = ii) (hin : vp_in i n) (hdg : decode cc pc = .ok (.iaload, 1))
    (kk : W p l e R s m args below meth c H locs cells slots Q (F0 m (pc + 1) ls (.int (σ t ii) :: rest))) : W p l e R s m args below meth c H locs cells slots Q (F0 m pc ls (.int i :: .ref (X.2.2 t) :: rest)) := by
  have ha := hW t hV
  rw [hsh] at ha
  have hlt : i.toNatClampNeg < n := Nat.not_le.mp fun q => hin (Or.inr q)
  subst hii
  exact W.iald (v := .int (σ t i.toNatClampNeg)) hexec hb ha ((hK.2 t0 _ ht).1 n (fun j => .int (σ t j))) (fun q => by cases q) (by show ¬ (i < 0 ∨ (arrV _ _ _).slots.size ≤ _); rw [arrV_size]; exact hin) (by show (arrV _ _ _).slots[_]? = _; rw [arrV_read _ _ hlt]) rfl rfl hdg kk
theorem fw_zald (hexec : p.tables.exec = Jvm.exec) (hb : c.code = cc) (hK : va_K X.1 cl tys s) (hW : fw_W cl sh V X σ H) (t : fw_T) (hV : V t) {q n : Nat} (hsh : sh t = .inl (q, n)) (t0 : Nat) (ht : tys[t0]? = some (X.2.1 q, .boolean)) {i : Int32} (ii : Nat) (hii : i.toNatClampNeg = ii) (hin : vp_in i n) (hdg : decode cc pc = .ok (.baload, 1))
    (kk : W p l e R s m args below meth c H locs cells slots Q (F0 m (pc + 1) ls (.int (σ t ii) :: rest))) : W p l e R s m args below meth c H locs cells slots Q (F0 m pc ls (.int i :: .ref (X.2.2 t) :: rest)) := by
  have ha := hW t hV
  rw [hsh] at ha
  have hlt : i.toNatClampNeg < n := Nat.not_le.mp fun q => hin (Or.inr q)
  subst hii
  exact W.zald (v := .int (σ t i.toNatClampNeg)) hexec hb ha ((hK.2 t0 _ ht).1 n (fun j => .int (σ t j))) (fun q => by cases q) (by show ¬ (i < 0 ∨ (arrV _ _ _).slots.size ≤ _); rw [arrV_size]; exact hin) (by show (arrV _ _ _).slots[_]? = _; rw [arrV_read _ _ hlt]) rfl rfl hdg kk
theorem fw_aald (hexec : p.tables.exec = Jvm.exec) (hb : c.code = cc) (hK : va_K X.1 cl tys s) (hW : fw_W cl sh V X σ H) (t : fw_T) (hV : V t) {q n : Nat} {g : Nat → fw_T} (hsh : sh t = .inr (.inl (q, n, g))) (t0 : Nat) {ty : FieldType} (ht : tys[t0]? = some (X.2.1 q, ty)) (hty : ty.isReference = true) {i : Int32} (ii : Nat) (hii : i.toNatClampNeg = ii) (t2 : fw_T) (ht2 : g ii = t2) (hin : vp_in i n) (hdg : decode cc pc = .ok (.aaload, 1))
    (kk : W p l e R s m args below meth c H locs cells slots Q (F0 m (pc + 1) ls (.ref (X.2.2 t2) :: rest))) : W p l e R s m args below meth c H locs cells slots Q (F0 m pc ls (.int i :: .ref (X.2.2 t) :: rest)) := by
  have ha := hW t hV
  rw [hsh] at ha
  have hlt : i.toNatClampNeg < n := Nat.not_le.mp fun q => hin (Or.inr q)
  subst hii
  subst ht2
  exact W.aald (v := .ref (X.2.2 (g i.toNatClampNeg))) (ty := ty) hexec hb ha ((hK.2 t0 _ ht).1 n (fun j => va_rf (some (X.2.2 (g j))))) hty (fun q => by cases q) (by show ¬ (i < 0 ∨ (arrV _ _ _).slots.size ≤ _); rw [arrV_size]; exact hin) (by show (arrV _ _ _).slots[_]? = _; rw [arrV_read _ _ hlt]; rfl) rfl rfl hdg kk
theorem fw_alen (hexec : p.tables.exec = Jvm.exec) (hb : c.code = cc) (hK : va_K X.1 cl tys s) (hW : fw_W cl sh V X σ H) (t : fw_T) (hV : V t) {q n : Nat} (hsh : sh t = .inl (q, n)) (t0 : Nat) {ty : FieldType} (ht : tys[t0]? = some (X.2.1 q, ty)) {v : Int32} (hv : Int32.ofNat n = v) (hdg : decode cc pc = .ok (.arraylength, 1))
    (kk : W p l e R s m args below meth c H locs cells slots Q (F0 m (pc + 1) ls (.int v :: rest))) : W p l e R s m args below meth c H locs cells slots Q (F0 m pc ls (.ref (X.2.2 t) :: rest)) := by
  subst hv
  have ha := hW t hV
  rw [hsh] at ha
  exact W.alen (n := Int32.ofNat n) hexec hb ha ((hK.2 t0 _ ht).1 n (fun j => .int (σ t j))) (by rw [vp_cell_i, arrV_size] <;> rfl) rfl rfl hdg kk
theorem fw_iast (hexec : p.tables.exec = Jvm.exec) (hb : c.code = cc) (hK : va_K X.1 cl tys s) (hW : fw_W cl sh V X σ H) (hI : fw_I V X) (hA : ∀ t, V t → A (X.2.2 t)) (hS : va_S A H0 H locs) (t : fw_T) (hV : V t) {q n : Nat} (hsh : sh t = .inl (q, n)) (t0 : Nat) (ht : tys[t0]? = some (X.2.1 q, .int)) {i x : Int32} (ii : Nat) (hii : i.toNatClampNeg = ii) (hin : vp_in i n) (hdg : decode cc pc = .ok (.iastore, 1))
    (kk : ∀ (H1 : Heap) (locs1 : List Loc), fw_W cl sh V X (fw_st σ t ii x) H1 → va_S A H0 H1 locs1 → W p l e R s m args below meth c H1 locs1 cells slots Q (F0 m (pc + 1) ls rest)) : W p l e R s m args below meth c H locs cells slots Q (F0 m pc ls (.int x :: .int i :: .ref (X.2.2 t) :: rest)) := by
  have ha := hW t hV
  rw [hsh] at ha
  subst hii
  refine W.iast hexec hb ha ((hK.2 t0 _ ht).1 n (fun j => .int (σ t j))) (fun q => by cases q) (by show ¬ (i < 0 ∨ (arrV _ _ _).slots.size ≤ _); rw [arrV_size]; exact hin) rfl rfl hdg fun H1 e z oq => ?_
  refine kk H1 _ (hW.store hI hV ?_ oq) (hS.put z oq (hA t hV))
  rw [hsh]
  show H1[X.2.2 t]? = some (vp_cell _ _)
  rw [e]
  show some ((vp_cell (X.2.1 q) (n, .inl (σ t))).setSlot _ _) = _
  rw [vp_cell_i, vp_cell_i, arrV_store]
  congr 2
  funext j
  by_cases hj : j = i.toNatClampNeg
  · subst hj
    simp [updV, upd]
  · simp [updV, upd, hj]
theorem fw_zast (hexec : p.tables.exec = Jvm.exec) (hb : c.code = cc) (hK : va_K X.1 cl tys s) (hW : fw_W cl sh V X σ H) (hI : fw_I V X) (hA : ∀ t, V t → A (X.2.2 t)) (hS : va_S A H0 H locs) (t : fw_T) (hV : V t) {q n : Nat} (hsh : sh t = .inl (q, n)) (t0 : Nat) (ht : tys[t0]? = some (X.2.1 q, .boolean)) {i x : Int32} (hx : narrow .boolean (.int x) = .int x) (ii : Nat) (hii : i.toNatClampNeg = ii) (hin : vp_in i n) (hdg : decode cc pc = .ok (.bastore, 1))
    (kk : ∀ (H1 : Heap) (locs1 : List Loc), fw_W cl sh V X (fw_st σ t ii x) H1 → va_S A H0 H1 locs1 → W p l e R s m args below meth c H1 locs1 cells slots Q (F0 m (pc + 1) ls rest)) : W p l e R s m args below meth c H locs cells slots Q (F0 m pc ls (.int x :: .int i :: .ref (X.2.2 t) :: rest)) := by
  have ha := hW t hV
  rw [hsh] at ha
  subst hii
  refine W.zast hexec hb ha ((hK.2 t0 _ ht).1 n (fun j => .int (σ t j))) (fun q => by cases q) (by show ¬ (i < 0 ∨ (arrV _ _ _).slots.size ≤ _); rw [arrV_size]; exact hin) rfl rfl hdg fun H1 e z oq => ?_
  refine kk H1 _ (hW.store hI hV ?_ oq) (hS.put z oq (hA t hV))
  rw [hsh]
  show H1[X.2.2 t]? = some (vp_cell _ _)
  rw [e, hx]
  show some ((vp_cell (X.2.1 q) (n, .inl (σ t))).setSlot _ _) = _
  rw [vp_cell_i, vp_cell_i, arrV_store]
  congr 2
  funext j
  by_cases hj : j = i.toNatClampNeg
  · subst hj
    simp [updV, upd]
  · simp [updV, upd, hj]
end FWR
/-- the world of a family, with what the tables say of its classes -/
def fw_O (cl : List vw_C) (sh : fw_T → fw_H) (V : fw_T → Prop) (tys : (Nat → ClassId) → List (ClassId × FieldType)) (X : fw_X) (σ : fw_S) (U : State) : Prop := fw_W cl sh V X σ U.heap ∧ va_K X.1 cl (tys X.2.1) U ∧ va_Nw fw_nb U
theorem fw_O.moved {cl : List vw_C} {sh : fw_T → fw_H} {V : fw_T → Prop} {tys : (Nat → ClassId) → List (ClassId × FieldType)} {X : fw_X} {σ : fw_S} {U : State} (g : JFrame) (mk : MethodId) (a : Array Value) (h : fw_O cl sh V tys X σ U) : fw_O cl sh V tys X σ (U.calling g mk a) := ⟨h.1, va_K.moved (u := U) (U := U.calling g mk a) (Vm.Alike.refl U.vm) h.2.1, va_Nw.same (u := U) rfl rfl h.2.2⟩
/-- contracts over a family: an int method, a void method -/
def fw_Mi (cl : List vw_C) (sh : fw_T → fw_H) (V : fw_T → Prop) (tys : (Nat → ClassId) → List (ClassId × FieldType)) (l : Launch) (y : MethodName) (ws : List Cond) (rm : Room) (X : fw_X) (σ : fw_S) (av : List Value) (out : Int32 × fw_S) : Prop :=
  Met l y ws rm (va_Pc av (fun U => fw_O cl sh V tys X σ U)) (va_Qi (fun r u => (r, u) = out) (fun u t => fw_O cl sh V tys X u t) (fw_A V X)) 0 0 (fw_A V X)
def fw_Mv (cl : List vw_C) (sh : fw_T → fw_H) (V : fw_T → Prop) (tys : (Nat → ClassId) → List (ClassId × FieldType)) (l : Launch) (y : MethodName) (ws : List Cond) (rm : Room) (X : fw_X) (σ : fw_S) (av : List Value) (out : fw_S) : Prop :=
  Met l y ws rm (va_Pc av (fun U => fw_O cl sh V tys X σ U)) (va_Qv (fun u => u = out) (fun u t => fw_O cl sh V tys X u t) (fw_A V X)) 0 0 (fw_A V X)
/-- an int method that wants more of its start -/
def fw_MiE (cl : List vw_C) (sh : fw_T → fw_H) (V : fw_T → Prop) (tys : (Nat → ClassId) → List (ClassId × FieldType)) (Ex : State → Prop) (l : Launch) (y : MethodName) (ws : List Cond) (rm : Room) (X : fw_X) (σ : fw_S) (av : List Value) (out : Int32 × fw_S) : Prop :=
  Met l y ws rm (va_Pc av (fun U => fw_O cl sh V tys X σ U ∧ Ex U)) (va_Qi (fun r u => (r, u) = out) (fun u t => fw_O cl sh V tys X u t) (fw_A V X)) 0 0 (fw_A V X)
section FWC
variable {cl : List vw_C} {sh : fw_T → fw_H} {V : fw_T → Prop} {tys : (Nat → ClassId) → List (ClassId × FieldType)} {l : Launch} {y : MethodName} {ws ws' : List Cond} {rm : Room} {X : fw_X} {σ : fw_S} {av : List Value} {cc : ByteArray} {maxL : Nat} {ret : Option FieldType}
theorem fw_Mi_of {out : Int32 × fw_S} (hy : plainName y.cls = true) (hw : ws = Cond.code y cc maxL ret :: ws') (hn : (lg_sl av).length ≤ maxL)
    (body : ∀ (p : Program) (e : Env) (s : State) (m : MethodId) (below : List Frame) (meth : Method) (c : Code) (ls : Array Slot), p.tables.exec = Jvm.exec → c.code = cc → meth.sig.returnType = ret → c.maxLocals = maxL → meth.locks = false → s.vm.findClass y.cls = some m.cls → (∀ w ∈ ws, w.before av.toArray s = true) → va_K X.1 cl (tys X.2.1) s → va_Nw fw_nb s → fw_W cl sh V X σ s.heap → lv_has ls maxL (lv_args 0 av) →
      W p l e rm s m av.toArray below meth c s.heap [] 0 0 (MQ below (va_Qi (fun r u => (r, u) = out) (fun u t => fw_O cl sh V tys X u t) (fw_A V X)) av.toArray s 0 0 (fw_A V X)) (F0 m 0 ls [])) : fw_Mi cl sh V tys l y ws rm X σ av out := by
  refine Met.ofW (cc := cc) (maxL := maxL) (ret := ret) hy hw ?_
  intro p e s m args below meth c s₁ B hml hv
  obtain ⟨rfl, hW, hK, hnb⟩ := hv
  have hl := lv_entry av (n := maxL) hn
  rw [lg_entry_eq]
  exact body p e s m below meth c _ B.exec B.bytes B.returns hml B.notSynchronized (findClass_of_methodNamed B.named) (atoms_spec (ws := ws) B.pre) hK hnb hW hl
theorem fw_MiE_of {Ex : State → Prop} {out : Int32 × fw_S} (hy : plainName y.cls = true) (hw : ws = Cond.code y cc maxL ret :: ws') (hn : (lg_sl av).length ≤ maxL)
    (body : ∀ (p : Program) (e : Env) (s : State) (m : MethodId) (below : List Frame) (meth : Method) (c : Code) (ls : Array Slot), p.tables.exec = Jvm.exec → c.code = cc → meth.sig.returnType = ret → c.maxLocals = maxL → meth.locks = false → s.vm.findClass y.cls = some m.cls → (∀ w ∈ ws, w.before av.toArray s = true) → va_K X.1 cl (tys X.2.1) s → va_Nw fw_nb s → fw_W cl sh V X σ s.heap → Ex s → lv_has ls maxL (lv_args 0 av) →
      W p l e rm s m av.toArray below meth c s.heap [] 0 0 (MQ below (va_Qi (fun r u => (r, u) = out) (fun u t => fw_O cl sh V tys X u t) (fw_A V X)) av.toArray s 0 0 (fw_A V X)) (F0 m 0 ls [])) : fw_MiE cl sh V tys Ex l y ws rm X σ av out := by
  refine Met.ofW (cc := cc) (maxL := maxL) (ret := ret) hy hw ?_
  intro p e s m args below meth c s₁ B hml hv
  obtain ⟨rfl, ⟨hW, hK, hnb⟩, hE⟩ := hv
  have hl := lv_entry av (n := maxL) hn
  rw [lg_entry_eq]
  exact body p e s m below meth c _ B.exec B.bytes B.returns hml B.notSynchronized (findClass_of_methodNamed B.named) (atoms_spec (ws := ws) B.pre) hK hnb hW hE hl
theorem fw_Mv_of {out : fw_S} (hy : plainName y.cls = true) (hw : ws = Cond.code y cc maxL ret :: ws') (hn : (lg_sl av).length ≤ maxL)
    (body : ∀ (p : Program) (e : Env) (s : State) (m : MethodId) (below : List Frame) (meth : Method) (c : Code) (ls : Array Slot), p.tables.exec = Jvm.exec → c.code = cc → meth.sig.returnType = ret → c.maxLocals = maxL → meth.locks = false → s.vm.findClass y.cls = some m.cls → (∀ w ∈ ws, w.before av.toArray s = true) → va_K X.1 cl (tys X.2.1) s → va_Nw fw_nb s → fw_W cl sh V X σ s.heap → lv_has ls maxL (lv_args 0 av) →
      W p l e rm s m av.toArray below meth c s.heap [] 0 0 (MQ below (va_Qv (fun u => u = out) (fun u t => fw_O cl sh V tys X u t) (fw_A V X)) av.toArray s 0 0 (fw_A V X)) (F0 m 0 ls [])) : fw_Mv cl sh V tys l y ws rm X σ av out := by
  refine Met.ofW (cc := cc) (maxL := maxL) (ret := ret) hy hw ?_
  intro p e s m args below meth c s₁ B hml hv
  obtain ⟨rfl, hW, hK, hnb⟩ := hv
  have hl := lv_entry av (n := maxL) hn
  rw [lg_entry_eq]
  exact body p e s m below meth c _ B.exec B.bytes B.returns hml B.notSynchronized (findClass_of_methodNamed B.named) (atoms_spec (ws := ws) B.pre) hK hnb hW hl
variable {p : Program} {e : Env} {R : Room} {s : State} {m : MethodId} {args : Array Value} {below : List Frame} {meth : Method} {c : Code} {H : Heap} {locs : List Loc} {cells slots : Nat} {Q : State → Prop} {pc : Nat} {ls : Array Slot} {rest : List Value} {A : Nat → Prop} {H0 : Heap}
theorem fw_iret (hexec : p.tables.exec = Jvm.exec) (hb : c.code = cc) (hr : meth.sig.returnType = some .int) (hlocks : meth.locks = false) (hK : va_K X.1 cl (tys X.2.1) s) (hnb : va_Nw fw_nb s) (hW : fw_W cl sh V X σ H) (hS : va_S (fw_A V X) s.heap H locs) {v : Int32} {out : Int32 × fw_S} (ho : out = (v, σ)) (hdg : decode cc pc = .ok (.ireturn, 1)) :
    W p l e R s m args below meth c H locs 0 0 (MQ below (va_Qi (fun r u => (r, u) = out) (fun u t => fw_O cl sh V tys X u t) (fw_A V X)) args s 0 0 (fw_A V X)) (F0 m pc ls [.int v]) :=
  W.iret (v := v) hexec hb hr (fun t ht hW' => ⟨⟨v, σ, rfl, ho.symm, by rw [ht]; exact hW, va_K.moved hW'.alike hK, va_Nw.warmM hW' hnb⟩, hS.F ht⟩) hS.2.2 hdg hlocks
theorem fw_zret (hexec : p.tables.exec = Jvm.exec) (hb : c.code = cc) (hr : meth.sig.returnType = some .boolean) (hlocks : meth.locks = false) (hK : va_K X.1 cl (tys X.2.1) s) (hnb : va_Nw fw_nb s) (hW : fw_W cl sh V X σ H) (hS : va_S (fw_A V X) s.heap H locs) {v : Int32} (hv : v = 0 ∨ v = 1) {out : Int32 × fw_S} (ho : out = (v, σ)) (hdg : decode cc pc = .ok (.ireturn, 1)) :
    W p l e R s m args below meth c H locs 0 0 (MQ below (va_Qi (fun r u => (r, u) = out) (fun u t => fw_O cl sh V tys X u t) (fw_A V X)) args s 0 0 (fw_A V X)) (F0 m pc ls [.int v]) :=
  W.zret (v := v) (ty := .boolean) hexec hb hr (by rcases hv with rfl | rfl <;> rfl) (fun t ht hW' => ⟨⟨v, σ, rfl, ho.symm, by rw [ht]; exact hW, va_K.moved hW'.alike hK, va_Nw.warmM hW' hnb⟩, hS.F ht⟩) hS.2.2 hdg hlocks
theorem fw_vret (hexec : p.tables.exec = Jvm.exec) (hb : c.code = cc) (hr : meth.sig.returnType = none) (hlocks : meth.locks = false) (hK : va_K X.1 cl (tys X.2.1) s) (hnb : va_Nw fw_nb s) (hW : fw_W cl sh V X σ H) (hS : va_S (fw_A V X) s.heap H locs) {out : fw_S} (ho : out = σ) (hdg : decode cc pc = .ok (.return_, 1)) :
    W p l e R s m args below meth c H locs 0 0 (MQ below (va_Qv (fun u => u = out) (fun u t => fw_O cl sh V tys X u t) (fw_A V X)) args s 0 0 (fw_A V X)) (F0 m pc ls []) :=
  W.vret hexec hb hr (fun t ht hW' => ⟨⟨σ, rfl, ho.symm, by rw [ht]; exact hW, va_K.moved hW'.alike hK, va_Nw.warmM hW' hnb⟩, hS.F ht⟩) hS.2.2 hdg hlocks
/-- what a call of a contract over the family wants of its start -/
theorem fw_preV (hK : va_K X.1 cl (tys X.2.1) s) (hnb : va_Nw fw_nb s) (hW : fw_W cl sh V X σ H) (t : fw_T) (hV : V t) {ci : Nat} {fl : List (fw_T ⊕ Nat)} (hsh : sh t = .inr (.inr (ci, fl))) {C : String} {T : u_T} {N : Nat} (hc : cl[ci]? = some (C, T, N)) (As : List Value) : PreV s H C (X.2.2 t) (va_Pc (.ref (X.2.2 t) :: As) (fun U => fw_O cl sh V tys X σ U)) As := by
  refine ⟨fun a U g mk q => ⟨q.1, fw_O.moved g mk a q.2⟩, ?_, fun U hU hW' => ⟨rfl, by rw [hU]; exact hW, va_K.moved hW'.alike hK, va_Nw.warmM hW' hnb⟩⟩
  have h0 := hW t hV
  rw [hsh] at h0
  obtain ⟨r, h1, cell, g1, g2, g3, -⟩ := h0
  exact ⟨cell, g1, by rw [g3]; rfl, by rw [g2]; exact (hK.1 ci _ hc).2.1⟩
theorem fw_preS (hK : va_K X.1 cl (tys X.2.1) s) (hnb : va_Nw fw_nb s) (hW : fw_W cl sh V X σ H) (As : List Value) : PreS s H (va_Pc As (fun U => fw_O cl sh V tys X σ U)) As :=
  ⟨fun a U g mk q => ⟨q.1, fw_O.moved g mk a q.2⟩, fun U hU hW' => ⟨rfl, by rw [hU]; exact hW, va_K.moved hW'.alike hK, va_Nw.warmM hW' hnb⟩⟩
/-- behind a call, within the family -/
theorem fw_ki {out : Int32 × fw_S} {a : Array Value} {st0 : List Value} (hr : va_Run p l e R s m args below meth c H locs cells slots 0 0 (F0 m pc ls st0) rest (va_Qi (fun r u => (r, u) = out) (fun u t => fw_O cl sh V tys X u t) (fw_A V X) a) (fw_A V X)) (hS : va_S (fw_A V X) H0 H locs)
    (kk : ∀ (r : Int32) (σ' : fw_S) (H1 : Heap) (locs1 : List Loc), out = (r, σ') → fw_W cl sh V X σ' H1 → va_S (fw_A V X) H0 H1 locs1 → W p l e R s m args below meth c H1 locs1 cells slots Q (F0 m (pc + 3) ls (.int r :: rest))) : W p l e R s m args below meth c H locs cells slots Q (F0 m pc ls st0) :=
  va_calli hr hS (fun _ _ h => h) (fun _ h => h) (fun r u t H1 locs1 ht _ hp hB _ _ hS1 => kk r u H1 locs1 hp.symm (by have h := hB.1; rw [ht] at h; exact h) hS1)
theorem fw_kv {out : fw_S} {a : Array Value} {st0 : List Value} (hr : va_Run p l e R s m args below meth c H locs cells slots 0 0 (F0 m pc ls st0) rest (va_Qv (fun u => u = out) (fun u t => fw_O cl sh V tys X u t) (fw_A V X) a) (fw_A V X)) (hS : va_S (fw_A V X) H0 H locs)
    (kk : ∀ (H1 : Heap) (locs1 : List Loc), fw_W cl sh V X out H1 → va_S (fw_A V X) H0 H1 locs1 → W p l e R s m args below meth c H1 locs1 cells slots Q (F0 m (pc + 3) ls rest)) : W p l e R s m args below meth c H locs cells slots Q (F0 m pc ls st0) :=
  va_callv hr hS (fun _ _ h => h) (fun _ h => h) (fun u t H1 locs1 ht _ hp hB _ _ hS1 => kk H1 locs1 (by have h := hB.1; rw [ht, hp] at h; exact h) hS1)
/-- behind a call out of a larger world: what lies outside the family is as it was -/
theorem fw_kiL {out : Int32 × fw_S} {a : Array Value} {st0 : List Value} (hr : va_Run p l e R s m args below meth c H locs cells slots 0 0 (F0 m pc ls st0) rest (va_Qi (fun r u => (r, u) = out) (fun u t => fw_O cl sh V tys X u t) (fw_A V X) a) (fw_A V X)) (hA : ∀ t, V t → A (X.2.2 t)) (hS : va_S A H0 H locs)
    (kk : ∀ (r : Int32) (σ' : fw_S) (H1 : Heap) (locs1 : List Loc), out = (r, σ') → fw_W cl sh V X σ' H1 → (∀ q : Nat, q < H.size → ¬ fw_A V X q → H1[q]? = H[q]?) → va_S A H0 H1 locs1 → W p l e R s m args below meth c H1 locs1 cells slots Q (F0 m (pc + 3) ls (.int r :: rest))) : W p l e R s m args below meth c H locs cells slots Q (F0 m pc ls st0) :=
  va_calli hr hS (fun _ _ ⟨u, hu, h⟩ => h ▸ hA u hu) (fun _ ⟨u, hu, h⟩ => h ▸ hA u hu) (fun r u t H1 locs1 ht _ hp hB _ hk hS1 => kk r u H1 locs1 hp.symm (by have h := hB.1; rw [ht] at h; exact h) hk hS1)
/-- behind a call of a method that only reads -/
theorem fw_kp {v : Int32} {a : Array Value} {st0 : List Value} (hr : va_Run p l e R s m args below meth c H locs cells slots 0 0 (F0 m pc ls st0) rest (va_Qi (fun r u => (r, u) = (v, σ)) (fun u t => fw_O cl sh V tys X u t) (fw_A V X) a) (fw_A V X)) (hS : va_S (fw_A V X) H0 H locs)
    (kk : ∀ (H1 : Heap) (locs1 : List Loc), fw_W cl sh V X σ H1 → va_S (fw_A V X) H0 H1 locs1 → W p l e R s m args below meth c H1 locs1 cells slots Q (F0 m (pc + 3) ls (.int v :: rest))) : W p l e R s m args below meth c H locs cells slots Q (F0 m pc ls st0) :=
  fw_ki hr hS (fun r σ' H1 locs1 ho hW hS1 => by
    obtain ⟨h1, h2⟩ := Prod.mk.inj ho
    subst h1
    subst h2
    exact kk H1 locs1 hW hS1)
end FWC
def fw_rm (d : Nat) : Room := { frames := d, cells := 0, slots := 0, locals := 40 * d }
/-- the first n numbers of one row copied to another -/
def fw_cp (σ : fw_S) (t u : fw_T) (n : Nat) : fw_S := fw_row σ u (va_cpy (σ t) (σ u) 0 0 n)
section FWD
variable {p : Program} {l : Launch} {e : Env} {R : Room} {s : State} {m : MethodId} {args : Array Value} {below : List Frame} {meth : Method} {c : Code} {H : Heap} {locs : List Loc} {cells slots : Nat} {Q : State → Prop}
variable {cc : ByteArray} {pc : Nat} {ls : Array Slot} {rest : List Value} {cl : List vw_C} {A : Nat → Prop} {tys : List (ClassId × FieldType)} {H0 : Heap} {sh : fw_T → fw_H} {V : fw_T → Prop} {X : fw_X} {σ : fw_S}
/-- System.arraycopy from the start of one row of ints to the start of another -/
theorem fw_copy (hexec : p.tables.exec = Jvm.exec) (hb : c.code = cc) (hml : c.maxLocals = ls.size) {own : String} {index : Nat} (hown : s.vm.findClass own = some m.cls) (hlink : (Cond.methodLink own index arraycopyName).before args s = true) (hnat : (Cond.native arraycopyName).before args s = true) (hstat : (Cond.static arraycopyName).before args s = true) (hini : (Cond.initialized "java/lang/System").before args s = true)
    (hK : va_K X.1 cl tys s) (hW : fw_W cl sh V X σ H) (hI : fw_I V X) (hA : ∀ t, V t → A (X.2.2 t)) (hS : va_S A H0 H locs) (t u : fw_T) (hVt : V t) (hVu : V u) {qa na qb nb : Nat} (hst : sh t = .inl (qa, na)) (hsu : sh u = .inl (qb, nb)) (t0 t1 : Nat) (ht0 : tys[t0]? = some (X.2.1 qa, .int)) (ht1 : tys[t1]? = some (X.2.1 qb, .int))
    (N : Nat) {n : Int32} (hN : n.toNatClampNeg = N) (h3 : ¬ n < 0) (h4 : N ≤ na) (h5 : N ≤ nb) (hframes : 1 ≤ R.frames) (hlocals : (rest.map fun v => v.category).sum + (nativeFrameWords "java/lang/System" "arraycopy" 5 + 11) ≤ R.locals) (hdg : decode cc pc = .ok (.invokestatic index, 3))
    (kk : ∀ (H1 : Heap) (locs1 : List Loc), fw_W cl sh V X (fw_cp σ t u N) H1 → va_S A H0 H1 locs1 → W p l e R s m args below meth c H1 locs1 cells slots Q (F0 m (pc + 3) ls rest)) : W p l e R s m args below meth c H locs cells slots Q (F0 m pc ls (.int n :: .int 0 :: .ref (X.2.2 u) :: .int 0 :: .ref (X.2.2 t) :: rest)) := by
  have ha := hW t hVt
  rw [hst] at ha
  have hu := hW u hVu
  rw [hsu] at hu
  have hc0 : H[X.2.2 t]? = some (arrV (X.2.1 qa) na (fun j => .int (σ t j))) := ha
  have hc1 : H[X.2.2 u]? = some (arrV (X.2.1 qb) nb (fun j => .int (σ u j))) := hu
  have hn0 : n.toInt = (N : Int) := by
    have h6 : (0 : Int) ≤ n.toInt := by simpa using Int32.le_iff_toInt_le.mp (Int32.not_lt.mp h3)
    rw [← hN]
    show n.toInt = ((n.toInt.toNat : Nat) : Int)
    omega
  have hz : (0 : Int32).toInt = 0 := by decide
  intro T hT X1
  obtain ⟨-, k0, hk0, cm0, hkk0⟩ := (hK.2 t0 _ ht0).1 na (fun j => .int (σ t j))
  obtain ⟨-, k1, hk1, cm1, hkk1⟩ := (hK.2 t1 _ ht1).1 nb (fun j => .int (σ u j))
  obtain ⟨vm', X', step⟩ := X1.arraycopy hexec hown hlink hnat hstat hini (src := X.2.2 t) (dst := X.2.2 u) (srcPos := 0) (destPos := 0) (n := n) (by rw [hT]; exact hc0) (by rw [hT]; exact hc1)
    (fun _ h => by cases h) (fun _ h => by cases h) (fun h => by cases h) (fun h => by cases h) hk0 hk1 hkk0 hkk1 (by simp [refKind]) (by decide) (by decide) h3
    (by rw [hn0, hz, arrV_size]; omega) (by rw [hn0, hz, arrV_size]; omega)
    (fun vm₁ _ i hi => by
      have h7 : i < na := by omega
      have h8 : (arrV (X.2.1 qa) na (fun j => .int (σ t j))).slots.getD ((0 : Int32).toNatClampNeg + i) .null = .int (σ t i) := by
        rw [sb_cl0, Nat.zero_add, Array.getD_eq_getD_getElem?, arrV_read _ _ h7]
        rfl
      rw [h8]
      exact ⟨rfl, trivial⟩)
    (g := F0 m pc ls (.int n :: .int 0 :: .ref (X.2.2 u) :: .int 0 :: .ref (X.2.2 t) :: rest)) rfl (by rw [hml]) (rest := rest) rfl (by rw [hb]; exact hdg) hframes (by show 2 * 0 + _ + _ ≤ _; omega)
  have e1 : copied (arrV (X.2.1 qa) na (fun j => .int (σ t j))) (arrV (X.2.1 qb) nb (fun j => .int (σ u j))) 0 0 n = vp_cell (X.2.1 qb) (nb, .inl (va_cpy (σ t) (σ u) 0 0 N)) := by
    have h9 := va_copied (fun z => .int z) (X.2.1 qa) (X.2.1 qb) (n0 := na) (n1 := nb) (sp := 0) (dp := 0) (n := N) (σ t) (σ u) (by omega)
    rw [← hN] at h9 ⊢
    exact h9
  rw [e1] at X' step
  have hw2 : fw_W cl sh V X (fw_cp σ t u N) ((T.setVm vm').setCell (X.2.2 u) (vp_cell (X.2.1 qb) (nb, .inl (va_cpy (σ t) (σ u) 0 0 N)))).heap := by
    refine hW.store hI hVu (r := va_cpy (σ t) (σ u) 0 0 N) ?_ ?_
    · rw [hsu]
      exact heapAt_setCell_self _ (by show _ < T.heap.size; rw [hT]; exact (Array.getElem?_eq_some_iff.mp hc1).1)
    · intro q hq
      rw [heapAt_setCell_ne _ (Ne.symm hq)]
      show T.heap[q]? = _
      rw [hT]
  have z2 : H0.size ≤ ((T.setVm vm').setCell (X.2.2 u) (vp_cell (X.2.1 qb) (nb, .inl (va_cpy (σ t) (σ u) 0 0 N)))).heap.size := by
    rw [size_setCell]
    show _ ≤ T.heap.size
    rw [hT]
    exact hS.1
  have o2 : ∀ q : Nat, q < H0.size → ¬ A q → ((T.setVm vm').setCell (X.2.2 u) (vp_cell (X.2.1 qb) (nb, .inl (va_cpy (σ t) (σ u) 0 0 N)))).heap[q]? = H0[q]? := fun q g1 g2 => by
    have hne : X.2.2 u ≠ q := fun h => g2 (by rw [← h]; exact hA u hVu)
    rw [heapAt_setCell_ne _ hne]
    show T.heap[q]? = _
    rw [hT]
    exact hS.2.1 q g1 g2
  obtain ⟨t', a1, b1⟩ := kk _ _ hw2 ⟨z2, o2, fun q hq => by
    rcases List.mem_append.mp hq with h | h
    · exact hS.2.2 q h
    · obtain ⟨z, -, hz⟩ := List.mem_map.mp h
      rw [← hz]
      exact hA u hVu⟩ _ rfl X'
  exact ⟨t', step t' a1, b1⟩
end FWD
theorem vi_lt {i : Int32} {n : Nat} (h : vp_in i n) : i.toNatClampNeg < n := Nat.not_le.mp fun q => h (Or.inr q)
theorem lp_lt {x y : Int32} {j B : Nat} (hj : x = nI j) (hy : y = nI B) (hB : B < 2 ^ 31) (h : j ≤ B) (c : ¬ y ≤ x) : j < B := by
  rcases Nat.lt_or_ge j B with q | q
  · exact q
  · exact absurd (by rw [hj, hy]; exact nI_le q (by omega)) c
theorem lp_lt2 {x y : Int32} {j B : Nat} (hj : x = nI j) (hy : y = nI B) (hB : B < 2 ^ 30) (h : j ≤ B + 1) (c : ¬ y < x) : j < B + 1 := by
  rcases Nat.lt_or_ge j (B + 1) with q | q
  · exact q
  · exact absurd (by rw [hj, hy]; exact nI_lt (by omega) (by omega)) c
theorem bo_n {x : Int32} (h : x = 0 ∨ x = 1) : narrow .boolean (.int x) = .int x := by rcases h with rfl | rfl <;> rfl
theorem bo_f {x : Int32} (h : x = 0 ∨ x = 1) : fits .boolean (.int x) = true := by rcases h with rfl | rfl <;> rfl
theorem vi_of {x : Int32} {n : Nat} (h0 : 0 ≤ x.toInt) (h1 : x.toInt < n) : vp_in x n := vp_in_iff.mpr ⟨h0, h1⟩

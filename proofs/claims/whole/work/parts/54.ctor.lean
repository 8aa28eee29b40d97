/-! constructors' contracts: from the object's own cell on, k cells; nothing below is changed -/
def ct_w (i : Nat) : Cond := match i with
  | 0 => .arrayOver (.array .int)
  | 1 => .arrayOver (.object "TapOffice$Card")
  | 2 => .arrayOver (.object "TapOffice$Account")
  | _ => .arrayOver (.object "TapOffice$Validator")
def ct_Nw (U : State) : Prop := (∀ i, va_Nw (ct_w i) U) ∧ va_Nw (.methodLinkNest "TapOffice" 9 yT_init "TapOffice") U ∧ va_Nw (.methodLinkNest "TapOffice" 39 yA_init "TapOffice") U ∧ va_Nw (.fieldLinkNest "TapOffice$Tariff" 16 "TapOffice" "FIRST_SETTINGS" "[I" "TapOffice") U ∧ va_Nw (.fieldLinkNest "TapOffice$Card" 20 "TapOffice" "BLANK_RECORD" "[I" "TapOffice") U ∧ va_Nw (.castable "[I" "java/lang/Cloneable") U
theorem ct_over {t : FieldType} {s U : State} (hW : s.WarmedH U.vm) (h : va_Nw (.arrayOver t) s) : va_Nw (.arrayOver t) U := by
  have h1 : (Cond.arrayOver t).before #[] (s.setVm U.vm) = true := by
    rw [Cond.arrayOver_setVmC hW.alike]
    exact h
  exact h1
theorem ct_w_over (i : Nat) : ∃ t, ct_w i = .arrayOver t := by
  unfold ct_w
  split <;> exact ⟨_, rfl⟩
theorem ct_Nw.warm {s U : State} (hW : s.WarmedH U.vm) (h : ct_Nw s) : ct_Nw U := by
  obtain ⟨h1, h2, h3, h4, h5, h6⟩ := h
  refine ⟨fun i => ?_, va_Nw.warmM hW h2, va_Nw.warmM hW h3, va_Nw.warmF hW h4, va_Nw.warmF hW h5, va_Nw.warmC hW h6⟩
  obtain ⟨t, ht⟩ := ct_w_over i
  have := h1 i
  rw [ht] at this ⊢
  exact ct_over hW this
theorem ct_Nw.calling {U : State} (g : JFrame) (mk : MethodId) (a : Array Value) (h : ct_Nw U) : ct_Nw (U.calling g mk a) := by
  obtain ⟨h1, h2, h3, h4, h5, h6⟩ := h
  refine ⟨fun i => ?_, va_Nw.same (u := U) rfl rfl h2, va_Nw.same (u := U) rfl rfl h3, va_Nw.same (u := U) rfl rfl h4, va_Nw.same (u := U) rfl rfl h5, va_Nw.same (u := U) rfl rfl h6⟩
  obtain ⟨t, ht⟩ := ct_w_over i
  have := h1 i
  rw [ht] at this ⊢
  exact this
def cs_first (k : Nat) : Int32 := if k = 3 then 9999 else 0
def cs_blank (k : Nat) : Int32 := if k = 1 then -1 else if k = 5 then -1000 else 0
def ct_S (b t1 t2 : Nat) (U : State) (H : Heap) : Prop := va_Z "TapOffice" "FIRST_SETTINGS" "[I" (.ref t1) (fun q => b ≤ q) U H ∧ tb_T t1 5 cs_first (fun q => b ≤ q) U H ∧ tb_I t1 U H ∧ va_Z "TapOffice" "BLANK_RECORD" "[I" (.ref t2) (fun q => b ≤ q) U H ∧ tb_T t2 8 cs_blank (fun q => b ≤ q) U H
theorem ct_S.move {b a t1 t2 : Nat} {u U : State} {H H1 : Heap} (h : ct_S b t1 t2 u H) (hvm : u.vm.Alike U.vm) (hq : ∀ q : Nat, q < H.size → ¬ b ≤ q → H1[q]? = H[q]?) (hab : b ≤ a) : ct_S a t1 t2 U H1 := by
  obtain ⟨h1, h2, h3, h4, h5⟩ := h
  have hAB : ∀ q, a ≤ q → b ≤ q := fun q h => Nat.le_trans hab h
  refine ⟨((h1.kept hq).narrow hAB).moved hvm, (h2.kept hq hAB).moved hvm, ?_, ((h4.kept hq).narrow hAB).moved hvm, (h5.kept hq hAB).moved hvm⟩
  intro cell hc
  obtain ⟨c2, g1, g2, g3, g4, g5, g6⟩ := h2
  have e1 : H1[t1]? = H[t1]? := hq t1 (Array.getElem?_eq_some_iff.mp g1).1 g6
  rw [hvm.findClass]
  exact h3 cell (by rw [← e1]; exact hc)
def ct_O (D : va_G) (cA : Nat → ClassId) (t1 t2 a : Nat) (E0 : va_E) (U : State) : Prop := sg_W D fw_cl a 1 (fun _ => E0) U.heap ∧ va_K D fw_cl (fw_tys cA) U ∧ ct_Nw U ∧ ct_S a t1 t2 U U.heap
def ct_M (l : Launch) (y : MethodName) (ws : List Cond) (rm : Room) (D : va_G) (cA : Nat → ClassId) (t1 t2 a : Nat) (E0 : va_E) (av : List Value) (k : Nat) (E' : Nat → va_E) (mc ms : Nat) : Prop :=
  Met l y ws rm (va_Pc av (fun U => ct_O D cA t1 t2 a E0 U)) (va_Qv (fun _ : Unit => True) (fun _ t => sg_W D fw_cl a k E' t.heap) (fun q => a ≤ q)) mc ms (fun q => a ≤ q)
def ct_rm (d mc ms : Nat) : Room := { frames := d, cells := mc, slots := ms, locals := 40 * d }
def sg_cat (n : Nat) (E E' : Nat → va_E) : Nat → va_E := fun o => if o < n then E o else E' (o - n)
section CTC
variable {l : Launch} {y : MethodName} {ws ws' : List Cond} {rm : Room} {D : va_G} {cA : Nat → ClassId} {t1 t2 a : Nat} {E0 : va_E} {av : List Value} {k mc ms : Nat} {E' : Nat → va_E} {cc : ByteArray} {maxL : Nat}
theorem ct_of (hy : plainName y.cls = true) (hw : ws = Cond.code y cc maxL none :: ws') (hn : (lg_sl av).length ≤ maxL)
    (body : ∀ (p : Program) (e : Env) (s : State) (m : MethodId) (below : List Frame) (meth : Method) (c : Code) (ls : Array Slot), p.tables.exec = Jvm.exec → c.code = cc → meth.sig.returnType = none → c.maxLocals = maxL → meth.locks = false → s.vm.findClass y.cls = some m.cls → meth.name = y.name → (∀ w ∈ ws, w.before av.toArray s = true) → va_K D fw_cl (fw_tys cA) s → ct_Nw s → ct_S a t1 t2 s s.heap → sg_W D fw_cl a 1 (fun _ => E0) s.heap → lv_has ls maxL (lv_args 0 av) →
      W p l e rm s m av.toArray below meth c s.heap [] 0 0 (MQ below (va_Qv (fun _ : Unit => True) (fun _ t => sg_W D fw_cl a k E' t.heap) (fun q => a ≤ q)) av.toArray s mc ms (fun q => a ≤ q)) (F0 m 0 ls [])) : ct_M l y ws rm D cA t1 t2 a E0 av k E' mc ms := by
  refine Met.ofW (cc := cc) (maxL := maxL) (ret := none) hy hw ?_
  intro p e s m args below meth c s₁ B hml hv
  obtain ⟨rfl, hW, hK, hNw, hSt⟩ := hv
  have hl := lv_entry av (n := maxL) hn
  rw [lg_entry_eq]
  exact body p e s m below meth c _ B.exec B.bytes B.returns hml B.notSynchronized (findClass_of_methodNamed B.named) (name_of_methodNamed B.named B.method).1 (atoms_spec (ws := ws) B.pre) hK hNw hSt hW hl
variable {p : Program} {e : Env} {R : Room} {s : State} {m : MethodId} {args : Array Value} {below : List Frame} {meth : Method} {c : Code} {H : Heap} {locs : List Loc} {cells slots : Nat} {Q : State → Prop} {pc : Nat} {ls : Array Slot} {rest : List Value} {A : Nat → Prop} {H0 : Heap} {b n : Nat} {E : Nat → va_E}
theorem ct_ret (hexec : p.tables.exec = Jvm.exec) (hb : c.code = cc) (hr : meth.sig.returnType = none) (hlocks : meth.locks = false) (hW : sg_W D fw_cl a k E' H) (hS : va_S (fun q => a ≤ q) s.heap H locs) (h1 : cells ≤ mc) (h2 : slots ≤ ms) (hdg : decode cc pc = .ok (.return_, 1)) :
    W p l e R s m args below meth c H locs cells slots (MQ below (va_Qv (fun _ : Unit => True) (fun _ t => sg_W D fw_cl a k E' t.heap) (fun q => a ≤ q)) args s mc ms (fun q => a ≤ q)) (F0 m pc ls []) :=
  W.widen h1 h2 (W.vret hexec hb hr (fun t ht _ => ⟨⟨(), rfl, trivial, by show sg_W D fw_cl a k E' t.heap; rw [ht]; exact hW⟩, hS.F ht⟩) hS.2.2 hdg hlocks)
theorem sg_one {o : Nat} {E1 : va_E} (hW : sg_W D fw_cl b (n + 1) E H) (he : E n = E1) : sg_W D fw_cl (b + n) 1 (fun _ => E1) H := by
  refine sg_of (by have := hW.1; omega) (fun o ho => ?_)
  have e0 : o = 0 := by omega
  subst e0
  have h := hW.to n (Nat.lt_succ_self n)
  rw [he] at h
  exact h
theorem ct_pre (hK : va_K D fw_cl (fw_tys cA) s) (hNw : ct_Nw s) (hSt : ct_S b t1 t2 s s.heap) (hW : sg_W D fw_cl b (n + 1) E H) (hS : va_S (fun q => b ≤ q) s.heap H locs) {E1 : va_E} (he : E n = E1) (As : List Value) : PreS s H (va_Pc (.ref (b + n) :: As) (fun U => ct_O D cA t1 t2 (b + n) E1 U)) (.ref (b + n) :: As) := by
  refine ⟨fun a U g mk q => ⟨q.1, q.2.1, va_K.moved (u := U) (U := U.calling g mk a) (Vm.Alike.refl U.vm) q.2.2.1, ct_Nw.calling g mk a q.2.2.2.1, ?_⟩, fun U hU hW' => ⟨rfl, by rw [hU]; exact sg_one (o := 0) hW he, va_K.moved hW'.alike hK, hNw.warm hW', ?_⟩⟩
  · exact q.2.2.2.2.move (u := U) (U := U.calling g mk a) (Vm.Alike.refl U.vm) (fun _ _ _ => rfl) (Nat.le_refl _)
  · rw [hU]
    exact hSt.move hW'.alike (fun q h1 h2 => hS.2.1 q h1 h2) (Nat.le_add_right b n)
theorem ct_call {aa : Array Value} {st0 : List Value} (hr : va_Run p l e R s m args below meth c H locs cells slots mc ms (F0 m pc ls st0) rest (va_Qv (fun _ : Unit => True) (fun _ t => sg_W D fw_cl (b + n) k E' t.heap) (fun q => b + n ≤ q) aa) (fun q => b + n ≤ q)) (hW : sg_W D fw_cl b (n + 1) E H) (hA : ∀ q, b ≤ q → A q) (hS : va_S A H0 H locs)
    (kk : ∀ (H1 : Heap) (locs1 : List Loc), sg_W D fw_cl b (n + k) (sg_cat n E E') H1 → va_S A H0 H1 locs1 → W p l e R s m args below meth c H1 locs1 (cells + mc) (slots + ms) Q (F0 m (pc + 3) ls rest)) : W p l e R s m args below meth c H locs cells slots Q (F0 m pc ls st0) := by
  refine va_callv hr hS (fun q _ h => hA q (by omega)) (fun q h => hA q (by omega)) (fun u t H1 locs1 ht _ _ hB _ hk hS1 => kk H1 locs1 ?_ hS1)
  rw [ht] at hB
  refine sg_of (by have := hB.1; omega) (fun o ho => ?_)
  unfold sg_cat
  by_cases h : o < n
  · rw [if_pos h]
    exact (hW.to o (by omega)).kept (hk _ (by have := hW.1; show b + o < H.size; omega) (by show ¬ b + n ≤ b + o; omega))
  · rw [if_neg h]
    have h1 := hB.to (o - n) (by omega)
    rw [show b + n + (o - n) = b + o by omega] at h1
    exact h1
end CTC

/-! TapOfficeModel(): 15 cells from its own on -/
def ctM0 (a : Nat) : va_E := .inr (5, [.ref (a + 1), .ref (a + 2), .int 0, .ref (a + 3), .ref (a + 4), .ref (a + 5), .ref (a + 6), .ref (a + 7), .ref (a + 8), .ref (a + 9), .ref (a + 10), .ref (a + 11), .int 0, .ref (a + 12), .ref (a + 13), .ref (a + 14)])
def ctMz (cA : Nat → ClassId) (o : Nat) : va_E := match o with
  | 1 => .inl (cA 0, 36, .inl (fun _ => 0))
  | 4 => .inl (cA 0, 8, .inl (fun _ => 0))
  | 6 => .inl (cA 5, 4, .inl (fun _ => 0))
  | 7 => .inl (cA 0, 128, .inl (fun _ => 0))
  | 8 => .inl (cA 0, 4, .inl (fun _ => 0))
  | 9 => .inl (cA 5, 16, .inl (fun _ => 0))
  | 10 => .inl (cA 5, 4, .inl (fun _ => 0))
  | 11 => .inl (cA 0, 4, .inl (fun _ => 0))
  | _ => .inl (cA 0, 2080, .inl (fun _ => 0))
def ctMw (v q : Nat) : Int32 := if q % 8 = 1 ∧ q / 8 < v then -1 else if q % 8 = 5 ∧ q / 8 < v then -1000 else 0
def JM (a : Nat) (cA : Nat → ClassId) (i v : Nat) (E : Nat → va_E) : Prop := E 0 = ctM0 a ∧ (∀ o, o < 15 → o ≠ 0 → o ≠ 2 → o ≠ 3 → o ≠ 5 → E o = ctMz cA o) ∧ (∃ f, E 2 = .inl (cA 0, 5, .inl f) ∧ ∀ j, j < 5 → f j = cs_first j) ∧ (∃ z, E 5 = .inl (cA 0, 4, .inl z) ∧ ∀ j, j < i → z j = nI j) ∧ ∃ w, E 3 = .inl (cA 0, 64, .inl w) ∧ ∀ q, q < 64 → w q = ctMw v q
theorem JM_1 {a : Nat} {cA : Nat → ClassId} {i : Nat} {E : Nat → va_E} {z : Nat → Int32} (h : JM a cA i 0 E) (hz : E 5 = .inl (cA 0, 4, .inl z)) : JM a cA (i + 1) 0 (va_up E 5 (.inl (cA 0, 4, .inl (upd z i (nI i))))) := by
  obtain ⟨h1, h2, ⟨f, hf, h3⟩, ⟨z', hz', h4⟩, ⟨w, hw, h5⟩⟩ := h
  have ez : z' = z := by rw [hz] at hz'; simp at hz'; exact hz'.symm
  subst ez
  refine ⟨by rw [va_up_ne _ _ (by omega)]; exact h1, fun o a1 a2 a3 a4 a5 => by rw [va_up_ne _ _ a5]; exact h2 o a1 a2 a3 a4 a5, ⟨f, by rw [va_up_ne _ _ (by omega)]; exact hf, h3⟩, ⟨_, va_up_self _ _ _, fun j hj => ?_⟩, ⟨w, by rw [va_up_ne _ _ (by omega)]; exact hw, h5⟩⟩
  by_cases e : j = i
  · subst e
    exact pk_us
  · rw [pk_un e]
    exact h4 j (by omega)
theorem JM_2 {a : Nat} {cA : Nat → ClassId} {i : Nat} {E : Nat → va_E} {w : Nat → Int32} (hi : i < 8) (h : JM a cA 4 i E) (hw : E 3 = .inl (cA 0, 64, .inl w)) : JM a cA 4 (i + 1) (va_up (va_up E 3 (.inl (cA 0, 64, .inl (upd w (8 * i + 1) (-1))))) 3 (.inl (cA 0, 64, .inl (upd (upd w (8 * i + 1) (-1)) (8 * i + 5) (-1000))))) := by
  obtain ⟨h1, h2, ⟨f, hf, h3⟩, ⟨z, hz, h4⟩, ⟨w', hw', h5⟩⟩ := h
  have ew : w' = w := by rw [hw] at hw'; simp at hw'; exact hw'.symm
  subst ew
  refine ⟨by rw [va_up_ne _ _ (by omega), va_up_ne _ _ (by omega)]; exact h1, fun o a1 a2 a3 a4 a5 => by rw [va_up_ne _ _ a4, va_up_ne _ _ a4]; exact h2 o a1 a2 a3 a4 a5, ⟨f, by rw [va_up_ne _ _ (by omega), va_up_ne _ _ (by omega)]; exact hf, h3⟩, ⟨z, by rw [va_up_ne _ _ (by omega), va_up_ne _ _ (by omega)]; exact hz, h4⟩, ⟨_, va_up_self _ _ _, fun q hq => ?_⟩⟩
  unfold ctMw
  by_cases e5 : q = 8 * i + 5
  · subst e5
    rw [pk_us, if_neg (by omega), if_pos (by omega)]
  · rw [pk_un e5]
    by_cases e1 : q = 8 * i + 1
    · subst e1
      rw [pk_us, if_pos (by omega)]
    · rw [pk_un e1, h5 q hq]
      unfold ctMw
      have k1 : (q % 8 = 1 ∧ q / 8 < i) ↔ (q % 8 = 1 ∧ q / 8 < i + 1) := by omega
      have k2 : (q % 8 = 5 ∧ q / 8 < i) ↔ (q % 8 = 5 ∧ q / 8 < i + 1) := by omega
      simp only [k1, k2]
set_option maxHeartbeats 4000000 in
set_option maxRecDepth 100000 in
theorem ct_Model_lp2 {p : Program} {e : Env} {s : State} {m : MethodId} {below : List Frame} {meth : Method} {c : Code} {args : Array Value} (l : Launch) (D : va_G) (cA : Nat → ClassId) (a : Nat) (hx : p.tables.exec = Jvm.exec) (hb : c.code = bM_init) (hr : meth.sig.returnType = none) (hml : c.maxLocals = 2) (hlocks : meth.locks = false) (hown : s.vm.findClass "TapOfficeModel" = some m.cls) (hin : meth.name = "<init>") (hts : ∀ w ∈ wM_init, w.before args s = true) (hK : va_K D fw_cl (fw_tys cA) s) :
    ∀ (n i : Nat), i ≤ 8 → 8 + 1 ≤ i + n → ∀ (E : Nat → va_E) (H : Heap) (locs : List Loc), sg_W D fw_cl a 15 E H → JM a cA 4 i E → va_S (fun q => a ≤ q) s.heap H locs → ∀ (ls : Array Slot), lv_has ls 2 [(0, .ref a), (1, .int (nI i))] → W p l e (ct_rm 1 14 6517) s m args below meth c H locs 14 6517 (MQ below (va_Qv (fun u : Nat → va_E => JM a cA 4 8 u) (fun u t => sg_W D fw_cl a 15 u t.heap) (fun q => a ≤ q)) args s 14 6517 (fun q => a ≤ q)) (F0 m 145 ls []) := by
  have htb := tb_use hts
  have hA : ∀ q, a ≤ q → (fun q => a ≤ q) q := fun _ h => h
  intro n
  induction n with
  | zero => intro i h1 h2; omega
  | succ n ih =>
    intro i hi1 hi2 E H locs hW hI hS ls hl
    refine lv_iload_n hx hb dM_init_145 rfl (lv_at hl 1 rfl) ?_
    refine lv_bipush (v := 8) hx hb dM_init_146 (by decide) ?_
    refine lv_icmp_ge (tgt := 183) hx hb dM_init_148 (by decide) (fun c1 => ?_) (fun c1 => ?_)
    · replace c1 := (nI_leI (a := 8) (b := i) (by omega) (by omega)).mp c1
      have e4 : i = 8 := by omega
      subst e4
      exact W.vret hx hb hr (fun t ht _ => ⟨⟨E, rfl, hI, by show sg_W D fw_cl a 15 E t.heap; rw [ht]; exact hW⟩, hS.F ht⟩) hS.2.2 dM_init_183 hlocks
    · replace c1 := mt (nI_leI (a := 8) (b := i) (by omega) (by omega)).mpr c1
      have hlt : i < 8 := by omega
      obtain ⟨w, hw, -⟩ := hI.2.2.2.2
      refine lv_aload_n hx hb dM_init_151 rfl (lv_at hl 0 rfl) ?_
      refine sg_get hx hb hts hin_M hown hK hW 0 (by omega) hI.1 rfl 3 (by decide) (htb _ m_415 rfl) (fun _ h => h) (v := .ref (a + 3)) rfl dM_init_152 ?_
      refine lv_bipush (v := 8) hx hb dM_init_155 (by decide) ?_
      refine lv_iload_n hx hb dM_init_157 rfl (lv_at hl 1 rfl) ?_
      refine lv_imul hx hb dM_init_158 ?_
      refine lv_eqi (pk_mul 8 i) ?_
      refine lv_iconst (v := 1) hx hb dM_init_159 (by decide) ?_
      refine lv_iadd hx hb dM_init_160 ?_
      refine lv_eqi (nI_add (8 * i) 1) ?_
      refine lv_iconst (v := (-1)) hx hb dM_init_161 (by decide) ?_
      refine sg_iast hx hb hK hW hA hS 3 (by omega) 0 hw rfl (8 * i + 1) (nI_clamp (by omega)) (vp_in_nI (by omega) (by decide)) dM_init_162 (fun H locs hW hS => ?_)
      refine lv_aload_n hx hb dM_init_163 rfl (lv_at hl 0 rfl) ?_
      refine sg_get hx hb hts hin_M hown hK hW 0 (by omega) (by rw [va_up_ne _ _ (by omega)]; exact hI.1) rfl 3 (by decide) (htb _ m_415 rfl) (fun _ h => h) (v := .ref (a + 3)) rfl dM_init_164 ?_
      refine lv_bipush (v := 8) hx hb dM_init_167 (by decide) ?_
      refine lv_iload_n hx hb dM_init_169 rfl (lv_at hl 1 rfl) ?_
      refine lv_imul hx hb dM_init_170 ?_
      refine lv_eqi (pk_mul 8 i) ?_
      refine lv_iconst (v := 5) hx hb dM_init_171 (by decide) ?_
      refine lv_iadd hx hb dM_init_172 ?_
      refine lv_eqi (nI_add (8 * i) 5) ?_
      refine lv_sipush (v := (-1000)) hx hb dM_init_173 (by decide) ?_
      refine sg_iast hx hb hK hW hA hS 3 (by omega) 0 (va_up_self _ _ _) rfl (8 * i + 5) (nI_clamp (by omega)) (vp_in_nI (by omega) (by decide)) dM_init_176 (fun H locs hW hS => ?_)
      refine lv_iinc (v := nI (i + 1)) (lv' := [(1, .int (nI (i + 1))), (0, .ref a)]) hx hb dM_init_177 hl (k := 1) rfl (by exact nI_1 i) (by decide) rfl (fun ls hl => ?_)
      refine lv_goto (tgt := 145) hx hb dM_init_180 (by decide) ?_
      exact ih (i + 1) (by omega) (by omega) _ _ _ hW (JM_2 hlt hI hw) hS ls (lv_sub hl [1, 0] rfl)
set_option maxHeartbeats 4000000 in
set_option maxRecDepth 100000 in
theorem ct_Model_lp1 {p : Program} {e : Env} {s : State} {m : MethodId} {below : List Frame} {meth : Method} {c : Code} {args : Array Value} (l : Launch) (D : va_G) (cA : Nat → ClassId) (a : Nat) (hx : p.tables.exec = Jvm.exec) (hb : c.code = bM_init) (hr : meth.sig.returnType = none) (hml : c.maxLocals = 2) (hlocks : meth.locks = false) (hown : s.vm.findClass "TapOfficeModel" = some m.cls) (hin : meth.name = "<init>") (hts : ∀ w ∈ wM_init, w.before args s = true) (hK : va_K D fw_cl (fw_tys cA) s) :
    ∀ (n i : Nat), i ≤ 4 → 4 + 1 ≤ i + n → ∀ (E : Nat → va_E) (H : Heap) (locs : List Loc), sg_W D fw_cl a 15 E H → JM a cA i 0 E → va_S (fun q => a ≤ q) s.heap H locs → ∀ (ls : Array Slot), lv_has ls 2 [(0, .ref a), (1, .int (nI i))] → W p l e (ct_rm 1 14 6517) s m args below meth c H locs 14 6517 (MQ below (va_Qv (fun u : Nat → va_E => JM a cA 4 8 u) (fun u t => sg_W D fw_cl a 15 u t.heap) (fun q => a ≤ q)) args s 14 6517 (fun q => a ≤ q)) (F0 m 125 ls []) := by
  have htb := tb_use hts
  have hA : ∀ q, a ≤ q → (fun q => a ≤ q) q := fun _ h => h
  intro n
  induction n with
  | zero => intro i h1 h2; omega
  | succ n ih =>
    intro i hi1 hi2 E H locs hW hI hS ls hl
    refine lv_iload_n hx hb dM_init_125 rfl (lv_at hl 1 rfl) ?_
    refine lv_iconst (v := 4) hx hb dM_init_126 (by decide) ?_
    refine lv_icmp_ge (tgt := 143) hx hb dM_init_127 (by decide) (fun c1 => ?_) (fun c1 => ?_)
    · replace c1 := (nI_leI (a := 4) (b := i) (by omega) (by omega)).mp c1
      have e4 : i = 4 := by omega
      subst e4
      refine lv_iconst (v := 0) hx hb dM_init_143 (by decide) ?_
      refine lv_istore_n (lv' := [(1, .int 0), (0, .ref a)]) hx hb dM_init_144 rfl hl (by decide) rfl (fun ls hl => ?_)
      exact ct_Model_lp2 l D cA a hx hb hr hml hlocks hown hin hts hK 9 0 (by omega) (by omega) _ _ _ hW hI hS ls (lv_sub hl [1, 0] rfl)
    · replace c1 := mt (nI_leI (a := 4) (b := i) (by omega) (by omega)).mpr c1
      have hlt : i < 4 := by omega
      obtain ⟨z, hz, -⟩ := hI.2.2.2.1
      refine lv_aload_n hx hb dM_init_130 rfl (lv_at hl 0 rfl) ?_
      refine sg_get hx hb hts hin_M hown hK hW 0 (by omega) hI.1 rfl 5 (by decide) (htb _ m_417 rfl) (fun _ h => h) (v := .ref (a + 5)) rfl dM_init_131 ?_
      refine lv_iload_n hx hb dM_init_134 rfl (lv_at hl 1 rfl) ?_
      refine lv_iload_n hx hb dM_init_135 rfl (lv_at hl 1 rfl) ?_
      refine sg_iast hx hb hK hW hA hS 5 (by omega) 0 hz rfl i (nI_clamp (by omega)) (vp_in_nI hlt (by decide)) dM_init_136 (fun H locs hW hS => ?_)
      refine lv_iinc (v := nI (i + 1)) (lv' := [(1, .int (nI (i + 1))), (0, .ref a)]) hx hb dM_init_137 hl (k := 1) rfl (by exact nI_1 i) (by decide) rfl (fun ls hl => ?_)
      refine lv_goto (tgt := 125) hx hb dM_init_140 (by decide) ?_
      exact ih (i + 1) (by omega) (by omega) _ _ _ hW (JM_1 hI hz) hS ls (lv_sub hl [1, 0] rfl)
set_option maxHeartbeats 4000000 in
set_option maxRecDepth 100000 in
theorem ct_Model (l : Launch) (D : va_G) (cA : Nat → ClassId) (a : Nat) : Met l yM_init wM_init (ct_rm 1 14 6517) (va_Pc [.ref a] (fun U => sg_W D fw_cl a 1 (fun _ => .inr (5, [.null, .null, .int 0, .null, .null, .null, .null, .null, .null, .null, .null, .null, .int 0, .null, .null, .null])) U.heap ∧ va_K D fw_cl (fw_tys cA) U)) (va_Qv (fun u : Nat → va_E => JM a cA 4 8 u) (fun u t => sg_W D fw_cl a 15 u t.heap) (fun q => a ≤ q)) 14 6517 (fun q => a ≤ q) := by
  refine Met.ofW (cc := bM_init) (maxL := 2) (ret := none) (by decide) rfl ?_
  intro p e s m args below meth c s₁ B hml hv
  obtain ⟨rfl, hW, hK⟩ := hv
  have hl := lv_entry ([.ref a]) (n := 2) (Nat.le_of_ble_eq_true rfl)
  rw [lg_entry_eq]
  generalize (lg_sl ([.ref a]) ++ List.replicate (2 - (lg_sl ([.ref a])).length) Slot.unset).toArray = ls at hl ⊢
  have hl : lv_has ls 2 [(0, .ref a)] := hl
  have hx := B.exec
  have hb := B.bytes
  have hr := B.returns
  have hlocks := B.notSynchronized
  have hts := atoms_spec (ws := wM_init) B.pre
  have hown : s.vm.findClass "TapOfficeModel" = some m.cls := findClass_of_methodNamed B.named
  have hin : meth.name = "<init>" := (name_of_methodNamed B.named B.method).1
  have hS : va_S (fun q => a ≤ q) s.heap s.heap [] := va_S.rf
  have hA : ∀ q, a ≤ q → (fun q => a ≤ q) q := fun _ h => h
  have htb := tb_use hts
  refine lv_aload_n hx hb dM_init_0 rfl (lv_at hl 0 rfl) ?_
  refine W.objInit hx hb hown (htb _ m_411 rfl) (htb _ m_40 rfl) (htb _ m_41 rfl) rfl (by rw [hml]; exact hl.1) rfl dM_init_1 (Nat.le_of_ble_eq_true rfl) (Nat.le_of_ble_eq_true rfl) ?_
  refine W.eq (g2 := F0 m 4 ls []) rfl ?_
  refine lv_aload_n hx hb dM_init_4 rfl (lv_at hl 0 rfl) ?_
  refine lv_bipush (v := 36) hx hb dM_init_5 (by decide) ?_
  refine sg_newa (atype := .int) hx hb (htb _ m_66 rfl) rfl hK hW hS 0 rfl (a0 := (36, .inl (fun _ => 0))) (fun _ => rfl) (by decide) (by decide) (by decide) (Nat.le_of_ble_eq_true rfl) (Nat.le_of_ble_eq_true rfl) dM_init_7 (fun H hW hS => ?_)
  refine sg_put hx hb hts hin_M ty_M ty_M_ok nm_M hown hK hW hA hS 0 (by decide) rfl rfl 0 (by decide) (htb _ m_412 rfl) rfl rfl hin (ty := .array .int) (by decide +kernel) rfl rfl (Nat.le_of_ble_eq_true rfl) dM_init_9 (fun H locs hW hS => ?_)
  refine lv_aload_n hx hb dM_init_12 rfl (lv_at hl 0 rfl) ?_
  refine lv_iconst (v := 5) hx hb dM_init_13 (by decide) ?_
  refine sg_newa (atype := .int) hx hb (htb _ m_66 rfl) rfl hK hW hS 0 rfl (a0 := (5, .inl (fun _ => 0))) (fun _ => rfl) (by decide) (by decide) (by decide) (Nat.le_of_ble_eq_true rfl) (Nat.le_of_ble_eq_true rfl) dM_init_14 (fun H hW hS => ?_)
  refine sg_put hx hb hts hin_M ty_M ty_M_ok nm_M hown hK hW hA hS 0 (by decide) rfl rfl 1 (by decide) (htb _ m_413 rfl) rfl rfl hin (ty := .array .int) (by decide +kernel) rfl rfl (Nat.le_of_ble_eq_true rfl) dM_init_16 (fun H locs hW hS => ?_)
  refine lv_aload_n hx hb dM_init_19 rfl (lv_at hl 0 rfl) ?_
  refine lv_bipush (v := 64) hx hb dM_init_20 (by decide) ?_
  refine sg_newa (atype := .int) hx hb (htb _ m_66 rfl) rfl hK hW hS 0 rfl (a0 := (64, .inl (fun _ => 0))) (fun _ => rfl) (by decide) (by decide) (by decide) (Nat.le_of_ble_eq_true rfl) (Nat.le_of_ble_eq_true rfl) dM_init_22 (fun H hW hS => ?_)
  refine sg_put hx hb hts hin_M ty_M ty_M_ok nm_M hown hK hW hA hS 0 (by decide) rfl rfl 3 (by decide) (htb _ m_415 rfl) rfl rfl hin (ty := .array .int) (by decide +kernel) rfl rfl (Nat.le_of_ble_eq_true rfl) dM_init_24 (fun H locs hW hS => ?_)
  refine lv_aload_n hx hb dM_init_27 rfl (lv_at hl 0 rfl) ?_
  refine lv_bipush (v := 8) hx hb dM_init_28 (by decide) ?_
  refine sg_newa (atype := .int) hx hb (htb _ m_66 rfl) rfl hK hW hS 0 rfl (a0 := (8, .inl (fun _ => 0))) (fun _ => rfl) (by decide) (by decide) (by decide) (Nat.le_of_ble_eq_true rfl) (Nat.le_of_ble_eq_true rfl) dM_init_30 (fun H hW hS => ?_)
  refine sg_put hx hb hts hin_M ty_M ty_M_ok nm_M hown hK hW hA hS 0 (by decide) rfl rfl 4 (by decide) (htb _ m_416 rfl) rfl rfl hin (ty := .array .int) (by decide +kernel) rfl rfl (Nat.le_of_ble_eq_true rfl) dM_init_32 (fun H locs hW hS => ?_)
  refine lv_aload_n hx hb dM_init_35 rfl (lv_at hl 0 rfl) ?_
  refine lv_iconst (v := 4) hx hb dM_init_36 (by decide) ?_
  refine sg_newa (atype := .int) hx hb (htb _ m_66 rfl) rfl hK hW hS 0 rfl (a0 := (4, .inl (fun _ => 0))) (fun _ => rfl) (by decide) (by decide) (by decide) (Nat.le_of_ble_eq_true rfl) (Nat.le_of_ble_eq_true rfl) dM_init_37 (fun H hW hS => ?_)
  refine sg_put hx hb hts hin_M ty_M ty_M_ok nm_M hown hK hW hA hS 0 (by decide) rfl rfl 5 (by decide) (htb _ m_417 rfl) rfl rfl hin (ty := .array .int) (by decide +kernel) rfl rfl (Nat.le_of_ble_eq_true rfl) dM_init_39 (fun H locs hW hS => ?_)
  refine lv_aload_n hx hb dM_init_42 rfl (lv_at hl 0 rfl) ?_
  refine lv_iconst (v := 4) hx hb dM_init_43 (by decide) ?_
  refine sg_newa (atype := .boolean) hx hb (htb _ m_118 rfl) rfl hK hW hS 5 rfl (a0 := (4, .inl (fun _ => 0))) (fun _ => rfl) (by decide) (by decide) (by decide) (Nat.le_of_ble_eq_true rfl) (Nat.le_of_ble_eq_true rfl) dM_init_44 (fun H hW hS => ?_)
  refine sg_put hx hb hts hin_M ty_M ty_M_ok nm_M hown hK hW hA hS 0 (by decide) rfl rfl 6 (by decide) (htb _ m_418 rfl) rfl rfl hin (ty := .array .boolean) (by decide +kernel) rfl rfl (Nat.le_of_ble_eq_true rfl) dM_init_46 (fun H locs hW hS => ?_)
  refine lv_aload_n hx hb dM_init_49 rfl (lv_at hl 0 rfl) ?_
  refine lv_sipush (v := 128) hx hb dM_init_50 (by decide) ?_
  refine sg_newa (atype := .int) hx hb (htb _ m_66 rfl) rfl hK hW hS 0 rfl (a0 := (128, .inl (fun _ => 0))) (fun _ => rfl) (by decide) (by decide) (by decide) (Nat.le_of_ble_eq_true rfl) (Nat.le_of_ble_eq_true rfl) dM_init_53 (fun H hW hS => ?_)
  refine sg_put hx hb hts hin_M ty_M ty_M_ok nm_M hown hK hW hA hS 0 (by decide) rfl rfl 7 (by decide) (htb _ m_419 rfl) rfl rfl hin (ty := .array .int) (by decide +kernel) rfl rfl (Nat.le_of_ble_eq_true rfl) dM_init_55 (fun H locs hW hS => ?_)
  refine lv_aload_n hx hb dM_init_58 rfl (lv_at hl 0 rfl) ?_
  refine lv_iconst (v := 4) hx hb dM_init_59 (by decide) ?_
  refine sg_newa (atype := .int) hx hb (htb _ m_66 rfl) rfl hK hW hS 0 rfl (a0 := (4, .inl (fun _ => 0))) (fun _ => rfl) (by decide) (by decide) (by decide) (Nat.le_of_ble_eq_true rfl) (Nat.le_of_ble_eq_true rfl) dM_init_60 (fun H hW hS => ?_)
  refine sg_put hx hb hts hin_M ty_M ty_M_ok nm_M hown hK hW hA hS 0 (by decide) rfl rfl 8 (by decide) (htb _ m_420 rfl) rfl rfl hin (ty := .array .int) (by decide +kernel) rfl rfl (Nat.le_of_ble_eq_true rfl) dM_init_62 (fun H locs hW hS => ?_)
  refine lv_aload_n hx hb dM_init_65 rfl (lv_at hl 0 rfl) ?_
  refine lv_bipush (v := 16) hx hb dM_init_66 (by decide) ?_
  refine sg_newa (atype := .boolean) hx hb (htb _ m_118 rfl) rfl hK hW hS 5 rfl (a0 := (16, .inl (fun _ => 0))) (fun _ => rfl) (by decide) (by decide) (by decide) (Nat.le_of_ble_eq_true rfl) (Nat.le_of_ble_eq_true rfl) dM_init_68 (fun H hW hS => ?_)
  refine sg_put hx hb hts hin_M ty_M ty_M_ok nm_M hown hK hW hA hS 0 (by decide) rfl rfl 9 (by decide) (htb _ m_421 rfl) rfl rfl hin (ty := .array .boolean) (by decide +kernel) rfl rfl (Nat.le_of_ble_eq_true rfl) dM_init_70 (fun H locs hW hS => ?_)
  refine lv_aload_n hx hb dM_init_73 rfl (lv_at hl 0 rfl) ?_
  refine lv_iconst (v := 4) hx hb dM_init_74 (by decide) ?_
  refine sg_newa (atype := .boolean) hx hb (htb _ m_118 rfl) rfl hK hW hS 5 rfl (a0 := (4, .inl (fun _ => 0))) (fun _ => rfl) (by decide) (by decide) (by decide) (Nat.le_of_ble_eq_true rfl) (Nat.le_of_ble_eq_true rfl) dM_init_75 (fun H hW hS => ?_)
  refine sg_put hx hb hts hin_M ty_M ty_M_ok nm_M hown hK hW hA hS 0 (by decide) rfl rfl 10 (by decide) (htb _ m_422 rfl) rfl rfl hin (ty := .array .boolean) (by decide +kernel) rfl rfl (Nat.le_of_ble_eq_true rfl) dM_init_77 (fun H locs hW hS => ?_)
  refine lv_aload_n hx hb dM_init_80 rfl (lv_at hl 0 rfl) ?_
  refine lv_iconst (v := 4) hx hb dM_init_81 (by decide) ?_
  refine sg_newa (atype := .int) hx hb (htb _ m_66 rfl) rfl hK hW hS 0 rfl (a0 := (4, .inl (fun _ => 0))) (fun _ => rfl) (by decide) (by decide) (by decide) (Nat.le_of_ble_eq_true rfl) (Nat.le_of_ble_eq_true rfl) dM_init_82 (fun H hW hS => ?_)
  refine sg_put hx hb hts hin_M ty_M ty_M_ok nm_M hown hK hW hA hS 0 (by decide) rfl rfl 11 (by decide) (htb _ m_423 rfl) rfl rfl hin (ty := .array .int) (by decide +kernel) rfl rfl (Nat.le_of_ble_eq_true rfl) dM_init_84 (fun H locs hW hS => ?_)
  refine lv_aload_n hx hb dM_init_87 rfl (lv_at hl 0 rfl) ?_
  refine lv_sipush (v := 2080) hx hb dM_init_88 (by decide) ?_
  refine sg_newa (atype := .int) hx hb (htb _ m_66 rfl) rfl hK hW hS 0 rfl (a0 := (2080, .inl (fun _ => 0))) (fun _ => rfl) (by decide) (by decide) (by decide) (Nat.le_of_ble_eq_true rfl) (Nat.le_of_ble_eq_true rfl) dM_init_91 (fun H hW hS => ?_)
  refine sg_put hx hb hts hin_M ty_M ty_M_ok nm_M hown hK hW hA hS 0 (by decide) rfl rfl 13 (by decide) (htb _ m_425 rfl) rfl rfl hin (ty := .array .int) (by decide +kernel) rfl rfl (Nat.le_of_ble_eq_true rfl) dM_init_93 (fun H locs hW hS => ?_)
  refine lv_aload_n hx hb dM_init_96 rfl (lv_at hl 0 rfl) ?_
  refine lv_sipush (v := 2080) hx hb dM_init_97 (by decide) ?_
  refine sg_newa (atype := .int) hx hb (htb _ m_66 rfl) rfl hK hW hS 0 rfl (a0 := (2080, .inl (fun _ => 0))) (fun _ => rfl) (by decide) (by decide) (by decide) (Nat.le_of_ble_eq_true rfl) (Nat.le_of_ble_eq_true rfl) dM_init_100 (fun H hW hS => ?_)
  refine sg_put hx hb hts hin_M ty_M ty_M_ok nm_M hown hK hW hA hS 0 (by decide) rfl rfl 14 (by decide) (htb _ m_426 rfl) rfl rfl hin (ty := .array .int) (by decide +kernel) rfl rfl (Nat.le_of_ble_eq_true rfl) dM_init_102 (fun H locs hW hS => ?_)
  refine lv_aload_n hx hb dM_init_105 rfl (lv_at hl 0 rfl) ?_
  refine lv_sipush (v := 2080) hx hb dM_init_106 (by decide) ?_
  refine sg_newa (atype := .int) hx hb (htb _ m_66 rfl) rfl hK hW hS 0 rfl (a0 := (2080, .inl (fun _ => 0))) (fun _ => rfl) (by decide) (by decide) (by decide) (Nat.le_of_ble_eq_true rfl) (Nat.le_of_ble_eq_true rfl) dM_init_109 (fun H hW hS => ?_)
  refine sg_put hx hb hts hin_M ty_M ty_M_ok nm_M hown hK hW hA hS 0 (by decide) rfl rfl 15 (by decide) (htb _ m_427 rfl) rfl rfl hin (ty := .array .int) (by decide +kernel) rfl rfl (Nat.le_of_ble_eq_true rfl) dM_init_111 (fun H locs hW hS => ?_)
  refine lv_aload_n hx hb dM_init_114 rfl (lv_at hl 0 rfl) ?_
  refine sg_get hx hb hts hin_M hown hK hW 0 (by decide) rfl rfl 1 (by decide) (htb _ m_413 rfl) (fun _ h => h) (v := .ref (a + 2)) rfl dM_init_115 ?_
  refine lv_iconst (v := 3) hx hb dM_init_118 (by decide) ?_
  refine lv_sipush (v := 9999) hx hb dM_init_119 (by decide) ?_
  refine sg_iast hx hb hK hW hA hS 2 (by decide) 0 rfl rfl 3 (by decide) (by unfold vp_in; decide) dM_init_122 (fun H locs hW hS => ?_)
  refine lv_iconst (v := 0) hx hb dM_init_123 (by decide) ?_
  refine lv_istore_n (lv' := [(1, .int 0), (0, .ref a)]) hx hb dM_init_124 rfl hl (by decide) rfl (fun ls hl => ?_)
  refine W.widen (k := 14) (n := 6517) (Nat.le_of_ble_eq_true rfl) (Nat.le_of_ble_eq_true rfl) ?_
  refine ct_Model_lp1 l D cA a hx hb hr hml hlocks hown hin hts hK 5 0 (by omega) (by omega) _ _ _ hW ?_ hS ls (lv_sub hl [1, 0] rfl)
  refine ⟨rfl, fun o a1 a2 a3 a4 a5 => ?_, ⟨_, rfl, fun j hj => ?_⟩, ⟨_, rfl, fun j hj => absurd hj (Nat.not_lt_zero j)⟩, ⟨_, rfl, fun q hq => ?_⟩⟩
  · rcases (show o = 1 ∨ o = 4 ∨ o = 6 ∨ o = 7 ∨ o = 8 ∨ o = 9 ∨ o = 10 ∨ o = 11 ∨ o = 12 ∨ o = 13 ∨ o = 14 by omega) with rfl | rfl | rfl | rfl | rfl | rfl | rfl | rfl | rfl | rfl | rfl <;> rfl
  · rcases (show j = 0 ∨ j = 1 ∨ j = 2 ∨ j = 3 ∨ j = 4 by omega) with rfl | rfl | rfl | rfl | rfl <;> rfl
  · unfold ctMw
    rw [if_neg (by omega), if_neg (by omega)]

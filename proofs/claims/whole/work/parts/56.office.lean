/-! TapOffice(): 90 cells from its own on -/
theorem sg_cat_lt {n o : Nat} {E E' : Nat → va_E} (h : o < n) : sg_cat n E E' o = E o := if_pos h
theorem sg_cat_ge {n o : Nat} {E E' : Nat → va_E} : sg_cat n E E' (n + o) = E' o := by
  unfold sg_cat
  rw [if_neg (by omega), Nat.add_sub_cancel_left]
def ctO0 (a : Nat) : va_E := .inr (0, [.ref (a + 1), .ref (a + 10), .ref (a + 11), .ref (a + 12), .ref (a + 13), .int 0, .int 0, .int 0])
def ctq (c : ClassId) (f : Nat → Option Nat) : va_E := .inl (c, 4, .inr (.inr (.inr (.inr f))))
/-- the cells behind i turns of the first loop, and v of the second -/
def I12 (a : Nat) (cA : Nat → ClassId) (i v : Nat) (E : Nat → va_E) : Prop := E 0 = ctO0 a ∧ (∀ o, o < 9 → E (1 + o) = ctT (a + 1) cA o) ∧ (∃ f, E 10 = ctq (cA 2) f ∧ ∀ j, j < i → f j = some (a + (14 + 9 * j))) ∧ (∃ f, E 11 = ctq (cA 3) f ∧ ∀ j, j < i → f j = some (a + (14 + 9 * j + 5))) ∧ (∃ f, E 12 = ctq (cA 4) f ∧ ∀ j, j < v → f j = some (a + (50 + 10 * j))) ∧ E 13 = .inl (cA 0, 4, .inl (fun _ => 0)) ∧ (∀ j, j < i → (∀ o, o < 5 → E (14 + 9 * j + o) = ctC (a + (14 + 9 * j)) cA o) ∧ ∀ o, o < 4 → E (14 + 9 * j + 5 + o) = ctA (a + (14 + 9 * j + 5)) cA o) ∧ ∀ j, j < v → ∀ o, o < 10 → E (50 + 10 * j + o) = ctV (a + (50 + 10 * j)) cA (nI j) o
theorem I12_1 {a : Nat} {cA : Nat → ClassId} {i : Nat} {E E4 : Nat → va_E} {B1 B2 : va_E} {f g : Nat → Option Nat} (h : I12 a cA i 0 E) (hf : E 10 = ctq (cA 2) f) (hg : E 11 = ctq (cA 3) g)
    (h4 : E4 = va_up (sg_cat (14 + 9 * i + 5) (va_up (va_up (sg_cat (14 + 9 * i) (va_up E (14 + 9 * i) B1) (ctC (a + (14 + 9 * i)) cA)) 10 (ctq (cA 2) (va_up f i (some (a + (14 + 9 * i)))))) (14 + 9 * i + 5) B2) (ctA (a + (14 + 9 * i + 5)) cA)) 11 (ctq (cA 3) (va_up g i (some (a + (14 + 9 * i + 5)))))) : I12 a cA (i + 1) 0 E4 := by
  obtain ⟨i1, i2, ⟨f', hf', i3⟩, ⟨g', hg', i4⟩, i5, i6, i7, i8⟩ := h
  have ef : f' = f := by rw [hf] at hf'; unfold ctq at hf'; simp at hf'; exact hf'.symm
  have eg : g' = g := by rw [hg] at hg'; unfold ctq at hg'; simp at hg'; exact hg'.symm
  subst ef
  subst eg
  have old : ∀ o, o < 14 + 9 * i → o ≠ 10 → o ≠ 11 → E4 o = E o := by
    intro o h1 h2 h3
    rw [h4, va_up_ne _ _ h3, sg_cat_lt (by omega), va_up_ne _ _ (by omega), va_up_ne _ _ h2, sg_cat_lt h1, va_up_ne _ _ (by omega)]
  have e10 : E4 10 = ctq (cA 2) (va_up f' i (some (a + (14 + 9 * i)))) := by
    rw [h4, va_up_ne _ _ (by omega), sg_cat_lt (by omega), va_up_ne _ _ (by omega), va_up_self]
  have e11 : E4 11 = ctq (cA 3) (va_up g' i (some (a + (14 + 9 * i + 5)))) := by
    rw [h4, va_up_self]
  refine ⟨by rw [old 0 (by omega) (by omega) (by omega)]; exact i1, fun o ho => by rw [old (1 + o) (by omega) (by omega) (by omega)]; exact i2 o ho, ⟨_, e10, fun j hj => ?_⟩, ⟨_, e11, fun j hj => ?_⟩, ?_, by rw [old 13 (by omega) (by omega) (by omega)]; exact i6, fun j hj => ?_, fun j hj => absurd hj (Nat.not_lt_zero j)⟩
  · by_cases e : j = i
    · subst e
      rw [va_up_self]
    · rw [va_up_ne _ _ e]
      exact i3 j (by omega)
  · by_cases e : j = i
    · subst e
      rw [va_up_self]
    · rw [va_up_ne _ _ e]
      exact i4 j (by omega)
  · obtain ⟨h', q1, -⟩ := i5
    exact ⟨h', by rw [old 12 (by omega) (by omega) (by omega)]; exact q1, fun j hj => absurd hj (Nat.not_lt_zero j)⟩
  · by_cases e : j = i
    · subst e
      refine ⟨fun o ho => ?_, fun o ho => ?_⟩
      · rw [h4, va_up_ne _ _ (by omega), sg_cat_lt (by omega), va_up_ne _ _ (by omega), va_up_ne _ _ (by omega), sg_cat_ge]
      · rw [h4, va_up_ne _ _ (by omega), sg_cat_ge]
    · have hj2 : j < i := by omega
      refine ⟨fun o ho => ?_, fun o ho => ?_⟩
      · rw [old _ (by omega) (by omega) (by omega)]
        exact (i7 j hj2).1 o ho
      · rw [old _ (by omega) (by omega) (by omega)]
        exact (i7 j hj2).2 o ho
theorem I12_2 {a : Nat} {cA : Nat → ClassId} {i : Nat} {E E4 : Nat → va_E} {B1 : va_E} {f : Nat → Option Nat} (h : I12 a cA 4 i E) (hf : E 12 = ctq (cA 4) f)
    (h4 : E4 = va_up (sg_cat (50 + 10 * i) (va_up E (50 + 10 * i) B1) (ctV (a + (50 + 10 * i)) cA (nI i))) 12 (ctq (cA 4) (va_up f i (some (a + (50 + 10 * i)))))) : I12 a cA 4 (i + 1) E4 := by
  obtain ⟨i1, i2, ⟨f1, hf1, i3⟩, ⟨g1, hg1, i4⟩, ⟨f', hf', i5⟩, i6, i7, i8⟩ := h
  have ef : f' = f := by rw [hf] at hf'; unfold ctq at hf'; simp at hf'; exact hf'.symm
  subst ef
  have old : ∀ o, o < 50 + 10 * i → o ≠ 12 → E4 o = E o := by
    intro o h1 h2
    rw [h4, va_up_ne _ _ h2, sg_cat_lt h1, va_up_ne _ _ (by omega)]
  have e12 : E4 12 = ctq (cA 4) (va_up f' i (some (a + (50 + 10 * i)))) := by
    rw [h4, va_up_self]
  refine ⟨by rw [old 0 (by omega) (by omega)]; exact i1, fun o ho => by rw [old (1 + o) (by omega) (by omega)]; exact i2 o ho, ⟨f1, by rw [old 10 (by omega) (by omega)]; exact hf1, i3⟩, ⟨g1, by rw [old 11 (by omega) (by omega)]; exact hg1, i4⟩, ⟨_, e12, fun j hj => ?_⟩, by rw [old 13 (by omega) (by omega)]; exact i6, fun j hj => ⟨fun o ho => by rw [old _ (by omega) (by omega)]; exact (i7 j hj).1 o ho, fun o ho => by rw [old _ (by omega) (by omega)]; exact (i7 j hj).2 o ho⟩, fun j hj o ho => ?_⟩
  · by_cases e : j = i
    · subst e
      rw [va_up_self]
    · rw [va_up_ne _ _ e]
      exact i5 j (by omega)
  · by_cases e : j = i
    · subst e
      rw [h4, va_up_ne _ _ (by omega), sg_cat_ge]
    · rw [old _ (by omega) (by omega)]
      exact i8 j (by omega) o ho
set_option maxHeartbeats 4000000 in
set_option maxRecDepth 100000 in
theorem ct_Office_lp2 {p : Program} {e : Env} {s : State} {m : MethodId} {below : List Frame} {meth : Method} {c : Code} {args : Array Value} (l : Launch) (D : va_G) (cA : Nat → ClassId) (t1 t2 a : Nat) (hx : p.tables.exec = Jvm.exec) (hb : c.code = bO_init) (hr : meth.sig.returnType = none) (hml : c.maxLocals = 2) (hlocks : meth.locks = false) (hown : s.vm.findClass "TapOffice" = some m.cls) (hin : meth.name = "<init>") (hts : ∀ w ∈ wO_init, w.before args s = true) (hK : va_K D fw_cl (fw_tys cA) s) (hNw : ct_Nw s) (hSt : ct_S a t1 t2 s s.heap) :
    ∀ (n i : Nat), i ≤ 4 → 4 + 1 ≤ i + n → ∀ (E : Nat → va_E) (H : Heap) (locs : List Loc), sg_W D fw_cl a (50 + 10 * i) E H → I12 a cA 4 i E → va_S (fun q => a ≤ q) s.heap H locs → ∀ (ls : Array Slot), lv_has ls 2 [(0, .ref a), (1, .int (nI i))] → W p l e (ct_rm 2 89 6541) s m args below meth c H locs (49 + 10 * i) (6361 + 45 * i) (MQ below (va_Qv (fun u : Nat → va_E => I12 a cA 4 4 u) (fun u t => sg_W D fw_cl a 90 u t.heap) (fun q => a ≤ q)) args s 89 6541 (fun q => a ≤ q)) (F0 m 87 ls []) := by
  have htb := tb_use hts
  have hA : ∀ q, a ≤ q → (fun q => a ≤ q) q := fun _ h => h
  intro n
  induction n with
  | zero => intro i h1 h2; omega
  | succ n ih =>
    intro i hi1 hi2 E H locs hW hI hS ls hl
    refine lv_iload_n hx hb dO_init_87 rfl (lv_at hl 1 rfl) ?_
    refine lv_iconst (v := 4) hx hb dO_init_88 (by decide) ?_
    refine lv_icmp_ge (tgt := 112) hx hb dO_init_89 (by decide) (fun c1 => ?_) (fun c1 => ?_)
    · replace c1 := (nI_leI (a := 4) (b := i) (by omega) (by omega)).mp c1
      have e4 : i = 4 := by omega
      subst e4
      exact W.widen (k := 89) (n := 6541) (by omega) (by omega) (W.vret hx hb hr (fun t ht _ => ⟨⟨E, rfl, hI, by show sg_W D fw_cl a 90 E t.heap; rw [ht]; exact hW⟩, hS.F ht⟩) hS.2.2 dO_init_112 hlocks)
    · replace c1 := mt (nI_leI (a := 4) (b := i) (by omega) (by omega)).mpr c1
      have hlt : i < 4 := by omega
      obtain ⟨f, hf, -⟩ := hI.2.2.2.2.1
      refine lv_aload_n hx hb dO_init_92 rfl (lv_at hl 0 rfl) ?_
      refine sg_get hx hb hts hin_O hown hK hW 0 (by omega) hI.1 rfl 3 (by decide) (htb _ m_144 rfl) (fun _ h => h) (v := .ref (a + 12)) rfl dO_init_93 ?_
      refine lv_iload_n hx hb dO_init_96 rfl (lv_at hl 1 rfl) ?_
      refine sg_new (ci := 4) hx hb hts hin_V ty_V ty_V_ok hown (htb _ m_71 rfl) (htb _ m_119 rfl) (htb _ m_30 rfl) hK hW hS rfl (fs := [.null, .int 0, .int 0, .int 0, .int 0]) (fun j hj => by rcases (show j = 0 ∨ j = 1 ∨ j = 2 ∨ j = 3 ∨ j = 4 by omega) with rfl | rfl | rfl | rfl | rfl <;> rfl) (by show _ ≤ 89; omega) (by show _ ≤ 6541; omega) dO_init_97 (fun H hW hS => ?_)
      refine lv_dup hx hb dO_init_100 rfl ?_
      refine lv_iload_n hx hb dO_init_101 rfl (lv_at hl 1 rfl) ?_
      refine ct_call (va_runI (As := [.int (nI i)]) (rest := [.ref (a + (50 + 10 * i)), .int (nI i), .ref (a + 12)]) ⟨hx, hb, hml, hown, hts⟩ (ct_Validator l D cA t1 t2 (a + (50 + 10 * i)) (nI i)) (cwI 1 hts (tb_C m_122) rfl rfl rfl (htb _ m_30 rfl) (htb _ m_120 rfl) (htb _ m_121 rfl) rfl (by decide +kernel) ⟨Nat.le_of_ble_eq_true rfl, Nat.le_of_ble_eq_true rfl⟩) (ct_pre hK hNw hSt hW hS (va_up_self _ _ _) [.int (nI i)]) rfl rfl hl.1 rfl (lv_room (Nat.le_of_ble_eq_true rfl)) dO_init_102 ⟨by show _ ≤ 89; omega, by show _ ≤ 6541; omega⟩) hW hA hS (fun H locs hW hS => ?_)
      refine sg_aast hx hb hK hW hA hS 12 (by omega) (50 + 10 * i) (by omega) 4 4 (by rw [sg_cat_lt (by omega), va_up_ne _ _ (by omega)]; exact hf) rfl (sg_cat_ge (o := 0)) rfl i (nI_clamp (by omega)) (vp_in_nI hlt (by decide)) dO_init_105 (fun H locs hW hS => ?_)
      refine lv_iinc (v := nI (i + 1)) (lv' := [(1, .int (nI (i + 1))), (0, .ref a)]) hx hb dO_init_106 hl (k := 1) rfl (by exact nI_1 i) (by decide) rfl (fun ls hl => ?_)
      refine lv_goto (tgt := 87) hx hb dO_init_109 (by decide) ?_
      refine W.widen (k := 49 + 10 * (i + 1)) (n := 6361 + 45 * (i + 1)) (by omega) (by omega) ?_
      exact ih (i + 1) (by omega) (by omega) _ _ _ hW (I12_2 hI hf rfl) hS ls (lv_sub hl [1, 0] rfl)
set_option maxHeartbeats 4000000 in
set_option maxRecDepth 100000 in
theorem ct_Office_lp1 {p : Program} {e : Env} {s : State} {m : MethodId} {below : List Frame} {meth : Method} {c : Code} {args : Array Value} (l : Launch) (D : va_G) (cA : Nat → ClassId) (t1 t2 a : Nat) (hx : p.tables.exec = Jvm.exec) (hb : c.code = bO_init) (hr : meth.sig.returnType = none) (hml : c.maxLocals = 2) (hlocks : meth.locks = false) (hown : s.vm.findClass "TapOffice" = some m.cls) (hin : meth.name = "<init>") (hts : ∀ w ∈ wO_init, w.before args s = true) (hK : va_K D fw_cl (fw_tys cA) s) (hNw : ct_Nw s) (hSt : ct_S a t1 t2 s s.heap) :
    ∀ (n i : Nat), i ≤ 4 → 4 + 1 ≤ i + n → ∀ (E : Nat → va_E) (H : Heap) (locs : List Loc), sg_W D fw_cl a (14 + 9 * i) E H → I12 a cA i 0 E → va_S (fun q => a ≤ q) s.heap H locs → ∀ (ls : Array Slot), lv_has ls 2 [(0, .ref a), (1, .int (nI i))] → W p l e (ct_rm 2 89 6541) s m args below meth c H locs (13 + 9 * i) (65 + 1574 * i) (MQ below (va_Qv (fun u : Nat → va_E => I12 a cA 4 4 u) (fun u t => sg_W D fw_cl a 90 u t.heap) (fun q => a ≤ q)) args s 89 6541 (fun q => a ≤ q)) (F0 m 48 ls []) := by
  have htb := tb_use hts
  have hA : ∀ q, a ≤ q → (fun q => a ≤ q) q := fun _ h => h
  intro n
  induction n with
  | zero => intro i h1 h2; omega
  | succ n ih =>
    intro i hi1 hi2 E H locs hW hI hS ls hl
    refine lv_iload_n hx hb dO_init_48 rfl (lv_at hl 1 rfl) ?_
    refine lv_iconst (v := 4) hx hb dO_init_49 (by decide) ?_
    refine lv_icmp_ge (tgt := 85) hx hb dO_init_50 (by decide) (fun c1 => ?_) (fun c1 => ?_)
    · replace c1 := (nI_leI (a := 4) (b := i) (by omega) (by omega)).mp c1
      have e4 : i = 4 := by omega
      subst e4
      refine lv_iconst (v := 0) hx hb dO_init_85 (by decide) ?_
      refine lv_istore_n (lv' := [(1, .int 0), (0, .ref a)]) hx hb dO_init_86 rfl hl (by decide) rfl (fun ls hl => ?_)
      exact ct_Office_lp2 l D cA t1 t2 a hx hb hr hml hlocks hown hin hts hK hNw hSt 5 0 (by omega) (by omega) _ _ _ hW hI hS ls (lv_sub hl [1, 0] rfl)
    · replace c1 := mt (nI_leI (a := 4) (b := i) (by omega) (by omega)).mpr c1
      have hlt : i < 4 := by omega
      obtain ⟨f, hf, -⟩ := hI.2.2.1
      obtain ⟨g, hg, -⟩ := hI.2.2.2.1
      refine lv_aload_n hx hb dO_init_53 rfl (lv_at hl 0 rfl) ?_
      refine sg_get hx hb hts hin_O hown hK hW 0 (by omega) hI.1 rfl 1 (by decide) (htb _ m_142 rfl) (fun _ h => h) (v := .ref (a + 10)) rfl dO_init_54 ?_
      refine lv_iload_n hx hb dO_init_57 rfl (lv_at hl 1 rfl) ?_
      refine sg_new (ci := 2) hx hb hts hin_C ty_C ty_C_ok hown (htb _ m_67 rfl) (htb _ m_73 rfl) (htb _ m_27 rfl) hK hW hS rfl (fs := [.null, .null]) (fun j hj => by rcases (show j = 0 ∨ j = 1 by omega) with rfl | rfl <;> rfl) (by show _ ≤ 89; omega) (by show _ ≤ 6541; omega) dO_init_58 (fun H hW hS => ?_)
      refine lv_dup hx hb dO_init_61 rfl ?_
      refine ct_call (va_runI (As := []) (rest := [.ref (a + (14 + 9 * i)), .int (nI i), .ref (a + 10)]) ⟨hx, hb, hml, hown, hts⟩ (ct_Card l D cA t1 t2 (a + (14 + 9 * i))) (cwI 0 hts (tb_C m_76) rfl rfl rfl (htb _ m_27 rfl) (htb _ m_74 rfl) (htb _ m_75 rfl) rfl (by decide +kernel) ⟨Nat.le_of_ble_eq_true rfl, Nat.le_of_ble_eq_true rfl⟩) (ct_pre hK hNw hSt hW hS (va_up_self _ _ _) []) rfl rfl hl.1 rfl (lv_room (Nat.le_of_ble_eq_true rfl)) dO_init_62 ⟨by show _ ≤ 89; omega, by show _ ≤ 6541; omega⟩) hW hA hS (fun H locs hW hS => ?_)
      refine sg_aast hx hb hK hW hA hS 10 (by omega) (14 + 9 * i) (by omega) 2 2 (by rw [sg_cat_lt (by omega), va_up_ne _ _ (by omega)]; exact hf) rfl (sg_cat_ge (o := 0)) rfl i (nI_clamp (by omega)) (vp_in_nI hlt (by decide)) dO_init_65 (fun H locs hW hS => ?_)
      refine lv_aload_n hx hb dO_init_66 rfl (lv_at hl 0 rfl) ?_
      refine sg_get hx hb hts hin_O hown hK hW 0 (by omega) (by rw [va_up_ne _ _ (by omega), sg_cat_lt (by omega), va_up_ne _ _ (by omega)]; exact hI.1) rfl 2 (by decide) (htb _ m_143 rfl) (fun _ h => h) (v := .ref (a + 11)) rfl dO_init_67 ?_
      refine lv_iload_n hx hb dO_init_70 rfl (lv_at hl 1 rfl) ?_
      refine sg_new (ci := 3) hx hb hts hin_A ty_A ty_A_ok hown (htb _ m_69 rfl) (htb _ m_91 rfl) (htb _ m_29 rfl) hK hW hS rfl (fs := [.null, .null, .null, .int 0, .int 0, .int 0, .int 0]) (fun j hj => by rcases (show j = 0 ∨ j = 1 ∨ j = 2 ∨ j = 3 ∨ j = 4 ∨ j = 5 ∨ j = 6 by omega) with rfl | rfl | rfl | rfl | rfl | rfl | rfl <;> rfl) (by show _ ≤ 89; omega) (by show _ ≤ 6541; omega) dO_init_71 (fun H hW hS => ?_)
      refine lv_dup hx hb dO_init_74 rfl ?_
      refine ct_call (va_runIN (As := []) (rest := [.ref (a + (14 + 9 * i + 5)), .int (nI i), .ref (a + 11)]) ⟨hx, hb, hml, hown, hts⟩ (ct_Account l D cA t1 t2 (a + (14 + 9 * i + 5))) ⟨va_cnB 0 hts (tb_C m_94) rfl rfl rfl hNw.2.2.1 (htb _ m_29 rfl) (by decide +kernel) ⟨Nat.le_of_ble_eq_true rfl, Nat.le_of_ble_eq_true rfl⟩, rfl, htb _ m_93 rfl⟩ (ct_pre hK hNw hSt hW hS (va_up_self _ _ _) []) rfl rfl hl.1 rfl (lv_room (Nat.le_of_ble_eq_true rfl)) dO_init_75 ⟨by show _ ≤ 89; omega, by show _ ≤ 6541; omega⟩) hW hA hS (fun H locs hW hS => ?_)
      refine sg_aast hx hb hK hW hA hS 11 (by omega) (14 + 9 * i + 5) (by omega) 3 3 (by rw [sg_cat_lt (by omega), va_up_ne _ _ (by omega), va_up_ne _ _ (by omega), sg_cat_lt (by omega), va_up_ne _ _ (by omega)]; exact hg) rfl (sg_cat_ge (o := 0)) rfl i (nI_clamp (by omega)) (vp_in_nI hlt (by decide)) dO_init_78 (fun H locs hW hS => ?_)
      refine lv_iinc (v := nI (i + 1)) (lv' := [(1, .int (nI (i + 1))), (0, .ref a)]) hx hb dO_init_79 hl (k := 1) rfl (by exact nI_1 i) (by decide) rfl (fun ls hl => ?_)
      refine lv_goto (tgt := 48) hx hb dO_init_82 (by decide) ?_
      refine W.widen (k := 13 + 9 * (i + 1)) (n := 65 + 1574 * (i + 1)) (by omega) (by omega) ?_
      exact ih (i + 1) (by omega) (by omega) _ _ _ hW (I12_1 hI hf hg rfl) hS ls (lv_sub hl [1, 0] rfl)
set_option maxHeartbeats 4000000 in
set_option maxRecDepth 100000 in
theorem ct_Office (l : Launch) (D : va_G) (cA : Nat → ClassId) (t1 t2 a : Nat) : Met l yO_init wO_init (ct_rm 2 89 6541) (va_Pc [.ref a] (fun U => ct_O D cA t1 t2 a (.inr (0, [.null, .null, .null, .null, .null, .int 0, .int 0, .int 0])) U)) (va_Qv (fun u : Nat → va_E => I12 a cA 4 4 u) (fun u t => sg_W D fw_cl a 90 u t.heap) (fun q => a ≤ q)) 89 6541 (fun q => a ≤ q) := by
  refine Met.ofW (cc := bO_init) (maxL := 2) (ret := none) (by decide) rfl ?_
  intro p e s m args below meth c s₁ B hml hv
  obtain ⟨rfl, hW, hK, hNw, hSt⟩ := hv
  have hl := lv_entry ([.ref a]) (n := 2) (Nat.le_of_ble_eq_true rfl)
  rw [lg_entry_eq]
  generalize (lg_sl ([.ref a]) ++ List.replicate (2 - (lg_sl ([.ref a])).length) Slot.unset).toArray = ls at hl ⊢
  have hl : lv_has ls 2 [(0, .ref a)] := hl
  have hx := B.exec
  have hb := B.bytes
  have hr := B.returns
  have hlocks := B.notSynchronized
  have hts := atoms_spec (ws := wO_init) B.pre
  have hown : s.vm.findClass "TapOffice" = some m.cls := findClass_of_methodNamed B.named
  have hin : meth.name = "<init>" := (name_of_methodNamed B.named B.method).1
  have hS : va_S (fun q => a ≤ q) s.heap s.heap [] := va_S.rf
  have hA : ∀ q, a ≤ q → (fun q => a ≤ q) q := fun _ h => h
  have htb := tb_use hts
  refine lv_aload_n hx hb dO_init_0 rfl (lv_at hl 0 rfl) ?_
  refine W.objInit hx hb hown (htb _ m_39 rfl) (htb _ m_40 rfl) (htb _ m_41 rfl) rfl (by rw [hml]; exact hl.1) rfl dO_init_1 (Nat.le_of_ble_eq_true rfl) (Nat.le_of_ble_eq_true rfl) ?_
  refine W.eq (g2 := F0 m 4 ls []) rfl ?_
  refine lv_aload_n hx hb dO_init_4 rfl (lv_at hl 0 rfl) ?_
  refine sg_new (ci := 1) hx hb hts hin_T ty_T ty_T_ok hown (htb _ m_42 rfl) (htb _ m_43 rfl) (htb _ m_26 rfl) hK hW hS rfl (fs := [.null, .null]) (fun j hj => by rcases (show j = 0 ∨ j = 1 by omega) with rfl | rfl <;> rfl) (Nat.le_of_ble_eq_true rfl) (Nat.le_of_ble_eq_true rfl) dO_init_5 (fun H hW hS => ?_)
  refine lv_dup hx hb dO_init_8 rfl ?_
  refine ct_call (va_runIN (As := []) (rest := [.ref (a + 1), .ref a]) ⟨hx, hb, hml, hown, hts⟩ (ct_Tariff l D cA t1 t2 (a + (1))) ⟨va_cnB 0 hts (tb_C m_46) rfl rfl rfl hNw.2.1 (htb _ m_26 rfl) (by decide +kernel) ⟨Nat.le_of_ble_eq_true rfl, Nat.le_of_ble_eq_true rfl⟩, rfl, htb _ m_45 rfl⟩ (ct_pre hK hNw hSt hW hS rfl []) rfl rfl hl.1 rfl (lv_room (Nat.le_of_ble_eq_true rfl)) dO_init_9 ⟨Nat.le_of_ble_eq_true rfl, Nat.le_of_ble_eq_true rfl⟩) hW hA hS (fun H locs hW hS => ?_)
  refine sg_put hx hb hts hin_O ty_O ty_O_ok nm_O hown hK hW hA hS 0 (by decide) rfl rfl 0 (by decide) (htb _ m_141 rfl) rfl rfl hin (ty := .object "TapOffice$Tariff") (by decide +kernel) rfl rfl (Nat.le_of_ble_eq_true rfl) dO_init_12 (fun H locs hW hS => ?_)
  refine lv_aload_n hx hb dO_init_15 rfl (lv_at hl 0 rfl) ?_
  refine lv_iconst (v := 4) hx hb dO_init_16 (by decide) ?_
  refine sg_anew hx hb hown (htb _ m_67 rfl) (hNw.1 1) hK hW hS 2 rfl (N := 4) (by decide) (by decide) (by decide) (Nat.le_of_ble_eq_true rfl) (Nat.le_of_ble_eq_true rfl) dO_init_17 (fun H hW hS => ?_)
  refine sg_put hx hb hts hin_O ty_O ty_O_ok nm_O hown hK hW hA hS 0 (by decide) rfl rfl 1 (by decide) (htb _ m_142 rfl) rfl rfl hin (ty := .array (.object "TapOffice$Card")) (by decide +kernel) rfl rfl (Nat.le_of_ble_eq_true rfl) dO_init_20 (fun H locs hW hS => ?_)
  refine lv_aload_n hx hb dO_init_23 rfl (lv_at hl 0 rfl) ?_
  refine lv_iconst (v := 4) hx hb dO_init_24 (by decide) ?_
  refine sg_anew hx hb hown (htb _ m_69 rfl) (hNw.1 2) hK hW hS 3 rfl (N := 4) (by decide) (by decide) (by decide) (Nat.le_of_ble_eq_true rfl) (Nat.le_of_ble_eq_true rfl) dO_init_25 (fun H hW hS => ?_)
  refine sg_put hx hb hts hin_O ty_O ty_O_ok nm_O hown hK hW hA hS 0 (by decide) rfl rfl 2 (by decide) (htb _ m_143 rfl) rfl rfl hin (ty := .array (.object "TapOffice$Account")) (by decide +kernel) rfl rfl (Nat.le_of_ble_eq_true rfl) dO_init_28 (fun H locs hW hS => ?_)
  refine lv_aload_n hx hb dO_init_31 rfl (lv_at hl 0 rfl) ?_
  refine lv_iconst (v := 4) hx hb dO_init_32 (by decide) ?_
  refine sg_anew hx hb hown (htb _ m_71 rfl) (hNw.1 3) hK hW hS 4 rfl (N := 4) (by decide) (by decide) (by decide) (Nat.le_of_ble_eq_true rfl) (Nat.le_of_ble_eq_true rfl) dO_init_33 (fun H hW hS => ?_)
  refine sg_put hx hb hts hin_O ty_O ty_O_ok nm_O hown hK hW hA hS 0 (by decide) rfl rfl 3 (by decide) (htb _ m_144 rfl) rfl rfl hin (ty := .array (.object "TapOffice$Validator")) (by decide +kernel) rfl rfl (Nat.le_of_ble_eq_true rfl) dO_init_36 (fun H locs hW hS => ?_)
  refine lv_aload_n hx hb dO_init_39 rfl (lv_at hl 0 rfl) ?_
  refine lv_iconst (v := 4) hx hb dO_init_40 (by decide) ?_
  refine sg_newa (atype := .int) hx hb (htb _ m_66 rfl) rfl hK hW hS 0 rfl (a0 := (4, .inl (fun _ => 0))) (fun _ => rfl) (by decide) (by decide) (by decide) (Nat.le_of_ble_eq_true rfl) (Nat.le_of_ble_eq_true rfl) dO_init_41 (fun H hW hS => ?_)
  refine sg_put hx hb hts hin_O ty_O ty_O_ok nm_O hown hK hW hA hS 0 (by decide) rfl rfl 4 (by decide) (htb _ m_145 rfl) rfl rfl hin (ty := .array .int) (by decide +kernel) rfl rfl (Nat.le_of_ble_eq_true rfl) dO_init_43 (fun H locs hW hS => ?_)
  refine lv_iconst (v := 0) hx hb dO_init_46 (by decide) ?_
  refine lv_istore_n (lv' := [(1, .int 0), (0, .ref a)]) hx hb dO_init_47 rfl hl (by decide) rfl (fun ls hl => ?_)
  refine W.widen (k := 13) (n := 65) (Nat.le_of_ble_eq_true rfl) (Nat.le_of_ble_eq_true rfl) ?_
  refine ct_Office_lp1 l D cA t1 t2 a hx hb hr hml hlocks hown hin hts hK hNw hSt 5 0 (by omega) (by omega) _ _ _ hW ?_ hS ls (lv_sub hl [1, 0] rfl)
  refine ⟨rfl, fun o ho => ?_, ⟨_, rfl, fun j hj => absurd hj (Nat.not_lt_zero j)⟩, ⟨_, rfl, fun j hj => absurd hj (Nat.not_lt_zero j)⟩, ⟨_, rfl, fun j hj => absurd hj (Nat.not_lt_zero j)⟩, rfl, fun j hj => absurd hj (Nat.not_lt_zero j), fun j hj => absurd hj (Nat.not_lt_zero j)⟩
  rcases (show o = 0 ∨ o = 1 ∨ o = 2 ∨ o = 3 ∨ o = 4 ∨ o = 5 ∨ o = 6 ∨ o = 7 ∨ o = 8 by omega) with rfl | rfl | rfl | rfl | rfl | rfl | rfl | rfl | rfl <;> rfl

theorem ak_int {s : State} {args : Array Value} (h : (Cond.arrayClass .int).before args s = true) : ∃ c : ClassId, ArrOfT s c .int ∧ va_RA s c .int := by
  obtain ⟨c, k, comp, h1, h2, h3⟩ := Cond.arrayClass_spec h
  exact ⟨c, fun _ _ => ⟨fun q h => (by cases h), k, h2, comp, h3⟩, h1⟩
theorem ak_bool {s : State} {args : Array Value} (h : (Cond.arrayClass .boolean).before args s = true) : ∃ c : ClassId, ArrOfT s c .boolean ∧ va_RA s c .boolean := by
  obtain ⟨c, k, comp, h1, h2, h3⟩ := Cond.arrayClass_spec h
  exact ⟨c, fun _ _ => ⟨fun q h => (by cases h), k, h2, comp, h3⟩, h1⟩
theorem ak_arr {s : State} {args : Array Value} (h : (Cond.arrayOver (.array .int)).before args s = true) : ∃ c : ClassId, ArrOfT s c (.array .int) ∧ va_RA s c (.array .int) := by
  obtain ⟨comp, c, k, -, -, h2, h3, h1⟩ := arrayOverA_spec h
  exact ⟨c, fun _ _ => ⟨fun q h => (by cases h), k, h2, comp, h3⟩, h1⟩
theorem ak_obj {s : State} {args : Array Value} {C : String} (h : (Cond.arrayOver (.object C)).before args s = true) : ∃ c : ClassId, ArrOfT s c (.object C) ∧ va_RA s c (.object C) := by
  obtain ⟨comp, c, k, h0, -, h2, h3, h1⟩ := Cond.arrayOver_spec h
  exact ⟨c, fun _ _ => ⟨fun q h => (by cases h), k, h2, comp, h3⟩, k, comp, h2, h3, h0, h1⟩
set_option maxHeartbeats 4000000 in
set_option maxRecDepth 100000 in
/-- THE LAW, from its entry, in every start in which the table of first settings is of the class named [I (OPEN: the Statement doesn't give that) -/
theorem whole_open {p : Program} {e : Env} {s : State} {m : MethodId} {below : List Frame} {meth : Method} {c : Code} (l : Launch) {b L : Nat} {xs : Nat → Int32} (hL : L ≤ 2048) (C0 : lw_At p s m meth c b L xs) (hop : ∀ t : Nat, (Term.static "TapOffice" "FIRST_SETTINGS" "[I").eval #[Value.ref b] s none [] s = some (.ref t) → tb_I t s s.heap) : W p l e room_1 s m #[Value.ref b] below meth c s.heap [] 0 0 (lw_Z below #[Value.ref b] s) (entryFrame m ([Value.ref b] : List Value).toArray 4) := by
  obtain ⟨hx, hb, hr, hml, hown, hts0, hX, hbl, hlocks, hgv⟩ := id C0
  have hts := lw_ts hts0
  have hs := flat_of_before _ hgv
  obtain ⟨c0, i0, k0⟩ := u_known (C := "TapOffice") (T := T_O) (N := 8) (n := 8) hts hin_O (hts0 _ m_35)
  obtain ⟨c1, i1, k1⟩ := u_known (C := "TapOffice$Tariff") (T := T_T) (N := 2) (n := 2) hts hin_T (hts0 _ m_43)
  obtain ⟨c2, i2, k2⟩ := u_known (C := "TapOffice$Card") (T := T_C) (N := 2) (n := 2) hts hin_C (hts0 _ m_73)
  obtain ⟨c3, i3, k3⟩ := u_known (C := "TapOffice$Account") (T := T_A) (N := 7) (n := 7) hts hin_A (hts0 _ m_91)
  obtain ⟨c4, i4, k4⟩ := u_known (C := "TapOffice$Validator") (T := T_V) (N := 5) (n := 5) hts hin_V (hts0 _ m_119)
  obtain ⟨c5, i5, k5⟩ := u_known (C := "TapOfficeModel") (T := T_M) (N := 16) (n := 16) hts hin_M (hts0 _ m_407)
  obtain ⟨dC, dI, hKc⟩ : ∃ (dC : Nat → ClassId) (dI : Nat → Nat → Nat), ∀ (k : Nat) (q : vw_C), fw_cl[k]? = some q → u_Kn s q.1 q.2.1 q.2.2 (dC k) (dI k) := by
    refine ⟨fun k => match k with | 0 => c0 | 1 => c1 | 2 => c2 | 3 => c3 | 4 => c4 | _ => c5, fun k => match k with | 0 => i0 | 1 => i1 | 2 => i2 | 3 => i3 | 4 => i4 | _ => i5, ?_⟩
    intro k q hq
    match k, hq with
    | 0, hq => cases hq; exact k0
    | 1, hq => cases hq; exact k1
    | 2, hq => cases hq; exact k2
    | 3, hq => cases hq; exact k3
    | 4, hq => cases hq; exact k4
    | 5, hq => cases hq; exact k5
    | k + 6, hq => simp at hq
  obtain ⟨a0, r0⟩ := ak_int (hts0 _ m_66)
  obtain ⟨a1, r1⟩ := ak_arr (hts0 _ m_49)
  obtain ⟨a2, r2⟩ := ak_obj (hts0 _ m_68)
  obtain ⟨a3, r3⟩ := ak_obj (hts0 _ m_70)
  obtain ⟨a4, r4⟩ := ak_obj (hts0 _ m_72)
  obtain ⟨a5, r5⟩ := ak_bool (hts0 _ m_118)
  obtain ⟨cA, hKa⟩ : ∃ cA : Nat → ClassId, ∀ (k : Nat) (q : ClassId × FieldType), (fw_tys cA)[k]? = some q → ArrOfT s q.1 q.2 ∧ va_RA s q.1 q.2 := by
    refine ⟨fun k => match k with | 0 => a0 | 1 => a1 | 2 => a2 | 3 => a3 | 4 => a4 | _ => a5, ?_⟩
    intro k q hq
    match k, hq with
    | 0, hq => cases hq; exact r0
    | 1, hq => cases hq; exact r1
    | 2, hq => cases hq; exact r2
    | 3, hq => cases hq; exact r3
    | 4, hq => cases hq; exact r4
    | 5, hq => cases hq; exact r5
    | k + 6, hq => simp [fw_tys] at hq
  have hK : va_K (dC, dI) fw_cl (fw_tys cA) s := ⟨hKc, hKa⟩
  have hnb : va_Nw fw_nb s := va_Nw.of rfl (hts0 _ m_257)
  have hNw : ct_Nw s := by
    refine ⟨fun i => ?_, va_Nw.of rfl (hts0 _ m_44), va_Nw.of rfl (hts0 _ m_92), va_Nw.of rfl (hts0 _ m_50), va_Nw.of rfl (hts0 _ m_79), va_Nw.of rfl (hts0 _ m_57)⟩
    match i with
    | 0 => exact hts0 _ m_49
    | 1 => exact hts0 _ m_68
    | 2 => exact hts0 _ m_70
    | i + 3 => exact hts0 _ m_72
  obtain ⟨t_FIRST_SETTINGS, e_FIRST_SETTINGS, T_FIRST_SETTINGS⟩ := tb_Tof (args := #[Value.ref b]) (s := s) (tm := (.static "TapOffice" "FIRST_SETTINGS" "[I")) (N := 5) (f := cs_first) (A := fun q => s.heap.size ≤ q) (by decide) (hs (.arrayOf (.static "TapOffice" "FIRST_SETTINGS" "[I") .int) (by decide +kernel)) (va_eqt (hs (.eq (.length (.static "TapOffice" "FIRST_SETTINGS" "[I")) (.int 5)) (by decide +kernel))) (fun j hj => by
    rcases (show j = 0 ∨ j = 1 ∨ j = 2 ∨ j = 3 ∨ j = 4 by omega) with rfl | rfl | rfl | rfl | rfl
    · exact va_eqt (hs (.eq (.elem (.static "TapOffice" "FIRST_SETTINGS" "[I") (.int 0)) (.int (0))) (by decide +kernel))
    · exact va_eqt (hs (.eq (.elem (.static "TapOffice" "FIRST_SETTINGS" "[I") (.int 1)) (.int (0))) (by decide +kernel))
    · exact va_eqt (hs (.eq (.elem (.static "TapOffice" "FIRST_SETTINGS" "[I") (.int 2)) (.int (0))) (by decide +kernel))
    · exact va_eqt (hs (.eq (.elem (.static "TapOffice" "FIRST_SETTINGS" "[I") (.int 3)) (.int (9999))) (by decide +kernel))
    · exact va_eqt (hs (.eq (.elem (.static "TapOffice" "FIRST_SETTINGS" "[I") (.int 4)) (.int (0))) (by decide +kernel))) (fun a h => Nat.not_le.mpr h)
  have Z_FIRST_SETTINGS := va_Zof (A := fun q => s.heap.size ≤ q) (hts0 _ m_51) (hts0 _ m_25) e_FIRST_SETTINGS (fun a h => Nat.not_le.mpr h)
  obtain ⟨t_BLANK_RECORD, e_BLANK_RECORD, T_BLANK_RECORD⟩ := tb_Tof (args := #[Value.ref b]) (s := s) (tm := (.static "TapOffice" "BLANK_RECORD" "[I")) (N := 8) (f := cs_blank) (A := fun q => s.heap.size ≤ q) (by decide) (hs (.arrayOf (.static "TapOffice" "BLANK_RECORD" "[I") .int) (by decide +kernel)) (va_eqt (hs (.eq (.length (.static "TapOffice" "BLANK_RECORD" "[I")) (.int 8)) (by decide +kernel))) (fun j hj => by
    rcases (show j = 0 ∨ j = 1 ∨ j = 2 ∨ j = 3 ∨ j = 4 ∨ j = 5 ∨ j = 6 ∨ j = 7 by omega) with rfl | rfl | rfl | rfl | rfl | rfl | rfl | rfl
    · exact va_eqt (hs (.eq (.elem (.static "TapOffice" "BLANK_RECORD" "[I") (.int 0)) (.int (0))) (by decide +kernel))
    · exact va_eqt (hs (.eq (.elem (.static "TapOffice" "BLANK_RECORD" "[I") (.int 1)) (.int (-1))) (by decide +kernel))
    · exact va_eqt (hs (.eq (.elem (.static "TapOffice" "BLANK_RECORD" "[I") (.int 2)) (.int (0))) (by decide +kernel))
    · exact va_eqt (hs (.eq (.elem (.static "TapOffice" "BLANK_RECORD" "[I") (.int 3)) (.int (0))) (by decide +kernel))
    · exact va_eqt (hs (.eq (.elem (.static "TapOffice" "BLANK_RECORD" "[I") (.int 4)) (.int (0))) (by decide +kernel))
    · exact va_eqt (hs (.eq (.elem (.static "TapOffice" "BLANK_RECORD" "[I") (.int 5)) (.int (-1000))) (by decide +kernel))
    · exact va_eqt (hs (.eq (.elem (.static "TapOffice" "BLANK_RECORD" "[I") (.int 6)) (.int (0))) (by decide +kernel))
    · exact va_eqt (hs (.eq (.elem (.static "TapOffice" "BLANK_RECORD" "[I") (.int 7)) (.int (0))) (by decide +kernel))) (fun a h => Nat.not_le.mpr h)
  have Z_BLANK_RECORD := va_Zof (A := fun q => s.heap.size ≤ q) (hts0 _ m_80) (hts0 _ m_25) e_BLANK_RECORD (fun a h => Nat.not_le.mpr h)
  obtain ⟨t_MOST_SETTINGS, e_MOST_SETTINGS, T_MOST_SETTINGS⟩ := tb_Tof (args := #[Value.ref b]) (s := s) (tm := (.static "TapOffice" "MOST_SETTINGS" "[I")) (N := 5) (f := cs_most) (A := fun q => s.heap.size ≤ q) (by decide) (hs (.arrayOf (.static "TapOffice" "MOST_SETTINGS" "[I") .int) (by decide +kernel)) (va_eqt (hs (.eq (.length (.static "TapOffice" "MOST_SETTINGS" "[I")) (.int 5)) (by decide +kernel))) (fun j hj => by
    rcases (show j = 0 ∨ j = 1 ∨ j = 2 ∨ j = 3 ∨ j = 4 by omega) with rfl | rfl | rfl | rfl | rfl
    · exact va_eqt (hs (.eq (.elem (.static "TapOffice" "MOST_SETTINGS" "[I") (.int 0)) (.int (1440))) (by decide +kernel))
    · exact va_eqt (hs (.eq (.elem (.static "TapOffice" "MOST_SETTINGS" "[I") (.int 1)) (.int (1440))) (by decide +kernel))
    · exact va_eqt (hs (.eq (.elem (.static "TapOffice" "MOST_SETTINGS" "[I") (.int 2)) (.int (200))) (by decide +kernel))
    · exact va_eqt (hs (.eq (.elem (.static "TapOffice" "MOST_SETTINGS" "[I") (.int 3)) (.int (9999))) (by decide +kernel))
    · exact va_eqt (hs (.eq (.elem (.static "TapOffice" "MOST_SETTINGS" "[I") (.int 4)) (.int (999))) (by decide +kernel))) (fun a h => Nat.not_le.mpr h)
  have Z_MOST_SETTINGS := va_Zof (A := fun q => s.heap.size ≤ q) (hts0 _ m_182) (hts0 _ m_25) e_MOST_SETTINGS (fun a h => Nat.not_le.mpr h)
  have hSt : ct_S s.heap.size t_FIRST_SETTINGS t_BLANK_RECORD s s.heap := ⟨Z_FIRST_SETTINGS, T_FIRST_SETTINGS, hop _ e_FIRST_SETTINGS, Z_BLANK_RECORD, T_BLANK_RECORD⟩
  have hl := lv_entry ([.ref b]) (n := 4) (Nat.le_of_ble_eq_true rfl)
  rw [lg_entry_eq]
  generalize (lg_sl ([.ref b]) ++ List.replicate (4 - (lg_sl ([.ref b])).length) Slot.unset).toArray = ls at hl ⊢
  have hl : lv_has ls 4 [(0, .ref b)] := hl
  have hS : va_S (fun q => s.heap.size ≤ q) s.heap s.heap [] := va_S.rf
  have hA : ∀ q, s.heap.size ≤ q → (fun q => s.heap.size ≤ q) q := fun _ h => h
  have hW : sg_W (dC, dI) fw_cl s.heap.size 0 (fun _ => .inl (cA 0, 0, .inl (fun _ => 0))) s.heap := sg_of rfl (fun o ho => absurd ho (Nat.not_lt_zero o))
  refine sg_new (ci := 0) hx hb hts hin_O ty_O ty_O_ok hown (hts0 _ m_34) (hts0 _ m_35) (hts0 _ m_25) hK hW hS rfl (fs := [.null, .null, .null, .null, .null, .int 0, .int 0, .int 0]) (fun j hj => by rcases (show j = 0 ∨ j = 1 ∨ j = 2 ∨ j = 3 ∨ j = 4 ∨ j = 5 ∨ j = 6 ∨ j = 7 by omega) with rfl | rfl | rfl | rfl | rfl | rfl | rfl | rfl <;> rfl) (Nat.le_of_ble_eq_true rfl) (Nat.le_of_ble_eq_true rfl) dl_0 (fun H hW hS => ?_)
  refine lv_dup hx hb dl_3 rfl ?_
  refine va_callv (va_runI (As := []) (rest := [.ref s.heap.size]) ⟨hx, hb, hml, hown, hts⟩ (ct_Office l (dC, dI) cA t_FIRST_SETTINGS t_BLANK_RECORD s.heap.size) (cwI 0 hts (tb_C m_38) rfl rfl rfl (hts0 _ m_25) (hts0 _ m_36) (hts0 _ m_37) rfl (by decide +kernel) ⟨Nat.le_of_ble_eq_true rfl, Nat.le_of_ble_eq_true rfl⟩) (ct_pre (n := 0) hK hNw hSt hW hS rfl []) rfl rfl hl.1 rfl (lv_room (Nat.le_of_ble_eq_true rfl)) dl_4 ⟨Nat.le_of_ble_eq_true rfl, Nat.le_of_ble_eq_true rfl⟩) hS (fun q _ h => h) (fun q h => h) (fun E t H1 locs1 ht _ hE hB _ _ hS1 => ?_)
  rw [ht] at hB
  clear hW hS
  have hW : sg_W (dC, dI) fw_cl s.heap.size 90 E H1 := hB
  have hS := hS1
  refine lv_astore_n (lv' := [(1, .ref s.heap.size), (0, .ref b)]) hx hb dl_7 rfl hl (by decide) rfl (fun ls hl => ?_)
  refine sg_new (ci := 5) hx hb hts hin_M ty_M ty_M_ok hown (hts0 _ m_406) (hts0 _ m_407) (hts0 _ m_31) hK hW hS rfl (fs := [.null, .null, .int 0, .null, .null, .null, .null, .null, .null, .null, .null, .null, .int 0, .null, .null, .null]) (fun j hj => by rcases (show j = 0 ∨ j = 1 ∨ j = 2 ∨ j = 3 ∨ j = 4 ∨ j = 5 ∨ j = 6 ∨ j = 7 ∨ j = 8 ∨ j = 9 ∨ j = 10 ∨ j = 11 ∨ j = 12 ∨ j = 13 ∨ j = 14 ∨ j = 15 by omega) with rfl | rfl | rfl | rfl | rfl | rfl | rfl | rfl | rfl | rfl | rfl | rfl | rfl | rfl | rfl | rfl <;> rfl) (Nat.le_of_ble_eq_true rfl) (Nat.le_of_ble_eq_true rfl) dl_8 (fun H hW hS => ?_)
  refine lv_dup hx hb dl_11 rfl ?_
  refine va_callv (va_runI (As := []) (rest := [.ref (s.heap.size + 90)]) ⟨hx, hb, hml, hown, hts⟩ (ct_Model l (dC, dI) cA (s.heap.size + 90)) (cwI 0 hts (tb_C m_410) rfl rfl rfl (hts0 _ m_31) (hts0 _ m_408) (hts0 _ m_409) rfl (by decide +kernel) ⟨Nat.le_of_ble_eq_true rfl, Nat.le_of_ble_eq_true rfl⟩) ⟨fun a U g mk q => ⟨q.1, q.2.1, va_K.moved (u := U) (U := U.calling g mk a) (Vm.Alike.refl U.vm) q.2.2⟩, fun U hU hW2 => ⟨rfl, by rw [hU]; exact sg_one (o := 0) hW (va_up_self _ _ _), va_K.moved hW2.alike hK⟩⟩ rfl rfl hl.1 rfl (lv_room (Nat.le_of_ble_eq_true rfl)) dl_12 ⟨Nat.le_of_ble_eq_true rfl, Nat.le_of_ble_eq_true rfl⟩) hS (fun q _ h => Nat.le_trans (Nat.le_add_right _ _) h) (fun q h => Nat.le_trans (Nat.le_add_right _ _) h) (fun E2 t H2 locs2 ht _ hE2 hB _ hk hS => ?_)
  rw [ht] at hB
  have hWx := I12_W (H := H2) (D := (dC, dI)) (cA := cA) (a := s.heap.size) (E := E) (fun o ho => by
    have h1 := hW.to o (by omega)
    rw [va_up_ne _ _ (by omega)] at h1
    exact h1.kept (hk _ h1.lt (by show ¬ s.heap.size + 90 ≤ s.heap.size + o; omega))) hE
  have hWy := JM_W (H := H2) (D := (dC, dI)) (cA := cA) (a := s.heap.size + 90) (E := E2) (fun o ho => hB.to o ho) hE2
  refine lv_astore_n (lv' := [(2, .ref (s.heap.size + 90)), (1, .ref s.heap.size), (0, .ref b)]) hx hb dl_15 rfl hl (by decide) rfl (fun ls hl => ?_)
  refine lv_iconst (v := 0) hx hb dl_16 (by decide) ?_
  refine lv_istore_n (lv' := [(3, .int 0), (2, .ref (s.heap.size + 90)), (1, .ref s.heap.size), (0, .ref b)]) hx hb dl_17 rfl hl (by decide) rfl (fun ls hl => ?_)
  have hI : lw_I ((dC, dI), cA, fun t => s.heap.size + co t) ((dC, dI), cA, fun t => s.heap.size + 90 + mo t) s := ⟨co_inj _ _ _, mo_inj _ _ _, hK, hK, hnb, fun t _ => Nat.le_add_right _ _, fun t _ => by show s.heap.size ≤ s.heap.size + 90 + mo t; omega, fun t u ht hu => by have := co_lt ht; show s.heap.size + co t ≠ s.heap.size + 90 + mo u; omega, _, Z_MOST_SETTINGS, T_MOST_SETTINGS.to (by decide)⟩
  refine W.widen (k := 105) (n := 13082) (Nat.le_of_ble_eq_true rfl) (Nat.le_of_ble_eq_true rfl) ?_
  exact lw_loop hL C0 hI 513 0 s0 t0 H2 _ ls (by omega) (by omega) re_start hWx hWy hS (lv_sub hl [3, 2, 1, 0] rfl)

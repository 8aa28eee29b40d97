theorem sg_congr {D : va_G} {cl : List vw_C} {b n : Nat} {E E' : Nat → va_E} {H : Heap} (h : sg_W D cl b n E H) (he : ∀ o, o < n → E o = E' o) : sg_W D cl b n E' H := sg_of h.1 (fun o ho => he o ho ▸ h.to o ho)
def ctA (a : Nat) (cA : Nat → ClassId) (o : Nat) : va_E := match o with
  | 0 => .inr (3, [.ref (a + 1), .ref (a + 2), .ref (a + 3), .int 0, .int 0, .int 0, .int 0])
  | 1 => .inl (cA 5, 513, .inl (fun _ => 0))
  | _ => .inl (cA 0, 513, .inl (fun _ => 0))
def ctV (a : Nat) (cA : Nat → ClassId) (z : Int32) (o : Nat) : va_E := match o with
  | 0 => .inr (4, [.ref (a + 1), .int 0, .int z, .int 0, .int 0])
  | 1 => .inl (cA 1, 8, .inr (.inr (.inr (.inr (fun j => if j < 8 then some (a + 1 + 1 + j) else none)))))
  | _ => .inl (cA 0, 4, .inl (fun _ => 0))
def ctC (a : Nat) (cA : Nat → ClassId) (o : Nat) : va_E := match o with
  | 0 => .inr (2, [.ref (a + 1), .ref (a + 4)])
  | 1 => .inl (cA 1, 2, .inr (.inr (.inr (.inr (fun j => if j < 2 then some (a + 1 + 1 + j) else none)))))
  | 4 => .inl (cA 0, 8, .inl (fun _ => 0))
  | _ => .inl (cA 0, 8, .inl (va_cpy cs_blank (fun _ => 0) 0 0 8))
def ctT (a : Nat) (cA : Nat → ClassId) (o : Nat) : va_E := match o with
  | 0 => .inr (1, [.ref (a + 1), .ref (a + 8)])
  | 1 => .inl (cA 1, 6, .inr (.inr (.inr (.inr (fun j => if j < 6 then some (a + 1 + 1 + j) else none)))))
  | 8 => .inl (cA 0, 5, .inl cs_first)
  | _ => .inl (cA 0, 6, .inl (fun _ => 0))
set_option maxHeartbeats 4000000 in
set_option maxRecDepth 100000 in
theorem ct_Account (l : Launch) (D : va_G) (cA : Nat → ClassId) (t1 t2 a : Nat) : ct_M l yA_init wA_init (ct_rm 1 3 1539) D cA t1 t2 a (.inr (3, [.null, .null, .null, .int 0, .int 0, .int 0, .int 0])) [.ref a] 4 (ctA a cA) 3 1539 := by
  refine ct_of (cc := bA_init) (maxL := 1) (by decide) rfl (Nat.le_of_ble_eq_true rfl) ?_
  intro p e s m below meth c ls hx hb hr hml hlocks hown hin hts hK hNw hSt hW hl
  have hS : va_S (fun q => a ≤ q) s.heap s.heap [] := va_S.rf
  have hA : ∀ q, a ≤ q → (fun q => a ≤ q) q := fun _ h => h
  have htb := tb_use hts
  have hin : meth.name = "<init>" := hin
  have hown : s.vm.findClass "TapOffice$Account" = some m.cls := hown
  have hl : lv_has ls 1 [(0, .ref a)] := hl
  refine lv_aload_n hx hb dA_init_0 rfl (lv_at hl 0 rfl) ?_
  refine W.objInit hx hb hown (htb _ m_95 rfl) (htb _ m_40 rfl) (htb _ m_41 rfl) rfl (by rw [hml]; exact hl.1) rfl dA_init_1 (Nat.le_of_ble_eq_true rfl) (Nat.le_of_ble_eq_true rfl) ?_
  refine W.eq (g2 := F0 m 4 ls []) rfl ?_
  refine lv_aload_n hx hb dA_init_4 rfl (lv_at hl 0 rfl) ?_
  refine lv_sipush (v := 513) hx hb dA_init_5 (by decide) ?_
  refine sg_newa (atype := .boolean) hx hb (htb _ m_118 rfl) rfl hK hW hS 5 rfl (a0 := (513, .inl (fun _ => 0))) (fun _ => rfl) (by decide) (by decide) (by decide) (Nat.le_of_ble_eq_true rfl) (Nat.le_of_ble_eq_true rfl) dA_init_8 (fun H hW hS => ?_)
  refine sg_put hx hb hts hin_A ty_A ty_A_ok nm_A hown hK hW hA hS 0 (by decide) rfl rfl 0 (by decide) (htb _ m_96 rfl) rfl rfl hin (ty := .array .boolean) (by decide +kernel) rfl rfl (Nat.le_of_ble_eq_true rfl) dA_init_10 (fun H locs hW hS => ?_)
  refine lv_aload_n hx hb dA_init_13 rfl (lv_at hl 0 rfl) ?_
  refine lv_sipush (v := 513) hx hb dA_init_14 (by decide) ?_
  refine sg_newa (atype := .int) hx hb (htb _ m_66 rfl) rfl hK hW hS 0 rfl (a0 := (513, .inl (fun _ => 0))) (fun _ => rfl) (by decide) (by decide) (by decide) (Nat.le_of_ble_eq_true rfl) (Nat.le_of_ble_eq_true rfl) dA_init_17 (fun H hW hS => ?_)
  refine sg_put hx hb hts hin_A ty_A ty_A_ok nm_A hown hK hW hA hS 0 (by decide) rfl rfl 1 (by decide) (htb _ m_97 rfl) rfl rfl hin (ty := .array .int) (by decide +kernel) rfl rfl (Nat.le_of_ble_eq_true rfl) dA_init_19 (fun H locs hW hS => ?_)
  refine lv_aload_n hx hb dA_init_22 rfl (lv_at hl 0 rfl) ?_
  refine lv_sipush (v := 513) hx hb dA_init_23 (by decide) ?_
  refine sg_newa (atype := .int) hx hb (htb _ m_66 rfl) rfl hK hW hS 0 rfl (a0 := (513, .inl (fun _ => 0))) (fun _ => rfl) (by decide) (by decide) (by decide) (Nat.le_of_ble_eq_true rfl) (Nat.le_of_ble_eq_true rfl) dA_init_26 (fun H hW hS => ?_)
  refine sg_put hx hb hts hin_A ty_A ty_A_ok nm_A hown hK hW hA hS 0 (by decide) rfl rfl 2 (by decide) (htb _ m_98 rfl) rfl rfl hin (ty := .array .int) (by decide +kernel) rfl rfl (Nat.le_of_ble_eq_true rfl) dA_init_28 (fun H locs hW hS => ?_)
  refine ct_ret hx hb hr hlocks (sg_congr hW (fun o ho => ?_)) hS (Nat.le_of_ble_eq_true rfl) (Nat.le_of_ble_eq_true rfl) dA_init_31
  rcases (show o = 0 ∨ o = 1 ∨ o = 2 ∨ o = 3 by omega) with rfl | rfl | rfl | rfl <;> rfl
set_option maxHeartbeats 4000000 in
set_option maxRecDepth 100000 in
theorem ct_Validator (l : Launch) (D : va_G) (cA : Nat → ClassId) (t1 t2 a : Nat) (z : Int32) : ct_M l yV_init wV_init (ct_rm 1 9 40) D cA t1 t2 a (.inr (4, [.null, .int 0, .int 0, .int 0, .int 0])) [.ref a, .int z] 10 (ctV a cA z) 9 40 := by
  refine ct_of (cc := bV_init) (maxL := 2) (by decide) rfl (Nat.le_of_ble_eq_true rfl) ?_
  intro p e s m below meth c ls hx hb hr hml hlocks hown hin hts hK hNw hSt hW hl
  have hS : va_S (fun q => a ≤ q) s.heap s.heap [] := va_S.rf
  have hA : ∀ q, a ≤ q → (fun q => a ≤ q) q := fun _ h => h
  have htb := tb_use hts
  have hin : meth.name = "<init>" := hin
  have hown : s.vm.findClass "TapOffice$Validator" = some m.cls := hown
  have hl : lv_has ls 2 [(0, .ref a), (1, .int z)] := hl
  refine lv_aload_n hx hb dV_init_0 rfl (lv_at hl 0 rfl) ?_
  refine W.objInit hx hb hown (htb _ m_123 rfl) (htb _ m_40 rfl) (htb _ m_41 rfl) rfl (by rw [hml]; exact hl.1) rfl dV_init_1 (Nat.le_of_ble_eq_true rfl) (Nat.le_of_ble_eq_true rfl) ?_
  refine W.eq (g2 := F0 m 4 ls []) rfl ?_
  refine lv_aload_n hx hb dV_init_4 rfl (lv_at hl 0 rfl) ?_
  refine lv_bipush (v := 8) hx hb dV_init_5 (by decide) ?_
  refine lv_iconst (v := 4) hx hb dV_init_7 (by decide) ?_
  refine sg_multi hx hb hown (htb _ m_124 rfl) (hNw.1 0) (htb _ m_66 rfl) hK hW hA hS 1 0 rfl rfl (N := 8) (M := 4) (by decide) (by decide) (by decide) (by decide) (by decide) (by decide) (Nat.le_of_ble_eq_true rfl) (Nat.le_of_ble_eq_true rfl) dV_init_8 (fun H locs hW hS => ?_)
  refine sg_put hx hb hts hin_V ty_V ty_V_ok nm_V hown hK hW hA hS 0 (by decide) rfl rfl 0 (by decide) (htb _ m_125 rfl) rfl rfl hin (ty := .array (.array .int)) (by decide +kernel) rfl rfl (Nat.le_of_ble_eq_true rfl) dV_init_12 (fun H locs hW hS => ?_)
  refine lv_aload_n hx hb dV_init_15 rfl (lv_at hl 0 rfl) ?_
  refine lv_iload_n hx hb dV_init_16 rfl (lv_at hl 1 rfl) ?_
  refine sg_put hx hb hts hin_V ty_V ty_V_ok nm_V hown hK hW hA hS 0 (by decide) rfl rfl 2 (by decide) (htb _ m_127 rfl) rfl rfl hin (ty := .int) (by decide +kernel) rfl rfl (Nat.le_of_ble_eq_true rfl) dV_init_17 (fun H locs hW hS => ?_)
  refine ct_ret hx hb hr hlocks (sg_congr hW (fun o ho => ?_)) hS (Nat.le_of_ble_eq_true rfl) (Nat.le_of_ble_eq_true rfl) dV_init_20
  rcases (show o = 0 ∨ o = 1 ∨ o = 2 ∨ o = 3 ∨ o = 4 ∨ o = 5 ∨ o = 6 ∨ o = 7 ∨ o = 8 ∨ o = 9 by omega) with rfl | rfl | rfl | rfl | rfl | rfl | rfl | rfl | rfl | rfl <;> rfl
set_option maxHeartbeats 4000000 in
set_option maxRecDepth 100000 in
theorem ct_Card (l : Launch) (D : va_G) (cA : Nat → ClassId) (t1 t2 a : Nat) : ct_M l yC_init wC_init (ct_rm 1 4 26) D cA t1 t2 a (.inr (2, [.null, .null])) [.ref a] 5 (ctC a cA) 4 26 := by
  refine ct_of (cc := bC_init) (maxL := 1) (by decide) rfl (Nat.le_of_ble_eq_true rfl) ?_
  intro p e s m below meth c ls hx hb hr hml hlocks hown hin hts hK hNw hSt hW hl
  have hS : va_S (fun q => a ≤ q) s.heap s.heap [] := va_S.rf
  have hA : ∀ q, a ≤ q → (fun q => a ≤ q) q := fun _ h => h
  have htb := tb_use hts
  have hin : meth.name = "<init>" := hin
  have hown : s.vm.findClass "TapOffice$Card" = some m.cls := hown
  have hl : lv_has ls 1 [(0, .ref a)] := hl
  refine lv_aload_n hx hb dC_init_0 rfl (lv_at hl 0 rfl) ?_
  refine W.objInit hx hb hown (htb _ m_77 rfl) (htb _ m_40 rfl) (htb _ m_41 rfl) rfl (by rw [hml]; exact hl.1) rfl dC_init_1 (Nat.le_of_ble_eq_true rfl) (Nat.le_of_ble_eq_true rfl) ?_
  refine W.eq (g2 := F0 m 4 ls []) rfl ?_
  refine lv_aload_n hx hb dC_init_4 rfl (lv_at hl 0 rfl) ?_
  refine lv_iconst (v := 2) hx hb dC_init_5 (by decide) ?_
  refine lv_bipush (v := 8) hx hb dC_init_6 (by decide) ?_
  refine sg_multi hx hb hown (htb _ m_78 rfl) (hNw.1 0) (htb _ m_66 rfl) hK hW hA hS 1 0 rfl rfl (N := 2) (M := 8) (by decide) (by decide) (by decide) (by decide) (by decide) (by decide) (Nat.le_of_ble_eq_true rfl) (Nat.le_of_ble_eq_true rfl) dC_init_8 (fun H locs hW hS => ?_)
  refine sg_put hx hb hts hin_C ty_C ty_C_ok nm_C hown hK hW hA hS 0 (by decide) rfl rfl 0 (by decide) (htb _ m_84 rfl) rfl rfl hin (ty := .array (.array .int)) (by decide +kernel) rfl rfl (Nat.le_of_ble_eq_true rfl) dC_init_12 (fun H locs hW hS => ?_)
  refine lv_aload_n hx hb dC_init_15 rfl (lv_at hl 0 rfl) ?_
  refine lv_bipush (v := 8) hx hb dC_init_16 (by decide) ?_
  refine sg_newa (atype := .int) hx hb (htb _ m_66 rfl) rfl hK hW hS 0 rfl (a0 := (8, .inl (fun _ => 0))) (fun _ => rfl) (by decide) (by decide) (by decide) (Nat.le_of_ble_eq_true rfl) (Nat.le_of_ble_eq_true rfl) dC_init_18 (fun H hW hS => ?_)
  refine sg_put hx hb hts hin_C ty_C ty_C_ok nm_C hown hK hW hA hS 0 (by decide) rfl rfl 1 (by decide) (htb _ m_85 rfl) rfl rfl hin (ty := .array .int) (by decide +kernel) rfl rfl (Nat.le_of_ble_eq_true rfl) dC_init_20 (fun H locs hW hS => ?_)
  refine va_getsN hx hb hSt.2.2.2.1 hS hown (va_Nw.use rfl hNw.2.2.2.2.1) (fun _ h => h) dC_init_23 ?_
  refine lv_iconst (v := 0) hx hb dC_init_26 (by decide) ?_
  refine lv_aload_n hx hb dC_init_27 rfl (lv_at hl 0 rfl) ?_
  refine sg_get hx hb hts hin_C hown hK hW 0 (by decide) rfl rfl 0 (by decide) (htb _ m_84 rfl) (fun _ h => h) rfl dC_init_28 ?_
  refine lv_iconst (v := 0) hx hb dC_init_31 (by decide) ?_
  refine sg_aald hx hb hK hW 1 (by decide) 1 rfl (ty := .array .int) rfl rfl 0 (by decide) (v := a + 2) rfl (by unfold vp_in; decide) dC_init_32 ?_
  refine lv_iconst (v := 0) hx hb dC_init_33 (by decide) ?_
  refine lv_bipush (v := 8) hx hb dC_init_34 (by decide) ?_
  refine sg_copyT hx hb (hml.trans hl.1.symm) hown (htb _ m_81 rfl) (htb _ m_83 rfl) (htb _ m_82 rfl) (htb _ m_28 rfl) hK hW hA hS hSt.2.2.2.2 2 (by decide) 0 rfl rfl (by decide) (by decide) (Nat.le_of_ble_eq_true rfl) (Nat.le_of_ble_eq_true rfl) dC_init_36 (fun H locs hW hS => ?_)
  refine va_getsN hx hb hSt.2.2.2.1 hS hown (va_Nw.use rfl hNw.2.2.2.2.1) (fun _ h => h) dC_init_39 ?_
  refine lv_iconst (v := 0) hx hb dC_init_42 (by decide) ?_
  refine lv_aload_n hx hb dC_init_43 rfl (lv_at hl 0 rfl) ?_
  refine sg_get hx hb hts hin_C hown hK hW 0 (by decide) rfl rfl 0 (by decide) (htb _ m_84 rfl) (fun _ h => h) rfl dC_init_44 ?_
  refine lv_iconst (v := 1) hx hb dC_init_47 (by decide) ?_
  refine sg_aald hx hb hK hW 1 (by decide) 1 rfl (ty := .array .int) rfl rfl 1 (by decide) (v := a + 3) rfl (by unfold vp_in; decide) dC_init_48 ?_
  refine lv_iconst (v := 0) hx hb dC_init_49 (by decide) ?_
  refine lv_bipush (v := 8) hx hb dC_init_50 (by decide) ?_
  refine sg_copyT hx hb (hml.trans hl.1.symm) hown (htb _ m_81 rfl) (htb _ m_83 rfl) (htb _ m_82 rfl) (htb _ m_28 rfl) hK hW hA hS hSt.2.2.2.2 3 (by decide) 0 rfl rfl (by decide) (by decide) (Nat.le_of_ble_eq_true rfl) (Nat.le_of_ble_eq_true rfl) dC_init_52 (fun H locs hW hS => ?_)
  refine ct_ret hx hb hr hlocks (sg_congr hW (fun o ho => ?_)) hS (Nat.le_of_ble_eq_true rfl) (Nat.le_of_ble_eq_true rfl) dC_init_55
  rcases (show o = 0 ∨ o = 1 ∨ o = 2 ∨ o = 3 ∨ o = 4 by omega) with rfl | rfl | rfl | rfl | rfl <;> rfl
set_option maxHeartbeats 4000000 in
set_option maxRecDepth 100000 in
theorem ct_Tariff (l : Launch) (D : va_G) (cA : Nat → ClassId) (t1 t2 a : Nat) : ct_M l yT_init wT_init (ct_rm 1 8 47) D cA t1 t2 a (.inr (1, [.null, .null])) [.ref a] 9 (ctT a cA) 8 47 := by
  refine ct_of (cc := bT_init) (maxL := 1) (by decide) rfl (Nat.le_of_ble_eq_true rfl) ?_
  intro p e s m below meth c ls hx hb hr hml hlocks hown hin hts hK hNw hSt hW hl
  have hS : va_S (fun q => a ≤ q) s.heap s.heap [] := va_S.rf
  have hA : ∀ q, a ≤ q → (fun q => a ≤ q) q := fun _ h => h
  have htb := tb_use hts
  have hin : meth.name = "<init>" := hin
  have hown : s.vm.findClass "TapOffice$Tariff" = some m.cls := hown
  have hl : lv_has ls 1 [(0, .ref a)] := hl
  refine lv_aload_n hx hb dT_init_0 rfl (lv_at hl 0 rfl) ?_
  refine W.objInit hx hb hown (htb _ m_47 rfl) (htb _ m_40 rfl) (htb _ m_41 rfl) rfl (by rw [hml]; exact hl.1) rfl dT_init_1 (Nat.le_of_ble_eq_true rfl) (Nat.le_of_ble_eq_true rfl) ?_
  refine W.eq (g2 := F0 m 4 ls []) rfl ?_
  refine lv_aload_n hx hb dT_init_4 rfl (lv_at hl 0 rfl) ?_
  refine lv_bipush (v := 6) hx hb dT_init_5 (by decide) ?_
  refine lv_bipush (v := 6) hx hb dT_init_7 (by decide) ?_
  refine sg_multi hx hb hown (htb _ m_48 rfl) (hNw.1 0) (htb _ m_66 rfl) hK hW hA hS 1 0 rfl rfl (N := 6) (M := 6) (by decide) (by decide) (by decide) (by decide) (by decide) (by decide) (Nat.le_of_ble_eq_true rfl) (Nat.le_of_ble_eq_true rfl) dT_init_9 (fun H locs hW hS => ?_)
  refine sg_put hx hb hts hin_T ty_T ty_T_ok nm_T hown hK hW hA hS 0 (by decide) rfl rfl 0 (by decide) (htb _ m_59 rfl) rfl rfl hin (ty := .array (.array .int)) (by decide +kernel) rfl rfl (Nat.le_of_ble_eq_true rfl) dT_init_13 (fun H locs hW hS => ?_)
  refine lv_aload_n hx hb dT_init_16 rfl (lv_at hl 0 rfl) ?_
  refine va_getsN hx hb hSt.1 hS hown (va_Nw.use rfl hNw.2.2.2.1) (fun _ h => h) dT_init_17 ?_
  refine sg_cloneT hx hb (hml.trans hl.1.symm) hown (htb _ m_52 rfl) (htb _ m_53 rfl) (htb _ m_54 rfl) (htb _ m_55 rfl) (htb _ m_56 rfl) hNw.2.2.2.2.2 hK hW hS hSt.2.1 hSt.2.2.1 0 rfl (Nat.le_of_ble_eq_true rfl) (Nat.le_of_ble_eq_true rfl) (Nat.le_of_ble_eq_true rfl) (Nat.le_of_ble_eq_true rfl) dT_init_20 (fun H hW hS => ?_)
  refine va_castA hx hb hown (htb _ m_58 rfl) hW.2 8 (sg_at 8 (by decide) rfl) (hK.2 0 _ rfl).2 dT_init_23 ?_
  refine sg_put hx hb hts hin_T ty_T ty_T_ok nm_T hown hK hW hA hS 0 (by decide) rfl rfl 1 (by decide) (htb _ m_60 rfl) rfl rfl hin (ty := .array .int) (by decide +kernel) rfl rfl (Nat.le_of_ble_eq_true rfl) dT_init_26 (fun H locs hW hS => ?_)
  refine ct_ret hx hb hr hlocks (sg_congr hW (fun o ho => ?_)) hS (Nat.le_of_ble_eq_true rfl) (Nat.le_of_ble_eq_true rfl) dT_init_29
  rcases (show o = 0 ∨ o = 1 ∨ o = 2 ∨ o = 3 ∨ o = 4 ∨ o = 5 ∨ o = 6 ∨ o = 7 ∨ o = 8 by omega) with rfl | rfl | rfl | rfl | rfl | rfl | rfl | rfl | rfl <;> rfl

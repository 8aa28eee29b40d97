def ms_tap_s36 (r56 : Int32) (σ94 : fw_S) : Int32 × fw_S :=
  (r56, σ94)
def ms_tap_s35 (a2 : Int32) (r56 : Int32) (σ92 : fw_S) : Int32 × fw_S :=
  ms_tap_s36 r56 (fw_st σ92 (8, 0, 0) a2.toNatClampNeg ((σ92 (8, 0, 0) a2.toNatClampNeg) + 1))
def ms_tap_s34 (a2 : Int32) (r56 : Int32) (σ82 : fw_S) (σ90 : fw_S) : Int32 × fw_S :=
  ms_tap_s35 a2 r56 (fw_st σ90 (7, 0, 0) (((32 * a2.toNatClampNeg) + (4 * ((σ82 (8, 0, 0) a2.toNatClampNeg).toNatClampNeg))) + 3) (σ90 (4, 0, 0) 0))
def ms_tap_s33 (a2 : Int32) (r56 : Int32) (σ82 : fw_S) (σ88 : fw_S) : Int32 × fw_S :=
  ms_tap_s34 a2 r56 σ82 (fw_st σ88 (7, 0, 0) (((32 * a2.toNatClampNeg) + (4 * ((σ82 (8, 0, 0) a2.toNatClampNeg).toNatClampNeg))) + 2) r56)
def ms_tap_s32 (a2 : Int32) (r56 : Int32) (z63 : Int32) (σ82 : fw_S) (σ86 : fw_S) : Int32 × fw_S :=
  ms_tap_s33 a2 r56 σ82 (fw_st σ86 (7, 0, 0) (((32 * a2.toNatClampNeg) + (4 * ((σ82 (8, 0, 0) a2.toNatClampNeg).toNatClampNeg))) + 1) z63)
def ms_tap_s37 (σ96 : fw_S) : Int32 × fw_S :=
  ((-5), σ96)
def ms_tap_s31 (a1 : Int32) (a2 : Int32) (a3 : Int32) (r56 : Int32) (z63 : Int32) (σ82 : fw_S) : Int32 × fw_S :=
  if a3 ≤ 0 then ms_tap_s32 a2 r56 z63 σ82 (fw_st σ82 (7, 0, 0) ((32 * a2.toNatClampNeg) + (4 * ((σ82 (8, 0, 0) a2.toNatClampNeg).toNatClampNeg))) (nI a1.toNatClampNeg)) else ms_tap_s37 (fw_st σ82 (0, 0, 0) 12 ((σ82 (0, 0, 0) 12) + 1))
def ms_tap_s29 (r56 : Int32) (σ78 : fw_S) : Int32 × fw_S :=
  (r56, σ78)
def ms_tap_s28 (a2 : Int32) (r56 : Int32) (σ76 : fw_S) : Int32 × fw_S :=
  ms_tap_s29 r56 (fw_st σ76 (8, 0, 0) a2.toNatClampNeg ((σ76 (8, 0, 0) a2.toNatClampNeg) + 1))
def ms_tap_s27 (a2 : Int32) (r56 : Int32) (σ66 : fw_S) (σ74 : fw_S) : Int32 × fw_S :=
  ms_tap_s28 a2 r56 (fw_st σ74 (7, 0, 0) (((32 * a2.toNatClampNeg) + (4 * ((σ66 (8, 0, 0) a2.toNatClampNeg).toNatClampNeg))) + 3) (σ74 (4, 0, 0) 0))
def ms_tap_s26 (a2 : Int32) (r56 : Int32) (σ66 : fw_S) (σ72 : fw_S) : Int32 × fw_S :=
  ms_tap_s27 a2 r56 σ66 (fw_st σ72 (7, 0, 0) (((32 * a2.toNatClampNeg) + (4 * ((σ66 (8, 0, 0) a2.toNatClampNeg).toNatClampNeg))) + 2) r56)
def ms_tap_s25 (a2 : Int32) (r56 : Int32) (z63 : Int32) (σ66 : fw_S) (σ70 : fw_S) : Int32 × fw_S :=
  ms_tap_s26 a2 r56 σ66 (fw_st σ70 (7, 0, 0) (((32 * a2.toNatClampNeg) + (4 * ((σ66 (8, 0, 0) a2.toNatClampNeg).toNatClampNeg))) + 1) z63)
def ms_tap_s30 (σ80 : fw_S) : Int32 × fw_S :=
  ((-5), σ80)
def ms_tap_s24 (a1 : Int32) (a2 : Int32) (a3 : Int32) (r56 : Int32) (z63 : Int32) (σ66 : fw_S) : Int32 × fw_S :=
  if a3 ≤ 0 then ms_tap_s25 a2 r56 z63 σ66 (fw_st σ66 (7, 0, 0) ((32 * a2.toNatClampNeg) + (4 * ((σ66 (8, 0, 0) a2.toNatClampNeg).toNatClampNeg))) (nI a1.toNatClampNeg)) else ms_tap_s30 (fw_st σ66 (0, 0, 0) 12 ((σ66 (0, 0, 0) 12) + 1))
def ms_tap_s23 (a1 : Int32) (a2 : Int32) (a3 : Int32) (r56 : Int32) (σ61 : fw_S) (z63 : Int32) : Int32 × fw_S :=
  if a3 = 0 then ms_tap_s31 a1 a2 a3 r56 z63 (ms_change σ61 a1.toNatClampNeg 8) else ms_tap_s24 a1 a2 a3 r56 z63 (ms_change σ61 a1.toNatClampNeg a3.toNatClampNeg)
def ms_tap_s22 (a1 : Int32) (a2 : Int32) (a3 : Int32) (r56 : Int32) (σ61 : fw_S) : Int32 × fw_S :=
  ms_tap_s23 a1 a2 a3 r56 σ61 ((ms_counter σ61 a1.toNatClampNeg) + 1)
def ms_tap_s21 (a1 : Int32) (a2 : Int32) (a3 : Int32) (r56 : Int32) (σ59 : fw_S) : Int32 × fw_S :=
  ms_tap_s22 a1 a2 a3 r56 (fw_st σ59 (4, 0, 0) 6 ((σ59 (4, 0, 0) 6) + r56))
def ms_tap_s20 (a1 : Int32) (a2 : Int32) (a3 : Int32) (r56 : Int32) (σ57 : fw_S) : Int32 × fw_S :=
  ms_tap_s21 a1 a2 a3 r56 (fw_st σ57 (4, 0, 0) 0 ((σ57 (4, 0, 0) 0) - r56))
def ms_tap_s18 (r11 : Int32) (σ49 : fw_S) : Int32 × fw_S :=
  (r11, σ49)
def ms_tap_s17 (a2 : Int32) (r11 : Int32) (σ47 : fw_S) : Int32 × fw_S :=
  ms_tap_s18 r11 (fw_st σ47 (8, 0, 0) a2.toNatClampNeg ((σ47 (8, 0, 0) a2.toNatClampNeg) + 1))
def ms_tap_s16 (a2 : Int32) (r11 : Int32) (σ37 : fw_S) (σ45 : fw_S) : Int32 × fw_S :=
  ms_tap_s17 a2 r11 (fw_st σ45 (7, 0, 0) (((32 * a2.toNatClampNeg) + (4 * ((σ37 (8, 0, 0) a2.toNatClampNeg).toNatClampNeg))) + 3) (σ45 (4, 0, 0) 0))
def ms_tap_s15 (a2 : Int32) (r11 : Int32) (σ37 : fw_S) (σ43 : fw_S) : Int32 × fw_S :=
  ms_tap_s16 a2 r11 σ37 (fw_st σ43 (7, 0, 0) (((32 * a2.toNatClampNeg) + (4 * ((σ37 (8, 0, 0) a2.toNatClampNeg).toNatClampNeg))) + 2) r11)
def ms_tap_s14 (a2 : Int32) (r11 : Int32) (z18 : Int32) (σ37 : fw_S) (σ41 : fw_S) : Int32 × fw_S :=
  ms_tap_s15 a2 r11 σ37 (fw_st σ41 (7, 0, 0) (((32 * a2.toNatClampNeg) + (4 * ((σ37 (8, 0, 0) a2.toNatClampNeg).toNatClampNeg))) + 1) z18)
def ms_tap_s19 (σ51 : fw_S) : Int32 × fw_S :=
  ((-5), σ51)
def ms_tap_s13 (a1 : Int32) (a2 : Int32) (a3 : Int32) (r11 : Int32) (z18 : Int32) (σ37 : fw_S) : Int32 × fw_S :=
  if a3 ≤ 0 then ms_tap_s14 a2 r11 z18 σ37 (fw_st σ37 (7, 0, 0) ((32 * a2.toNatClampNeg) + (4 * ((σ37 (8, 0, 0) a2.toNatClampNeg).toNatClampNeg))) (nI a1.toNatClampNeg)) else ms_tap_s19 (fw_st σ37 (0, 0, 0) 12 ((σ37 (0, 0, 0) 12) + 1))
def ms_tap_s11 (r11 : Int32) (σ33 : fw_S) : Int32 × fw_S :=
  (r11, σ33)
def ms_tap_s10 (a2 : Int32) (r11 : Int32) (σ31 : fw_S) : Int32 × fw_S :=
  ms_tap_s11 r11 (fw_st σ31 (8, 0, 0) a2.toNatClampNeg ((σ31 (8, 0, 0) a2.toNatClampNeg) + 1))
def ms_tap_s9 (a2 : Int32) (r11 : Int32) (σ21 : fw_S) (σ29 : fw_S) : Int32 × fw_S :=
  ms_tap_s10 a2 r11 (fw_st σ29 (7, 0, 0) (((32 * a2.toNatClampNeg) + (4 * ((σ21 (8, 0, 0) a2.toNatClampNeg).toNatClampNeg))) + 3) (σ29 (4, 0, 0) 0))
def ms_tap_s8 (a2 : Int32) (r11 : Int32) (σ21 : fw_S) (σ27 : fw_S) : Int32 × fw_S :=
  ms_tap_s9 a2 r11 σ21 (fw_st σ27 (7, 0, 0) (((32 * a2.toNatClampNeg) + (4 * ((σ21 (8, 0, 0) a2.toNatClampNeg).toNatClampNeg))) + 2) r11)
def ms_tap_s7 (a2 : Int32) (r11 : Int32) (z18 : Int32) (σ21 : fw_S) (σ25 : fw_S) : Int32 × fw_S :=
  ms_tap_s8 a2 r11 σ21 (fw_st σ25 (7, 0, 0) (((32 * a2.toNatClampNeg) + (4 * ((σ21 (8, 0, 0) a2.toNatClampNeg).toNatClampNeg))) + 1) z18)
def ms_tap_s12 (σ35 : fw_S) : Int32 × fw_S :=
  ((-5), σ35)
def ms_tap_s6 (a1 : Int32) (a2 : Int32) (a3 : Int32) (r11 : Int32) (z18 : Int32) (σ21 : fw_S) : Int32 × fw_S :=
  if a3 ≤ 0 then ms_tap_s7 a2 r11 z18 σ21 (fw_st σ21 (7, 0, 0) ((32 * a2.toNatClampNeg) + (4 * ((σ21 (8, 0, 0) a2.toNatClampNeg).toNatClampNeg))) (nI a1.toNatClampNeg)) else ms_tap_s12 (fw_st σ21 (0, 0, 0) 12 ((σ21 (0, 0, 0) 12) + 1))
def ms_tap_s5 (a1 : Int32) (a2 : Int32) (a3 : Int32) (r11 : Int32) (σ16 : fw_S) (z18 : Int32) : Int32 × fw_S :=
  if a3 = 0 then ms_tap_s13 a1 a2 a3 r11 z18 (ms_change σ16 a1.toNatClampNeg 8) else ms_tap_s6 a1 a2 a3 r11 z18 (ms_change σ16 a1.toNatClampNeg a3.toNatClampNeg)
def ms_tap_s4 (a1 : Int32) (a2 : Int32) (a3 : Int32) (r11 : Int32) (σ16 : fw_S) : Int32 × fw_S :=
  ms_tap_s5 a1 a2 a3 r11 σ16 ((ms_counter σ16 a1.toNatClampNeg) + 1)
def ms_tap_s3 (a1 : Int32) (a2 : Int32) (a3 : Int32) (r11 : Int32) (σ14 : fw_S) : Int32 × fw_S :=
  ms_tap_s4 a1 a2 a3 r11 (fw_st σ14 (4, 0, 0) 6 ((σ14 (4, 0, 0) 6) + r11))
def ms_tap_s2 (a1 : Int32) (a2 : Int32) (a3 : Int32) (r11 : Int32) (σ12 : fw_S) : Int32 × fw_S :=
  ms_tap_s3 a1 a2 a3 r11 (fw_st σ12 (4, 0, 0) 0 ((σ12 (4, 0, 0) 0) - r11))
def ms_tap_s1 (a1 : Int32) (a2 : Int32) (a3 : Int32) (σ6 : fw_S) : Int32 × fw_S :=
  if (σ6 (6, 0, 0) a2.toNatClampNeg) = 0 then if (σ6 (2, 0, 0) 4) ≤ (σ6 (4, 0, 0) 0) then ms_tap_s20 a1 a2 a3 ((ms_enter σ6 a1.toNatClampNeg ((σ6 (5, 0, 0) a2.toNatClampNeg).toNatClampNeg)).1) ((ms_enter σ6 a1.toNatClampNeg ((σ6 (5, 0, 0) a2.toNatClampNeg).toNatClampNeg)).2) else ((-3), σ6) else ms_tap_s2 a1 a2 a3 ((ms_leave σ6 a1.toNatClampNeg ((σ6 (5, 0, 0) a2.toNatClampNeg).toNatClampNeg)).1) ((ms_leave σ6 a1.toNatClampNeg ((σ6 (5, 0, 0) a2.toNatClampNeg).toNatClampNeg)).2)
def ms_tap (σ : fw_S) (a1 : Int32) (a2 : Int32) (a3 : Int32) : Int32 × fw_S :=
  if (ms_in a1 0 3) = 0 then ((-1), σ) else if (ms_in a2 0 3) = 0 then ((-1), σ) else if (ms_in a3 0 8) = 0 then ((-1), σ) else if (σ (8, 0, 0) a2.toNatClampNeg) = 8 then ((-2), σ) else if (σ (9, 0, 0) ((4 * a2.toNatClampNeg) + a1.toNatClampNeg)) = 0 then ms_tap_s1 a1 a2 a3 (ms_load σ a1.toNatClampNeg) else ((-4), σ)
set_option maxHeartbeats 4000000 in
set_option maxRecDepth 100000 in
theorem cm_tap (l : Launch) (X : fw_X) (hI : fw_I mV X) (σ : fw_S) (a1 : Int32) (a2 : Int32) (a3 : Int32) (hlg : ∀ v, v < 4 → vp_in (σ (8, 0, 0) v) 9) (hzn : ∀ v, v < 4 → vp_in (σ (5, 0, 0) v) 6) (hww : ∀ q, q < 8 → (σ (3, 0, 0) (8 * q + 1) < 0 ∨ vp_in (σ (3, 0, 0) (8 * q + 1)) 6) ∧ vp_in (σ (3, 0, 0) (8 * q + 3)) 6) : fw_Mi fw_cl msh mV fw_tys l yM_tap wM_tap (fw_rm 4) X σ [.ref (X.2.2 (0, 0, 0)), .int a1, .int a2, .int a3] (ms_tap σ a1 a2 a3) := by
  obtain ⟨out, he⟩ : ∃ z : Int32 × fw_S, z = ms_tap σ a1 a2 a3 := ⟨_, rfl⟩
  rw [← he]
  refine fw_Mi_of (cc := bM_tap) (maxL := 7) (ret := (some .int)) (by decide) rfl (Nat.le_of_ble_eq_true rfl) ?_
  intro p e s m below meth c ls hx hb hr hml hlocks hown hts hK hnb hW hl
  have hS : va_S (fw_A mV X) s.heap s.heap [] := va_S.rf
  have hA : ∀ t, mV t → fw_A mV X (X.2.2 t) := fun t h => ⟨t, h, rfl⟩
  have htb := tb_use hts
  have hl : lv_has ls 7 [(0, .ref (X.2.2 (0, 0, 0))), (1, .int a1), (2, .int a2), (3, .int a3)] := hl
  have hown : s.vm.findClass "TapOfficeModel" = some m.cls := hown
  unfold ms_tap at he
  refine lv_iload_n hx hb dM_tap_0 rfl (lv_at hl 1 rfl) ?_
  refine lv_iconst (v := 0) hx hb dM_tap_1 (by decide) ?_
  refine lv_iconst (v := 3) hx hb dM_tap_2 (by decide) ?_
  refine fw_kp (va_runS (As := [.int a1, .int 0, .int 3]) (rest := []) ⟨hx, hb, hml, hown, hts⟩ (cm_in l X hI σ a1 0 3 ) (va_cwS 3 hts (tb_S m_467 m_465 m_466 m_31) rfl rfl rfl (by decide +kernel) ⟨Nat.le_of_ble_eq_true rfl, Nat.le_of_ble_eq_true rfl⟩) (fw_preS (X := X) hK hnb hW [.int a1, .int 0, .int 3]) rfl rfl hl.1 rfl (lv_room (Nat.le_of_ble_eq_true rfl)) dM_tap_3 ⟨Nat.zero_le _, Nat.zero_le _⟩) hS (fun H locs hW hS => ?_)
  refine lv_if_eq (tgt := 28) hx hb dM_tap_6 (by decide) (fun c1 => ?_) (fun c1 => ?_)
  · rw [if_pos c1] at he
    refine lv_iconst (v := (-1)) hx hb dM_tap_28 (by decide) ?_
    exact fw_iret hx hb hr hlocks hK hnb hW hS he dM_tap_29
  · rw [if_neg c1] at he
    refine lv_iload_n hx hb dM_tap_9 rfl (lv_at hl 2 rfl) ?_
    refine lv_iconst (v := 0) hx hb dM_tap_10 (by decide) ?_
    refine lv_iconst (v := 3) hx hb dM_tap_11 (by decide) ?_
    refine fw_kp (va_runS (As := [.int a2, .int 0, .int 3]) (rest := []) ⟨hx, hb, hml, hown, hts⟩ (cm_in l X hI σ a2 0 3 ) (va_cwS 3 hts (tb_S m_467 m_465 m_466 m_31) rfl rfl rfl (by decide +kernel) ⟨Nat.le_of_ble_eq_true rfl, Nat.le_of_ble_eq_true rfl⟩) (fw_preS (X := X) hK hnb hW [.int a2, .int 0, .int 3]) rfl rfl hl.1 rfl (lv_room (Nat.le_of_ble_eq_true rfl)) dM_tap_12 ⟨Nat.zero_le _, Nat.zero_le _⟩) hS (fun H locs hW hS => ?_)
    refine lv_if_eq (tgt := 28) hx hb dM_tap_15 (by decide) (fun c2 => ?_) (fun c2 => ?_)
    · rw [if_pos c2] at he
      refine lv_iconst (v := (-1)) hx hb dM_tap_28 (by decide) ?_
      exact fw_iret hx hb hr hlocks hK hnb hW hS he dM_tap_29
    · rw [if_neg c2] at he
      refine lv_iload_n hx hb dM_tap_18 rfl (lv_at hl 3 rfl) ?_
      refine lv_iconst (v := 0) hx hb dM_tap_19 (by decide) ?_
      refine lv_bipush (v := 8) hx hb dM_tap_20 (by decide) ?_
      refine fw_kp (va_runS (As := [.int a3, .int 0, .int 8]) (rest := []) ⟨hx, hb, hml, hown, hts⟩ (cm_in l X hI σ a3 0 8 ) (va_cwS 3 hts (tb_S m_467 m_465 m_466 m_31) rfl rfl rfl (by decide +kernel) ⟨Nat.le_of_ble_eq_true rfl, Nat.le_of_ble_eq_true rfl⟩) (fw_preS (X := X) hK hnb hW [.int a3, .int 0, .int 8]) rfl rfl hl.1 rfl (lv_room (Nat.le_of_ble_eq_true rfl)) dM_tap_22 ⟨Nat.zero_le _, Nat.zero_le _⟩) hS (fun H locs hW hS => ?_)
      refine lv_if_ne (tgt := 30) hx hb dM_tap_25 (by decide) (fun c3 => ?_) (fun c3 => ?_)
      · rw [if_neg c3] at he
        refine lv_aload_n hx hb dM_tap_30 rfl (lv_at hl 0 rfl) ?_
        refine fw_get (X := X) (v := .ref (X.2.2 (8, 0, 0))) hx hb hts hin_M hown hK hW (0, 0, 0) mv0 rfl rfl 8 (by decide) (htb _ m_420 rfl) (fun _ h => h) rfl rfl dM_tap_31 ?_
        refine lv_iload_n hx hb dM_tap_34 rfl (lv_at hl 2 rfl) ?_
        have hv_a2 : vp_in a2 4 := (in_vi ‹¬ ms_in a2 0 3 = 0›)
        have hl_a2 := vi_lt hv_a2
        refine lv_eqi (vi_nI hv_a2) ?_
        refine fw_iald (X := X) hx hb hK hW (8, 0, 0) mv8 rfl 0 rfl a2.toNatClampNeg (nI_clamp (by omega)) (vp_in_nI (by omega) (by decide)) dM_tap_35 ?_
        refine lv_bipush (v := 8) hx hb dM_tap_36 (by decide) ?_
        refine lv_icmp_ne (tgt := 44) hx hb dM_tap_38 (by decide) (fun c4 => ?_) (fun c4 => ?_)
        · rw [if_neg c4] at he
          refine lv_aload_n hx hb dM_tap_44 rfl (lv_at hl 0 rfl) ?_
          refine fw_get (X := X) (v := .ref (X.2.2 (9, 0, 0))) hx hb hts hin_M hown hK hW (0, 0, 0) mv0 rfl rfl 9 (by decide) (htb _ m_421 rfl) (fun _ h => h) rfl rfl dM_tap_45 ?_
          refine lv_iconst (v := 4) hx hb dM_tap_48 (by decide) ?_
          refine lv_iload_n hx hb dM_tap_49 rfl (lv_at hl 2 rfl) ?_
          refine lv_eqi (vi_nI hv_a2) ?_
          refine lv_imul hx hb dM_tap_50 ?_
          refine lv_eqi (pk_mul 4 a2.toNatClampNeg) ?_
          refine lv_iload_n hx hb dM_tap_51 rfl (lv_at hl 1 rfl) ?_
          have hv_a1 : vp_in a1 4 := (in_vi ‹¬ ms_in a1 0 3 = 0›)
          have hl_a1 := vi_lt hv_a1
          refine lv_eqi (vi_nI hv_a1) ?_
          refine lv_iadd hx hb dM_tap_52 ?_
          refine lv_eqi (nI_add (4 * a2.toNatClampNeg) a1.toNatClampNeg) ?_
          refine fw_zald (X := X) hx hb hK hW (9, 0, 0) mv9 rfl 5 rfl ((4 * a2.toNatClampNeg) + a1.toNatClampNeg) (nI_clamp (by omega)) (vp_in_nI (by omega) (by decide)) dM_tap_53 ?_
          refine lv_if_eq (tgt := 60) hx hb dM_tap_54 (by decide) (fun c5 => ?_) (fun c5 => ?_)
          · rw [if_pos c5] at he
            refine lv_aload_n hx hb dM_tap_60 rfl (lv_at hl 0 rfl) ?_
            refine lv_iload_n hx hb dM_tap_61 rfl (lv_at hl 1 rfl) ?_
            refine lv_eqi (vi_nI hv_a1) ?_
            refine fw_kv (va_runV (As := [.int (nI a1.toNatClampNeg)]) (rest := []) ⟨hx, hb, hml, hown, hts⟩ (cm_load l X hI σ a1.toNatClampNeg (by omega) ) (cwV 1 hts (tb_V m_487 m_484 m_486 m_9 m_31) rfl rfl rfl (by decide +kernel) ⟨Nat.le_of_ble_eq_true rfl, Nat.le_of_ble_eq_true rfl⟩) (fw_preV (X := X) hK hnb hW (0, 0, 0) mv0 rfl rfl [.int (nI a1.toNatClampNeg)]) rfl rfl hl.1 rfl (lv_room (Nat.le_of_ble_eq_true rfl)) dM_tap_62 ⟨Nat.zero_le _, Nat.zero_le _⟩) hS (fun H locs hW hS => ?_)
            obtain ⟨σ6, e7⟩ : ∃ z : fw_S, z = ms_load σ a1.toNatClampNeg := ⟨_, rfl⟩
            rw [← e7] at hW
            try rw [← e7] at he
            unfold ms_tap_s1 at he
            have e_ld := e7
            have hlv : vp_in (σ6 (8, 0, 0) a2.toNatClampNeg) 8 := by rw [e7, fr_load _ _ (8, 0, 0) (by simp)]; exact lg_8 (hlg _ hl_a2) (by assumption)
            have hz1 := ld_z1 (c := a1.toNatClampNeg) hww hl_a1
            have hz3 := ld_z3 (c := a1.toNatClampNeg) hww hl_a1
            rw [← e7] at hz1 hz3
            refine lv_aload_n hx hb dM_tap_65 rfl (lv_at hl 0 rfl) ?_
            refine fw_get (X := X) (v := .ref (X.2.2 (6, 0, 0))) hx hb hts hin_M hown hK hW (0, 0, 0) mv0 rfl rfl 6 (by decide) (htb _ m_418 rfl) (fun _ h => h) rfl rfl dM_tap_66 ?_
            refine lv_iload_n hx hb dM_tap_69 rfl (lv_at hl 2 rfl) ?_
            refine lv_eqi (vi_nI hv_a2) ?_
            refine fw_zald (X := X) hx hb hK hW (6, 0, 0) mv6 rfl 5 rfl a2.toNatClampNeg (nI_clamp (by omega)) (vp_in_nI (by omega) (by decide)) dM_tap_70 ?_
            refine lv_if_ne (tgt := 92) hx hb dM_tap_71 (by decide) (fun c8 => ?_) (fun c8 => ?_)
            · rw [if_neg c8] at he
              refine lv_aload_n hx hb dM_tap_92 rfl (lv_at hl 0 rfl) ?_
              refine fw_get (X := X) (v := .ref (X.2.2 (6, 0, 0))) hx hb hts hin_M hown hK hW (0, 0, 0) mv0 rfl rfl 6 (by decide) (htb _ m_418 rfl) (fun _ h => h) rfl rfl dM_tap_93 ?_
              refine lv_iload_n hx hb dM_tap_96 rfl (lv_at hl 2 rfl) ?_
              refine lv_eqi (vi_nI hv_a2) ?_
              refine fw_zald (X := X) hx hb hK hW (6, 0, 0) mv6 rfl 5 rfl a2.toNatClampNeg (nI_clamp (by omega)) (vp_in_nI (by omega) (by decide)) dM_tap_97 ?_
              refine lv_if_eq (tgt := 115) hx hb dM_tap_98 (by decide) (fun c9 => ?_) (fun c9 => ?_)
              · exact (by first | exact absurd c9 c8 | exact absurd c8 c9)
              refine lv_aload_n hx hb dM_tap_101 rfl (lv_at hl 0 rfl) ?_
              refine lv_iload_n hx hb dM_tap_102 rfl (lv_at hl 1 rfl) ?_
              refine lv_eqi (vi_nI hv_a1) ?_
              refine lv_aload_n hx hb dM_tap_103 rfl (lv_at hl 0 rfl) ?_
              refine fw_get (X := X) (v := .ref (X.2.2 (5, 0, 0))) hx hb hts hin_M hown hK hW (0, 0, 0) mv0 rfl rfl 5 (by decide) (htb _ m_417 rfl) (fun _ h => h) rfl rfl dM_tap_104 ?_
              refine lv_iload_n hx hb dM_tap_107 rfl (lv_at hl 2 rfl) ?_
              refine lv_eqi (vi_nI hv_a2) ?_
              refine fw_iald (X := X) hx hb hK hW (5, 0, 0) mv5 rfl 0 rfl a2.toNatClampNeg (nI_clamp (by omega)) (vp_in_nI (by omega) (by decide)) dM_tap_108 ?_
              have hv10 : vp_in (σ6 (5, 0, 0) a2.toNatClampNeg) 6 := by rw [e_ld, fr_load _ _ (5, 0, 0) (by simp)]; exact hzn _ hl_a2
              have hv10l := vi_lt hv10
              refine lv_eqi (vi_nI hv10) ?_
              refine fw_ki (va_runV (As := [.int (nI a1.toNatClampNeg), .int (nI ((σ6 (5, 0, 0) a2.toNatClampNeg).toNatClampNeg))]) (rest := []) ⟨hx, hb, hml, hown, hts⟩ (cm_leave l X hI σ6 a1.toNatClampNeg (by omega) ((σ6 (5, 0, 0) a2.toNatClampNeg).toNatClampNeg) (by omega) (hz1) (hz3)) (cwV 2 hts (tb_V m_499 m_496 m_498 m_12 m_31) rfl rfl rfl (by decide +kernel) ⟨Nat.le_of_ble_eq_true rfl, Nat.le_of_ble_eq_true rfl⟩) (fw_preV (X := X) hK hnb hW (0, 0, 0) mv0 rfl rfl [.int (nI a1.toNatClampNeg), .int (nI ((σ6 (5, 0, 0) a2.toNatClampNeg).toNatClampNeg))]) rfl rfl hl.1 rfl (lv_room (Nat.le_of_ble_eq_true rfl)) dM_tap_109 ⟨Nat.zero_le _, Nat.zero_le _⟩) hS (fun r11 σ12 H locs o13 hW hS => ?_)
              rw [o13] at he
              unfold ms_tap_s2 at he
              dsimp only at he
              have hlv : vp_in (σ12 (8, 0, 0) a2.toNatClampNeg) 8 := by rw [← (show _ = σ12 from congrArg Prod.snd o13), fr_leave _ _ _ (8, 0, 0) (by simp)]; exact hlv
              refine lv_goto (tgt := 126) hx hb dM_tap_112 (by decide) ?_
              refine lv_istore (lv' := [(4, .int r11), (0, .ref (X.2.2 (0, 0, 0))), (1, .int a1), (2, .int a2), (3, .int a3)]) hx hb dM_tap_126 hl (by decide) rfl (fun ls hl => ?_)
              refine lv_aload_n hx hb dM_tap_128 rfl (lv_at hl 1 rfl) ?_
              refine fw_get (X := X) (v := .ref (X.2.2 (4, 0, 0))) hx hb hts hin_M hown hK hW (0, 0, 0) mv0 rfl rfl 4 (by decide) (htb _ m_416 rfl) (fun _ h => h) rfl rfl dM_tap_129 ?_
              refine lv_iconst (v := 0) hx hb dM_tap_132 (by decide) ?_
              refine lv_dup2_11 hx hb dM_tap_133 rfl rfl ?_
              refine fw_iald (X := X) hx hb hK hW (4, 0, 0) mv4 rfl 0 rfl 0 (by decide) (by unfold vp_in; decide) dM_tap_134 ?_
              refine lv_iload hx hb dM_tap_135 (lv_at hl 0 rfl) ?_
              refine lv_isub hx hb dM_tap_137 ?_
              refine fw_iast (X := X) hx hb hK hW hI hA hS (4, 0, 0) mv4 rfl 0 rfl 0 (by decide) (by unfold vp_in; decide) dM_tap_138 (fun H locs hW hS => ?_)
              obtain ⟨σ14, e15⟩ : ∃ z : fw_S, z = fw_st σ12 (4, 0, 0) 0 ((σ12 (4, 0, 0) 0) - r11) := ⟨_, rfl⟩
              rw [← e15] at hW
              try rw [← e15] at he
              unfold ms_tap_s3 at he
              have hlv : vp_in (σ14 (8, 0, 0) a2.toNatClampNeg) 8 := by rw [e15, fw_st_off (by simp)]; exact hlv
              refine lv_aload_n hx hb dM_tap_139 rfl (lv_at hl 1 rfl) ?_
              refine fw_get (X := X) (v := .ref (X.2.2 (4, 0, 0))) hx hb hts hin_M hown hK hW (0, 0, 0) mv0 rfl rfl 4 (by decide) (htb _ m_416 rfl) (fun _ h => h) rfl rfl dM_tap_140 ?_
              refine lv_bipush (v := 6) hx hb dM_tap_143 (by decide) ?_
              refine lv_dup2_11 hx hb dM_tap_145 rfl rfl ?_
              refine fw_iald (X := X) hx hb hK hW (4, 0, 0) mv4 rfl 0 rfl 6 (by decide) (by unfold vp_in; decide) dM_tap_146 ?_
              refine lv_iload hx hb dM_tap_147 (lv_at hl 0 rfl) ?_
              refine lv_iadd hx hb dM_tap_149 ?_
              refine fw_iast (X := X) hx hb hK hW hI hA hS (4, 0, 0) mv4 rfl 0 rfl 6 (by decide) (by unfold vp_in; decide) dM_tap_150 (fun H locs hW hS => ?_)
              obtain ⟨σ16, e17⟩ : ∃ z : fw_S, z = fw_st σ14 (4, 0, 0) 6 ((σ14 (4, 0, 0) 6) + r11) := ⟨_, rfl⟩
              rw [← e17] at hW
              try rw [← e17] at he
              unfold ms_tap_s4 at he
              have hlv : vp_in (σ16 (8, 0, 0) a2.toNatClampNeg) 8 := by rw [e17, fw_st_off (by simp)]; exact hlv
              refine lv_aload_n hx hb dM_tap_151 rfl (lv_at hl 1 rfl) ?_
              refine lv_iload_n hx hb dM_tap_152 rfl (lv_at hl 2 rfl) ?_
              refine lv_eqi (vi_nI hv_a1) ?_
              refine fw_kp (va_runV (As := [.int (nI a1.toNatClampNeg)]) (rest := []) ⟨hx, hb, hml, hown, hts⟩ (cm_counter l X hI σ16 a1.toNatClampNeg (by omega) ) (cwV 1 hts (tb_V m_519 m_516 m_518 m_17 m_31) rfl rfl rfl (by decide +kernel) ⟨Nat.le_of_ble_eq_true rfl, Nat.le_of_ble_eq_true rfl⟩) (fw_preV (X := X) hK hnb hW (0, 0, 0) mv0 rfl rfl [.int (nI a1.toNatClampNeg)]) rfl rfl hl.1 rfl (lv_room (Nat.le_of_ble_eq_true rfl)) dM_tap_153 ⟨Nat.zero_le _, Nat.zero_le _⟩) hS (fun H locs hW hS => ?_)
              refine lv_iconst (v := 1) hx hb dM_tap_156 (by decide) ?_
              refine lv_iadd hx hb dM_tap_157 ?_
              refine lv_topi (fun z18 e19 => ?_)
              try rw [← e19] at he
              unfold ms_tap_s5 at he
              refine lv_istore (lv' := [(5, .int z18), (4, .int r11), (0, .ref (X.2.2 (0, 0, 0))), (1, .int a1), (2, .int a2), (3, .int a3)]) hx hb dM_tap_158 hl (by decide) rfl (fun ls hl => ?_)
              refine lv_aload_n hx hb dM_tap_160 rfl (lv_at hl 2 rfl) ?_
              refine lv_iload_n hx hb dM_tap_161 rfl (lv_at hl 3 rfl) ?_
              refine lv_eqi (vi_nI hv_a1) ?_
              refine lv_iload_n hx hb dM_tap_162 rfl (lv_at hl 5 rfl) ?_
              refine lv_if_ne (tgt := 171) hx hb dM_tap_163 (by decide) (fun c20 => ?_) (fun c20 => ?_)
              · rw [if_neg c20] at he
                refine lv_iload_n hx hb dM_tap_171 rfl (lv_at hl 5 rfl) ?_
                have hv_a3 : vp_in a3 9 := (in_vi ‹¬ ms_in a3 0 8 = 0›)
                have hl_a3 := vi_lt hv_a3
                refine lv_eqi (vi_nI hv_a3) ?_
                refine fw_kv (va_runV (As := [.int (nI a1.toNatClampNeg), .int (nI a3.toNatClampNeg)]) (rest := []) ⟨hx, hb, hml, hown, hts⟩ (cm_change l X hI σ16 a1.toNatClampNeg (by omega) a3.toNatClampNeg (by omega) ) (cwV 2 hts (tb_V m_523 m_520 m_522 m_18 m_31) rfl rfl rfl (by decide +kernel) ⟨Nat.le_of_ble_eq_true rfl, Nat.le_of_ble_eq_true rfl⟩) (fw_preV (X := X) hK hnb hW (0, 0, 0) mv0 rfl rfl [.int (nI a1.toNatClampNeg), .int (nI a3.toNatClampNeg)]) rfl rfl hl.1 rfl (lv_room (Nat.le_of_ble_eq_true rfl)) dM_tap_172 ⟨Nat.zero_le _, Nat.zero_le _⟩) hS (fun H locs hW hS => ?_)
                obtain ⟨σ21, e22⟩ : ∃ z : fw_S, z = ms_change σ16 a1.toNatClampNeg a3.toNatClampNeg := ⟨_, rfl⟩
                rw [← e22] at hW
                try rw [← e22] at he
                unfold ms_tap_s6 at he
                have hlv : vp_in (σ21 (8, 0, 0) a2.toNatClampNeg) 8 := by rw [e22, fr_change _ _ _ (8, 0, 0) (by simp) (by simp)]; exact hlv
                refine lv_iload_n hx hb dM_tap_175 rfl (lv_at hl 5 rfl) ?_
                refine lv_if_le (tgt := 192) hx hb dM_tap_176 (by decide) (fun c23 => ?_) (fun c23 => ?_)
                · rw [if_pos c23] at he
                  refine lv_bipush (v := 32) hx hb dM_tap_192 (by decide) ?_
                  refine lv_iload_n hx hb dM_tap_194 rfl (lv_at hl 4 rfl) ?_
                  refine lv_eqi (vi_nI hv_a2) ?_
                  refine lv_imul hx hb dM_tap_195 ?_
                  refine lv_eqi (pk_mul 32 a2.toNatClampNeg) ?_
                  refine lv_iconst (v := 4) hx hb dM_tap_196 (by decide) ?_
                  refine lv_aload_n hx hb dM_tap_197 rfl (lv_at hl 2 rfl) ?_
                  refine fw_get (X := X) (v := .ref (X.2.2 (8, 0, 0))) hx hb hts hin_M hown hK hW (0, 0, 0) mv0 rfl rfl 8 (by decide) (htb _ m_420 rfl) (fun _ h => h) rfl rfl dM_tap_198 ?_
                  refine lv_iload_n hx hb dM_tap_201 rfl (lv_at hl 4 rfl) ?_
                  refine lv_eqi (vi_nI hv_a2) ?_
                  refine fw_iald (X := X) hx hb hK hW (8, 0, 0) mv8 rfl 0 rfl a2.toNatClampNeg (nI_clamp (by omega)) (vp_in_nI (by omega) (by decide)) dM_tap_202 ?_
                  have hv24 : vp_in (σ21 (8, 0, 0) a2.toNatClampNeg) 8 := hlv
                  have hv24l := vi_lt hv24
                  refine lv_eqi (vi_nI hv24) ?_
                  refine lv_imul hx hb dM_tap_203 ?_
                  refine lv_eqi (pk_mul 4 ((σ21 (8, 0, 0) a2.toNatClampNeg).toNatClampNeg)) ?_
                  refine lv_iadd hx hb dM_tap_204 ?_
                  refine lv_eqi (nI_add (32 * a2.toNatClampNeg) (4 * ((σ21 (8, 0, 0) a2.toNatClampNeg).toNatClampNeg))) ?_
                  refine lv_istore (lv' := [(6, .int (nI ((32 * a2.toNatClampNeg) + (4 * ((σ21 (8, 0, 0) a2.toNatClampNeg).toNatClampNeg))))), (5, .int z18), (4, .int r11), (0, .ref (X.2.2 (0, 0, 0))), (1, .int a1), (2, .int a2), (3, .int a3)]) hx hb dM_tap_205 hl (by decide) rfl (fun ls hl => ?_)
                  refine lv_aload_n hx hb dM_tap_207 rfl (lv_at hl 3 rfl) ?_
                  refine fw_get (X := X) (v := .ref (X.2.2 (7, 0, 0))) hx hb hts hin_M hown hK hW (0, 0, 0) mv0 rfl rfl 7 (by decide) (htb _ m_419 rfl) (fun _ h => h) rfl rfl dM_tap_208 ?_
                  refine lv_iload hx hb dM_tap_211 (lv_at hl 0 rfl) ?_
                  refine lv_iload_n hx hb dM_tap_213 rfl (lv_at hl 4 rfl) ?_
                  refine lv_eqi (vi_nI hv_a1) ?_
                  refine fw_iast (X := X) hx hb hK hW hI hA hS (7, 0, 0) mv7 rfl 0 rfl ((32 * a2.toNatClampNeg) + (4 * ((σ21 (8, 0, 0) a2.toNatClampNeg).toNatClampNeg))) (nI_clamp (by omega)) (vp_in_nI (by omega) (by decide)) dM_tap_214 (fun H locs hW hS => ?_)
                  obtain ⟨σ25, e26⟩ : ∃ z : fw_S, z = fw_st σ21 (7, 0, 0) ((32 * a2.toNatClampNeg) + (4 * ((σ21 (8, 0, 0) a2.toNatClampNeg).toNatClampNeg))) (nI a1.toNatClampNeg) := ⟨_, rfl⟩
                  rw [← e26] at hW
                  try rw [← e26] at he
                  unfold ms_tap_s7 at he
                  have hlv : vp_in (σ25 (8, 0, 0) a2.toNatClampNeg) 8 := by rw [e26, fw_st_off (by simp)]; exact hlv
                  refine lv_aload_n hx hb dM_tap_215 rfl (lv_at hl 3 rfl) ?_
                  refine fw_get (X := X) (v := .ref (X.2.2 (7, 0, 0))) hx hb hts hin_M hown hK hW (0, 0, 0) mv0 rfl rfl 7 (by decide) (htb _ m_419 rfl) (fun _ h => h) rfl rfl dM_tap_216 ?_
                  refine lv_iload hx hb dM_tap_219 (lv_at hl 0 rfl) ?_
                  refine lv_iconst (v := 1) hx hb dM_tap_221 (by decide) ?_
                  refine lv_iadd hx hb dM_tap_222 ?_
                  refine lv_eqi (nI_add ((32 * a2.toNatClampNeg) + (4 * ((σ21 (8, 0, 0) a2.toNatClampNeg).toNatClampNeg))) 1) ?_
                  refine lv_iload hx hb dM_tap_223 (lv_at hl 1 rfl) ?_
                  refine fw_iast (X := X) hx hb hK hW hI hA hS (7, 0, 0) mv7 rfl 0 rfl (((32 * a2.toNatClampNeg) + (4 * ((σ21 (8, 0, 0) a2.toNatClampNeg).toNatClampNeg))) + 1) (nI_clamp (by omega)) (vp_in_nI (by omega) (by decide)) dM_tap_225 (fun H locs hW hS => ?_)
                  obtain ⟨σ27, e28⟩ : ∃ z : fw_S, z = fw_st σ25 (7, 0, 0) (((32 * a2.toNatClampNeg) + (4 * ((σ21 (8, 0, 0) a2.toNatClampNeg).toNatClampNeg))) + 1) z18 := ⟨_, rfl⟩
                  rw [← e28] at hW
                  try rw [← e28] at he
                  unfold ms_tap_s8 at he
                  have hlv : vp_in (σ27 (8, 0, 0) a2.toNatClampNeg) 8 := by rw [e28, fw_st_off (by simp)]; exact hlv
                  refine lv_aload_n hx hb dM_tap_226 rfl (lv_at hl 3 rfl) ?_
                  refine fw_get (X := X) (v := .ref (X.2.2 (7, 0, 0))) hx hb hts hin_M hown hK hW (0, 0, 0) mv0 rfl rfl 7 (by decide) (htb _ m_419 rfl) (fun _ h => h) rfl rfl dM_tap_227 ?_
                  refine lv_iload hx hb dM_tap_230 (lv_at hl 0 rfl) ?_
                  refine lv_iconst (v := 2) hx hb dM_tap_232 (by decide) ?_
                  refine lv_iadd hx hb dM_tap_233 ?_
                  refine lv_eqi (nI_add ((32 * a2.toNatClampNeg) + (4 * ((σ21 (8, 0, 0) a2.toNatClampNeg).toNatClampNeg))) 2) ?_
                  refine lv_iload hx hb dM_tap_234 (lv_at hl 2 rfl) ?_
                  refine fw_iast (X := X) hx hb hK hW hI hA hS (7, 0, 0) mv7 rfl 0 rfl (((32 * a2.toNatClampNeg) + (4 * ((σ21 (8, 0, 0) a2.toNatClampNeg).toNatClampNeg))) + 2) (nI_clamp (by omega)) (vp_in_nI (by omega) (by decide)) dM_tap_236 (fun H locs hW hS => ?_)
                  obtain ⟨σ29, e30⟩ : ∃ z : fw_S, z = fw_st σ27 (7, 0, 0) (((32 * a2.toNatClampNeg) + (4 * ((σ21 (8, 0, 0) a2.toNatClampNeg).toNatClampNeg))) + 2) r11 := ⟨_, rfl⟩
                  rw [← e30] at hW
                  try rw [← e30] at he
                  unfold ms_tap_s9 at he
                  have hlv : vp_in (σ29 (8, 0, 0) a2.toNatClampNeg) 8 := by rw [e30, fw_st_off (by simp)]; exact hlv
                  refine lv_aload_n hx hb dM_tap_237 rfl (lv_at hl 3 rfl) ?_
                  refine fw_get (X := X) (v := .ref (X.2.2 (7, 0, 0))) hx hb hts hin_M hown hK hW (0, 0, 0) mv0 rfl rfl 7 (by decide) (htb _ m_419 rfl) (fun _ h => h) rfl rfl dM_tap_238 ?_
                  refine lv_iload hx hb dM_tap_241 (lv_at hl 0 rfl) ?_
                  refine lv_iconst (v := 3) hx hb dM_tap_243 (by decide) ?_
                  refine lv_iadd hx hb dM_tap_244 ?_
                  refine lv_eqi (nI_add ((32 * a2.toNatClampNeg) + (4 * ((σ21 (8, 0, 0) a2.toNatClampNeg).toNatClampNeg))) 3) ?_
                  refine lv_aload_n hx hb dM_tap_245 rfl (lv_at hl 3 rfl) ?_
                  refine fw_get (X := X) (v := .ref (X.2.2 (4, 0, 0))) hx hb hts hin_M hown hK hW (0, 0, 0) mv0 rfl rfl 4 (by decide) (htb _ m_416 rfl) (fun _ h => h) rfl rfl dM_tap_246 ?_
                  refine lv_iconst (v := 0) hx hb dM_tap_249 (by decide) ?_
                  refine fw_iald (X := X) hx hb hK hW (4, 0, 0) mv4 rfl 0 rfl 0 (by decide) (by unfold vp_in; decide) dM_tap_250 ?_
                  refine fw_iast (X := X) hx hb hK hW hI hA hS (7, 0, 0) mv7 rfl 0 rfl (((32 * a2.toNatClampNeg) + (4 * ((σ21 (8, 0, 0) a2.toNatClampNeg).toNatClampNeg))) + 3) (nI_clamp (by omega)) (vp_in_nI (by omega) (by decide)) dM_tap_251 (fun H locs hW hS => ?_)
                  obtain ⟨σ31, e32⟩ : ∃ z : fw_S, z = fw_st σ29 (7, 0, 0) (((32 * a2.toNatClampNeg) + (4 * ((σ21 (8, 0, 0) a2.toNatClampNeg).toNatClampNeg))) + 3) (σ29 (4, 0, 0) 0) := ⟨_, rfl⟩
                  rw [← e32] at hW
                  try rw [← e32] at he
                  unfold ms_tap_s10 at he
                  have hlv : vp_in (σ31 (8, 0, 0) a2.toNatClampNeg) 8 := by rw [e32, fw_st_off (by simp)]; exact hlv
                  refine lv_aload_n hx hb dM_tap_252 rfl (lv_at hl 3 rfl) ?_
                  refine fw_get (X := X) (v := .ref (X.2.2 (8, 0, 0))) hx hb hts hin_M hown hK hW (0, 0, 0) mv0 rfl rfl 8 (by decide) (htb _ m_420 rfl) (fun _ h => h) rfl rfl dM_tap_253 ?_
                  refine lv_iload_n hx hb dM_tap_256 rfl (lv_at hl 5 rfl) ?_
                  refine lv_eqi (vi_nI hv_a2) ?_
                  refine lv_dup2_11 hx hb dM_tap_257 rfl rfl ?_
                  refine fw_iald (X := X) hx hb hK hW (8, 0, 0) mv8 rfl 0 rfl a2.toNatClampNeg (nI_clamp (by omega)) (vp_in_nI (by omega) (by decide)) dM_tap_258 ?_
                  refine lv_iconst (v := 1) hx hb dM_tap_259 (by decide) ?_
                  refine lv_iadd hx hb dM_tap_260 ?_
                  refine fw_iast (X := X) hx hb hK hW hI hA hS (8, 0, 0) mv8 rfl 0 rfl a2.toNatClampNeg (nI_clamp (by omega)) (vp_in_nI (by omega) (by decide)) dM_tap_261 (fun H locs hW hS => ?_)
                  obtain ⟨σ33, e34⟩ : ∃ z : fw_S, z = fw_st σ31 (8, 0, 0) a2.toNatClampNeg ((σ31 (8, 0, 0) a2.toNatClampNeg) + 1) := ⟨_, rfl⟩
                  rw [← e34] at hW
                  try rw [← e34] at he
                  unfold ms_tap_s11 at he
                  refine lv_iload hx hb dM_tap_262 (lv_at hl 2 rfl) ?_
                  exact fw_iret hx hb hr hlocks hK hnb hW hS he dM_tap_264
                · rw [if_neg c23] at he
                  refine lv_aload_n hx hb dM_tap_179 rfl (lv_at hl 2 rfl) ?_
                  refine lv_dup hx hb dM_tap_180 rfl ?_
                  refine fw_get (X := X) (v := .int (σ21 (0, 0, 0) 12)) hx hb hts hin_M hown hK hW (0, 0, 0) mv0 rfl rfl 12 (by decide) (htb _ m_424 rfl) (fun _ h => h) rfl rfl dM_tap_181 ?_
                  refine lv_iconst (v := 1) hx hb dM_tap_184 (by decide) ?_
                  refine lv_iadd hx hb dM_tap_185 ?_
                  refine fw_put (X := X) hx hb hts hin_M ty_M ty_M_ok nm_M hown hK hW hI hA hS (0, 0, 0) mv0 rfl rfl rfl 12 (by decide) (htb _ m_424 rfl) (fun _ h => h) rfl rfl (ty := .int) (by decide +kernel) rfl rfl dM_tap_186 (fun H locs hW hS => ?_)
                  obtain ⟨σ35, e36⟩ : ∃ z : fw_S, z = fw_st σ21 (0, 0, 0) 12 ((σ21 (0, 0, 0) 12) + 1) := ⟨_, rfl⟩
                  rw [← e36] at hW
                  try rw [← e36] at he
                  unfold ms_tap_s12 at he
                  have hlv : vp_in (σ35 (8, 0, 0) a2.toNatClampNeg) 8 := by rw [e36, fw_st_off (by simp)]; exact hlv
                  refine lv_bipush (v := (-5)) hx hb dM_tap_189 (by decide) ?_
                  exact fw_iret hx hb hr hlocks hK hnb hW hS he dM_tap_191
              · rw [if_pos c20] at he
                refine lv_bipush (v := 8) hx hb dM_tap_166 (by decide) ?_
                refine lv_goto (tgt := 172) hx hb dM_tap_168 (by decide) ?_
                refine fw_kv (va_runV (As := [.int (nI a1.toNatClampNeg), .int 8]) (rest := []) ⟨hx, hb, hml, hown, hts⟩ (cm_change l X hI σ16 a1.toNatClampNeg (by omega) 8 (by omega) ) (cwV 2 hts (tb_V m_523 m_520 m_522 m_18 m_31) rfl rfl rfl (by decide +kernel) ⟨Nat.le_of_ble_eq_true rfl, Nat.le_of_ble_eq_true rfl⟩) (fw_preV (X := X) hK hnb hW (0, 0, 0) mv0 rfl rfl [.int (nI a1.toNatClampNeg), .int 8]) rfl rfl hl.1 rfl (lv_room (Nat.le_of_ble_eq_true rfl)) dM_tap_172 ⟨Nat.zero_le _, Nat.zero_le _⟩) hS (fun H locs hW hS => ?_)
                obtain ⟨σ37, e38⟩ : ∃ z : fw_S, z = ms_change σ16 a1.toNatClampNeg 8 := ⟨_, rfl⟩
                rw [← e38] at hW
                try rw [← e38] at he
                unfold ms_tap_s13 at he
                have hlv : vp_in (σ37 (8, 0, 0) a2.toNatClampNeg) 8 := by rw [e38, fr_change _ _ _ (8, 0, 0) (by simp) (by simp)]; exact hlv
                refine lv_iload_n hx hb dM_tap_175 rfl (lv_at hl 5 rfl) ?_
                refine lv_if_le (tgt := 192) hx hb dM_tap_176 (by decide) (fun c39 => ?_) (fun c39 => ?_)
                · rw [if_pos c39] at he
                  refine lv_bipush (v := 32) hx hb dM_tap_192 (by decide) ?_
                  refine lv_iload_n hx hb dM_tap_194 rfl (lv_at hl 4 rfl) ?_
                  refine lv_eqi (vi_nI hv_a2) ?_
                  refine lv_imul hx hb dM_tap_195 ?_
                  refine lv_eqi (pk_mul 32 a2.toNatClampNeg) ?_
                  refine lv_iconst (v := 4) hx hb dM_tap_196 (by decide) ?_
                  refine lv_aload_n hx hb dM_tap_197 rfl (lv_at hl 2 rfl) ?_
                  refine fw_get (X := X) (v := .ref (X.2.2 (8, 0, 0))) hx hb hts hin_M hown hK hW (0, 0, 0) mv0 rfl rfl 8 (by decide) (htb _ m_420 rfl) (fun _ h => h) rfl rfl dM_tap_198 ?_
                  refine lv_iload_n hx hb dM_tap_201 rfl (lv_at hl 4 rfl) ?_
                  refine lv_eqi (vi_nI hv_a2) ?_
                  refine fw_iald (X := X) hx hb hK hW (8, 0, 0) mv8 rfl 0 rfl a2.toNatClampNeg (nI_clamp (by omega)) (vp_in_nI (by omega) (by decide)) dM_tap_202 ?_
                  have hv40 : vp_in (σ37 (8, 0, 0) a2.toNatClampNeg) 8 := hlv
                  have hv40l := vi_lt hv40
                  refine lv_eqi (vi_nI hv40) ?_
                  refine lv_imul hx hb dM_tap_203 ?_
                  refine lv_eqi (pk_mul 4 ((σ37 (8, 0, 0) a2.toNatClampNeg).toNatClampNeg)) ?_
                  refine lv_iadd hx hb dM_tap_204 ?_
                  refine lv_eqi (nI_add (32 * a2.toNatClampNeg) (4 * ((σ37 (8, 0, 0) a2.toNatClampNeg).toNatClampNeg))) ?_
                  refine lv_istore (lv' := [(6, .int (nI ((32 * a2.toNatClampNeg) + (4 * ((σ37 (8, 0, 0) a2.toNatClampNeg).toNatClampNeg))))), (5, .int z18), (4, .int r11), (0, .ref (X.2.2 (0, 0, 0))), (1, .int a1), (2, .int a2), (3, .int a3)]) hx hb dM_tap_205 hl (by decide) rfl (fun ls hl => ?_)
                  refine lv_aload_n hx hb dM_tap_207 rfl (lv_at hl 3 rfl) ?_
                  refine fw_get (X := X) (v := .ref (X.2.2 (7, 0, 0))) hx hb hts hin_M hown hK hW (0, 0, 0) mv0 rfl rfl 7 (by decide) (htb _ m_419 rfl) (fun _ h => h) rfl rfl dM_tap_208 ?_
                  refine lv_iload hx hb dM_tap_211 (lv_at hl 0 rfl) ?_
                  refine lv_iload_n hx hb dM_tap_213 rfl (lv_at hl 4 rfl) ?_
                  refine lv_eqi (vi_nI hv_a1) ?_
                  refine fw_iast (X := X) hx hb hK hW hI hA hS (7, 0, 0) mv7 rfl 0 rfl ((32 * a2.toNatClampNeg) + (4 * ((σ37 (8, 0, 0) a2.toNatClampNeg).toNatClampNeg))) (nI_clamp (by omega)) (vp_in_nI (by omega) (by decide)) dM_tap_214 (fun H locs hW hS => ?_)
                  obtain ⟨σ41, e42⟩ : ∃ z : fw_S, z = fw_st σ37 (7, 0, 0) ((32 * a2.toNatClampNeg) + (4 * ((σ37 (8, 0, 0) a2.toNatClampNeg).toNatClampNeg))) (nI a1.toNatClampNeg) := ⟨_, rfl⟩
                  rw [← e42] at hW
                  try rw [← e42] at he
                  unfold ms_tap_s14 at he
                  have hlv : vp_in (σ41 (8, 0, 0) a2.toNatClampNeg) 8 := by rw [e42, fw_st_off (by simp)]; exact hlv
                  refine lv_aload_n hx hb dM_tap_215 rfl (lv_at hl 3 rfl) ?_
                  refine fw_get (X := X) (v := .ref (X.2.2 (7, 0, 0))) hx hb hts hin_M hown hK hW (0, 0, 0) mv0 rfl rfl 7 (by decide) (htb _ m_419 rfl) (fun _ h => h) rfl rfl dM_tap_216 ?_
                  refine lv_iload hx hb dM_tap_219 (lv_at hl 0 rfl) ?_
                  refine lv_iconst (v := 1) hx hb dM_tap_221 (by decide) ?_
                  refine lv_iadd hx hb dM_tap_222 ?_
                  refine lv_eqi (nI_add ((32 * a2.toNatClampNeg) + (4 * ((σ37 (8, 0, 0) a2.toNatClampNeg).toNatClampNeg))) 1) ?_
                  refine lv_iload hx hb dM_tap_223 (lv_at hl 1 rfl) ?_
                  refine fw_iast (X := X) hx hb hK hW hI hA hS (7, 0, 0) mv7 rfl 0 rfl (((32 * a2.toNatClampNeg) + (4 * ((σ37 (8, 0, 0) a2.toNatClampNeg).toNatClampNeg))) + 1) (nI_clamp (by omega)) (vp_in_nI (by omega) (by decide)) dM_tap_225 (fun H locs hW hS => ?_)
                  obtain ⟨σ43, e44⟩ : ∃ z : fw_S, z = fw_st σ41 (7, 0, 0) (((32 * a2.toNatClampNeg) + (4 * ((σ37 (8, 0, 0) a2.toNatClampNeg).toNatClampNeg))) + 1) z18 := ⟨_, rfl⟩
                  rw [← e44] at hW
                  try rw [← e44] at he
                  unfold ms_tap_s15 at he
                  have hlv : vp_in (σ43 (8, 0, 0) a2.toNatClampNeg) 8 := by rw [e44, fw_st_off (by simp)]; exact hlv
                  refine lv_aload_n hx hb dM_tap_226 rfl (lv_at hl 3 rfl) ?_
                  refine fw_get (X := X) (v := .ref (X.2.2 (7, 0, 0))) hx hb hts hin_M hown hK hW (0, 0, 0) mv0 rfl rfl 7 (by decide) (htb _ m_419 rfl) (fun _ h => h) rfl rfl dM_tap_227 ?_
                  refine lv_iload hx hb dM_tap_230 (lv_at hl 0 rfl) ?_
                  refine lv_iconst (v := 2) hx hb dM_tap_232 (by decide) ?_
                  refine lv_iadd hx hb dM_tap_233 ?_
                  refine lv_eqi (nI_add ((32 * a2.toNatClampNeg) + (4 * ((σ37 (8, 0, 0) a2.toNatClampNeg).toNatClampNeg))) 2) ?_
                  refine lv_iload hx hb dM_tap_234 (lv_at hl 2 rfl) ?_
                  refine fw_iast (X := X) hx hb hK hW hI hA hS (7, 0, 0) mv7 rfl 0 rfl (((32 * a2.toNatClampNeg) + (4 * ((σ37 (8, 0, 0) a2.toNatClampNeg).toNatClampNeg))) + 2) (nI_clamp (by omega)) (vp_in_nI (by omega) (by decide)) dM_tap_236 (fun H locs hW hS => ?_)
                  obtain ⟨σ45, e46⟩ : ∃ z : fw_S, z = fw_st σ43 (7, 0, 0) (((32 * a2.toNatClampNeg) + (4 * ((σ37 (8, 0, 0) a2.toNatClampNeg).toNatClampNeg))) + 2) r11 := ⟨_, rfl⟩
                  rw [← e46] at hW
                  try rw [← e46] at he
                  unfold ms_tap_s16 at he
                  have hlv : vp_in (σ45 (8, 0, 0) a2.toNatClampNeg) 8 := by rw [e46, fw_st_off (by simp)]; exact hlv
                  refine lv_aload_n hx hb dM_tap_237 rfl (lv_at hl 3 rfl) ?_
                  refine fw_get (X := X) (v := .ref (X.2.2 (7, 0, 0))) hx hb hts hin_M hown hK hW (0, 0, 0) mv0 rfl rfl 7 (by decide) (htb _ m_419 rfl) (fun _ h => h) rfl rfl dM_tap_238 ?_
                  refine lv_iload hx hb dM_tap_241 (lv_at hl 0 rfl) ?_
                  refine lv_iconst (v := 3) hx hb dM_tap_243 (by decide) ?_
                  refine lv_iadd hx hb dM_tap_244 ?_
                  refine lv_eqi (nI_add ((32 * a2.toNatClampNeg) + (4 * ((σ37 (8, 0, 0) a2.toNatClampNeg).toNatClampNeg))) 3) ?_
                  refine lv_aload_n hx hb dM_tap_245 rfl (lv_at hl 3 rfl) ?_
                  refine fw_get (X := X) (v := .ref (X.2.2 (4, 0, 0))) hx hb hts hin_M hown hK hW (0, 0, 0) mv0 rfl rfl 4 (by decide) (htb _ m_416 rfl) (fun _ h => h) rfl rfl dM_tap_246 ?_
                  refine lv_iconst (v := 0) hx hb dM_tap_249 (by decide) ?_
                  refine fw_iald (X := X) hx hb hK hW (4, 0, 0) mv4 rfl 0 rfl 0 (by decide) (by unfold vp_in; decide) dM_tap_250 ?_
                  refine fw_iast (X := X) hx hb hK hW hI hA hS (7, 0, 0) mv7 rfl 0 rfl (((32 * a2.toNatClampNeg) + (4 * ((σ37 (8, 0, 0) a2.toNatClampNeg).toNatClampNeg))) + 3) (nI_clamp (by omega)) (vp_in_nI (by omega) (by decide)) dM_tap_251 (fun H locs hW hS => ?_)
                  obtain ⟨σ47, e48⟩ : ∃ z : fw_S, z = fw_st σ45 (7, 0, 0) (((32 * a2.toNatClampNeg) + (4 * ((σ37 (8, 0, 0) a2.toNatClampNeg).toNatClampNeg))) + 3) (σ45 (4, 0, 0) 0) := ⟨_, rfl⟩
                  rw [← e48] at hW
                  try rw [← e48] at he
                  unfold ms_tap_s17 at he
                  have hlv : vp_in (σ47 (8, 0, 0) a2.toNatClampNeg) 8 := by rw [e48, fw_st_off (by simp)]; exact hlv
                  refine lv_aload_n hx hb dM_tap_252 rfl (lv_at hl 3 rfl) ?_
                  refine fw_get (X := X) (v := .ref (X.2.2 (8, 0, 0))) hx hb hts hin_M hown hK hW (0, 0, 0) mv0 rfl rfl 8 (by decide) (htb _ m_420 rfl) (fun _ h => h) rfl rfl dM_tap_253 ?_
                  refine lv_iload_n hx hb dM_tap_256 rfl (lv_at hl 5 rfl) ?_
                  refine lv_eqi (vi_nI hv_a2) ?_
                  refine lv_dup2_11 hx hb dM_tap_257 rfl rfl ?_
                  refine fw_iald (X := X) hx hb hK hW (8, 0, 0) mv8 rfl 0 rfl a2.toNatClampNeg (nI_clamp (by omega)) (vp_in_nI (by omega) (by decide)) dM_tap_258 ?_
                  refine lv_iconst (v := 1) hx hb dM_tap_259 (by decide) ?_
                  refine lv_iadd hx hb dM_tap_260 ?_
                  refine fw_iast (X := X) hx hb hK hW hI hA hS (8, 0, 0) mv8 rfl 0 rfl a2.toNatClampNeg (nI_clamp (by omega)) (vp_in_nI (by omega) (by decide)) dM_tap_261 (fun H locs hW hS => ?_)
                  obtain ⟨σ49, e50⟩ : ∃ z : fw_S, z = fw_st σ47 (8, 0, 0) a2.toNatClampNeg ((σ47 (8, 0, 0) a2.toNatClampNeg) + 1) := ⟨_, rfl⟩
                  rw [← e50] at hW
                  try rw [← e50] at he
                  unfold ms_tap_s18 at he
                  refine lv_iload hx hb dM_tap_262 (lv_at hl 2 rfl) ?_
                  exact fw_iret hx hb hr hlocks hK hnb hW hS he dM_tap_264
                · rw [if_neg c39] at he
                  refine lv_aload_n hx hb dM_tap_179 rfl (lv_at hl 2 rfl) ?_
                  refine lv_dup hx hb dM_tap_180 rfl ?_
                  refine fw_get (X := X) (v := .int (σ37 (0, 0, 0) 12)) hx hb hts hin_M hown hK hW (0, 0, 0) mv0 rfl rfl 12 (by decide) (htb _ m_424 rfl) (fun _ h => h) rfl rfl dM_tap_181 ?_
                  refine lv_iconst (v := 1) hx hb dM_tap_184 (by decide) ?_
                  refine lv_iadd hx hb dM_tap_185 ?_
                  refine fw_put (X := X) hx hb hts hin_M ty_M ty_M_ok nm_M hown hK hW hI hA hS (0, 0, 0) mv0 rfl rfl rfl 12 (by decide) (htb _ m_424 rfl) (fun _ h => h) rfl rfl (ty := .int) (by decide +kernel) rfl rfl dM_tap_186 (fun H locs hW hS => ?_)
                  obtain ⟨σ51, e52⟩ : ∃ z : fw_S, z = fw_st σ37 (0, 0, 0) 12 ((σ37 (0, 0, 0) 12) + 1) := ⟨_, rfl⟩
                  rw [← e52] at hW
                  try rw [← e52] at he
                  unfold ms_tap_s19 at he
                  have hlv : vp_in (σ51 (8, 0, 0) a2.toNatClampNeg) 8 := by rw [e52, fw_st_off (by simp)]; exact hlv
                  refine lv_bipush (v := (-5)) hx hb dM_tap_189 (by decide) ?_
                  exact fw_iret hx hb hr hlocks hK hnb hW hS he dM_tap_191
            · rw [if_pos c8] at he
              refine lv_aload_n hx hb dM_tap_74 rfl (lv_at hl 0 rfl) ?_
              refine fw_get (X := X) (v := .ref (X.2.2 (4, 0, 0))) hx hb hts hin_M hown hK hW (0, 0, 0) mv0 rfl rfl 4 (by decide) (htb _ m_416 rfl) (fun _ h => h) rfl rfl dM_tap_75 ?_
              refine lv_iconst (v := 0) hx hb dM_tap_78 (by decide) ?_
              refine fw_iald (X := X) hx hb hK hW (4, 0, 0) mv4 rfl 0 rfl 0 (by decide) (by unfold vp_in; decide) dM_tap_79 ?_
              refine lv_aload_n hx hb dM_tap_80 rfl (lv_at hl 0 rfl) ?_
              refine fw_get (X := X) (v := .ref (X.2.2 (2, 0, 0))) hx hb hts hin_M hown hK hW (0, 0, 0) mv0 rfl rfl 1 (by decide) (htb _ m_413 rfl) (fun _ h => h) rfl rfl dM_tap_81 ?_
              refine lv_iconst (v := 4) hx hb dM_tap_84 (by decide) ?_
              refine fw_iald (X := X) hx hb hK hW (2, 0, 0) mv2 rfl 0 rfl 4 (by decide) (by unfold vp_in; decide) dM_tap_85 ?_
              refine lv_icmp_ge (tgt := 92) hx hb dM_tap_86 (by decide) (fun c53 => ?_) (fun c53 => ?_)
              · rw [if_pos c53] at he
                refine lv_aload_n hx hb dM_tap_92 rfl (lv_at hl 0 rfl) ?_
                refine fw_get (X := X) (v := .ref (X.2.2 (6, 0, 0))) hx hb hts hin_M hown hK hW (0, 0, 0) mv0 rfl rfl 6 (by decide) (htb _ m_418 rfl) (fun _ h => h) rfl rfl dM_tap_93 ?_
                refine lv_iload_n hx hb dM_tap_96 rfl (lv_at hl 2 rfl) ?_
                refine lv_eqi (vi_nI hv_a2) ?_
                refine fw_zald (X := X) hx hb hK hW (6, 0, 0) mv6 rfl 5 rfl a2.toNatClampNeg (nI_clamp (by omega)) (vp_in_nI (by omega) (by decide)) dM_tap_97 ?_
                refine lv_if_eq (tgt := 115) hx hb dM_tap_98 (by decide) (fun c54 => ?_) (fun c54 => ?_)
                rotate_left
                · exact (by first | exact absurd c54 c8 | exact absurd c8 c54)
                refine lv_aload_n hx hb dM_tap_115 rfl (lv_at hl 0 rfl) ?_
                refine lv_iload_n hx hb dM_tap_116 rfl (lv_at hl 1 rfl) ?_
                refine lv_eqi (vi_nI hv_a1) ?_
                refine lv_aload_n hx hb dM_tap_117 rfl (lv_at hl 0 rfl) ?_
                refine fw_get (X := X) (v := .ref (X.2.2 (5, 0, 0))) hx hb hts hin_M hown hK hW (0, 0, 0) mv0 rfl rfl 5 (by decide) (htb _ m_417 rfl) (fun _ h => h) rfl rfl dM_tap_118 ?_
                refine lv_iload_n hx hb dM_tap_121 rfl (lv_at hl 2 rfl) ?_
                refine lv_eqi (vi_nI hv_a2) ?_
                refine fw_iald (X := X) hx hb hK hW (5, 0, 0) mv5 rfl 0 rfl a2.toNatClampNeg (nI_clamp (by omega)) (vp_in_nI (by omega) (by decide)) dM_tap_122 ?_
                have hv55 : vp_in (σ6 (5, 0, 0) a2.toNatClampNeg) 6 := by rw [e_ld, fr_load _ _ (5, 0, 0) (by simp)]; exact hzn _ hl_a2
                have hv55l := vi_lt hv55
                refine lv_eqi (vi_nI hv55) ?_
                refine fw_ki (va_runV (As := [.int (nI a1.toNatClampNeg), .int (nI ((σ6 (5, 0, 0) a2.toNatClampNeg).toNatClampNeg))]) (rest := []) ⟨hx, hb, hml, hown, hts⟩ (cm_enter l X hI σ6 a1.toNatClampNeg (by omega) ((σ6 (5, 0, 0) a2.toNatClampNeg).toNatClampNeg) (by omega) (hz1)) (cwV 2 hts (tb_V m_515 m_512 m_514 m_16 m_31) rfl rfl rfl (by decide +kernel) ⟨Nat.le_of_ble_eq_true rfl, Nat.le_of_ble_eq_true rfl⟩) (fw_preV (X := X) hK hnb hW (0, 0, 0) mv0 rfl rfl [.int (nI a1.toNatClampNeg), .int (nI ((σ6 (5, 0, 0) a2.toNatClampNeg).toNatClampNeg))]) rfl rfl hl.1 rfl (lv_room (Nat.le_of_ble_eq_true rfl)) dM_tap_123 ⟨Nat.zero_le _, Nat.zero_le _⟩) hS (fun r56 σ57 H locs o58 hW hS => ?_)
                rw [o58] at he
                unfold ms_tap_s20 at he
                dsimp only at he
                have hlv : vp_in (σ57 (8, 0, 0) a2.toNatClampNeg) 8 := by rw [← (show _ = σ57 from congrArg Prod.snd o58), fr_enter _ _ _ (8, 0, 0) (by simp)]; exact hlv
                refine lv_istore (lv' := [(4, .int r56), (0, .ref (X.2.2 (0, 0, 0))), (1, .int a1), (2, .int a2), (3, .int a3)]) hx hb dM_tap_126 hl (by decide) rfl (fun ls hl => ?_)
                refine lv_aload_n hx hb dM_tap_128 rfl (lv_at hl 1 rfl) ?_
                refine fw_get (X := X) (v := .ref (X.2.2 (4, 0, 0))) hx hb hts hin_M hown hK hW (0, 0, 0) mv0 rfl rfl 4 (by decide) (htb _ m_416 rfl) (fun _ h => h) rfl rfl dM_tap_129 ?_
                refine lv_iconst (v := 0) hx hb dM_tap_132 (by decide) ?_
                refine lv_dup2_11 hx hb dM_tap_133 rfl rfl ?_
                refine fw_iald (X := X) hx hb hK hW (4, 0, 0) mv4 rfl 0 rfl 0 (by decide) (by unfold vp_in; decide) dM_tap_134 ?_
                refine lv_iload hx hb dM_tap_135 (lv_at hl 0 rfl) ?_
                refine lv_isub hx hb dM_tap_137 ?_
                refine fw_iast (X := X) hx hb hK hW hI hA hS (4, 0, 0) mv4 rfl 0 rfl 0 (by decide) (by unfold vp_in; decide) dM_tap_138 (fun H locs hW hS => ?_)
                obtain ⟨σ59, e60⟩ : ∃ z : fw_S, z = fw_st σ57 (4, 0, 0) 0 ((σ57 (4, 0, 0) 0) - r56) := ⟨_, rfl⟩
                rw [← e60] at hW
                try rw [← e60] at he
                unfold ms_tap_s21 at he
                have hlv : vp_in (σ59 (8, 0, 0) a2.toNatClampNeg) 8 := by rw [e60, fw_st_off (by simp)]; exact hlv
                refine lv_aload_n hx hb dM_tap_139 rfl (lv_at hl 1 rfl) ?_
                refine fw_get (X := X) (v := .ref (X.2.2 (4, 0, 0))) hx hb hts hin_M hown hK hW (0, 0, 0) mv0 rfl rfl 4 (by decide) (htb _ m_416 rfl) (fun _ h => h) rfl rfl dM_tap_140 ?_
                refine lv_bipush (v := 6) hx hb dM_tap_143 (by decide) ?_
                refine lv_dup2_11 hx hb dM_tap_145 rfl rfl ?_
                refine fw_iald (X := X) hx hb hK hW (4, 0, 0) mv4 rfl 0 rfl 6 (by decide) (by unfold vp_in; decide) dM_tap_146 ?_
                refine lv_iload hx hb dM_tap_147 (lv_at hl 0 rfl) ?_
                refine lv_iadd hx hb dM_tap_149 ?_
                refine fw_iast (X := X) hx hb hK hW hI hA hS (4, 0, 0) mv4 rfl 0 rfl 6 (by decide) (by unfold vp_in; decide) dM_tap_150 (fun H locs hW hS => ?_)
                obtain ⟨σ61, e62⟩ : ∃ z : fw_S, z = fw_st σ59 (4, 0, 0) 6 ((σ59 (4, 0, 0) 6) + r56) := ⟨_, rfl⟩
                rw [← e62] at hW
                try rw [← e62] at he
                unfold ms_tap_s22 at he
                have hlv : vp_in (σ61 (8, 0, 0) a2.toNatClampNeg) 8 := by rw [e62, fw_st_off (by simp)]; exact hlv
                refine lv_aload_n hx hb dM_tap_151 rfl (lv_at hl 1 rfl) ?_
                refine lv_iload_n hx hb dM_tap_152 rfl (lv_at hl 2 rfl) ?_
                refine lv_eqi (vi_nI hv_a1) ?_
                refine fw_kp (va_runV (As := [.int (nI a1.toNatClampNeg)]) (rest := []) ⟨hx, hb, hml, hown, hts⟩ (cm_counter l X hI σ61 a1.toNatClampNeg (by omega) ) (cwV 1 hts (tb_V m_519 m_516 m_518 m_17 m_31) rfl rfl rfl (by decide +kernel) ⟨Nat.le_of_ble_eq_true rfl, Nat.le_of_ble_eq_true rfl⟩) (fw_preV (X := X) hK hnb hW (0, 0, 0) mv0 rfl rfl [.int (nI a1.toNatClampNeg)]) rfl rfl hl.1 rfl (lv_room (Nat.le_of_ble_eq_true rfl)) dM_tap_153 ⟨Nat.zero_le _, Nat.zero_le _⟩) hS (fun H locs hW hS => ?_)
                refine lv_iconst (v := 1) hx hb dM_tap_156 (by decide) ?_
                refine lv_iadd hx hb dM_tap_157 ?_
                refine lv_topi (fun z63 e64 => ?_)
                try rw [← e64] at he
                unfold ms_tap_s23 at he
                refine lv_istore (lv' := [(5, .int z63), (4, .int r56), (0, .ref (X.2.2 (0, 0, 0))), (1, .int a1), (2, .int a2), (3, .int a3)]) hx hb dM_tap_158 hl (by decide) rfl (fun ls hl => ?_)
                refine lv_aload_n hx hb dM_tap_160 rfl (lv_at hl 2 rfl) ?_
                refine lv_iload_n hx hb dM_tap_161 rfl (lv_at hl 3 rfl) ?_
                refine lv_eqi (vi_nI hv_a1) ?_
                refine lv_iload_n hx hb dM_tap_162 rfl (lv_at hl 5 rfl) ?_
                refine lv_if_ne (tgt := 171) hx hb dM_tap_163 (by decide) (fun c65 => ?_) (fun c65 => ?_)
                · rw [if_neg c65] at he
                  refine lv_iload_n hx hb dM_tap_171 rfl (lv_at hl 5 rfl) ?_
                  have hv_a3 : vp_in a3 9 := (in_vi ‹¬ ms_in a3 0 8 = 0›)
                  have hl_a3 := vi_lt hv_a3
                  refine lv_eqi (vi_nI hv_a3) ?_
                  refine fw_kv (va_runV (As := [.int (nI a1.toNatClampNeg), .int (nI a3.toNatClampNeg)]) (rest := []) ⟨hx, hb, hml, hown, hts⟩ (cm_change l X hI σ61 a1.toNatClampNeg (by omega) a3.toNatClampNeg (by omega) ) (cwV 2 hts (tb_V m_523 m_520 m_522 m_18 m_31) rfl rfl rfl (by decide +kernel) ⟨Nat.le_of_ble_eq_true rfl, Nat.le_of_ble_eq_true rfl⟩) (fw_preV (X := X) hK hnb hW (0, 0, 0) mv0 rfl rfl [.int (nI a1.toNatClampNeg), .int (nI a3.toNatClampNeg)]) rfl rfl hl.1 rfl (lv_room (Nat.le_of_ble_eq_true rfl)) dM_tap_172 ⟨Nat.zero_le _, Nat.zero_le _⟩) hS (fun H locs hW hS => ?_)
                  obtain ⟨σ66, e67⟩ : ∃ z : fw_S, z = ms_change σ61 a1.toNatClampNeg a3.toNatClampNeg := ⟨_, rfl⟩
                  rw [← e67] at hW
                  try rw [← e67] at he
                  unfold ms_tap_s24 at he
                  have hlv : vp_in (σ66 (8, 0, 0) a2.toNatClampNeg) 8 := by rw [e67, fr_change _ _ _ (8, 0, 0) (by simp) (by simp)]; exact hlv
                  refine lv_iload_n hx hb dM_tap_175 rfl (lv_at hl 5 rfl) ?_
                  refine lv_if_le (tgt := 192) hx hb dM_tap_176 (by decide) (fun c68 => ?_) (fun c68 => ?_)
                  · rw [if_pos c68] at he
                    refine lv_bipush (v := 32) hx hb dM_tap_192 (by decide) ?_
                    refine lv_iload_n hx hb dM_tap_194 rfl (lv_at hl 4 rfl) ?_
                    refine lv_eqi (vi_nI hv_a2) ?_
                    refine lv_imul hx hb dM_tap_195 ?_
                    refine lv_eqi (pk_mul 32 a2.toNatClampNeg) ?_
                    refine lv_iconst (v := 4) hx hb dM_tap_196 (by decide) ?_
                    refine lv_aload_n hx hb dM_tap_197 rfl (lv_at hl 2 rfl) ?_
                    refine fw_get (X := X) (v := .ref (X.2.2 (8, 0, 0))) hx hb hts hin_M hown hK hW (0, 0, 0) mv0 rfl rfl 8 (by decide) (htb _ m_420 rfl) (fun _ h => h) rfl rfl dM_tap_198 ?_
                    refine lv_iload_n hx hb dM_tap_201 rfl (lv_at hl 4 rfl) ?_
                    refine lv_eqi (vi_nI hv_a2) ?_
                    refine fw_iald (X := X) hx hb hK hW (8, 0, 0) mv8 rfl 0 rfl a2.toNatClampNeg (nI_clamp (by omega)) (vp_in_nI (by omega) (by decide)) dM_tap_202 ?_
                    have hv69 : vp_in (σ66 (8, 0, 0) a2.toNatClampNeg) 8 := hlv
                    have hv69l := vi_lt hv69
                    refine lv_eqi (vi_nI hv69) ?_
                    refine lv_imul hx hb dM_tap_203 ?_
                    refine lv_eqi (pk_mul 4 ((σ66 (8, 0, 0) a2.toNatClampNeg).toNatClampNeg)) ?_
                    refine lv_iadd hx hb dM_tap_204 ?_
                    refine lv_eqi (nI_add (32 * a2.toNatClampNeg) (4 * ((σ66 (8, 0, 0) a2.toNatClampNeg).toNatClampNeg))) ?_
                    refine lv_istore (lv' := [(6, .int (nI ((32 * a2.toNatClampNeg) + (4 * ((σ66 (8, 0, 0) a2.toNatClampNeg).toNatClampNeg))))), (5, .int z63), (4, .int r56), (0, .ref (X.2.2 (0, 0, 0))), (1, .int a1), (2, .int a2), (3, .int a3)]) hx hb dM_tap_205 hl (by decide) rfl (fun ls hl => ?_)
                    refine lv_aload_n hx hb dM_tap_207 rfl (lv_at hl 3 rfl) ?_
                    refine fw_get (X := X) (v := .ref (X.2.2 (7, 0, 0))) hx hb hts hin_M hown hK hW (0, 0, 0) mv0 rfl rfl 7 (by decide) (htb _ m_419 rfl) (fun _ h => h) rfl rfl dM_tap_208 ?_
                    refine lv_iload hx hb dM_tap_211 (lv_at hl 0 rfl) ?_
                    refine lv_iload_n hx hb dM_tap_213 rfl (lv_at hl 4 rfl) ?_
                    refine lv_eqi (vi_nI hv_a1) ?_
                    refine fw_iast (X := X) hx hb hK hW hI hA hS (7, 0, 0) mv7 rfl 0 rfl ((32 * a2.toNatClampNeg) + (4 * ((σ66 (8, 0, 0) a2.toNatClampNeg).toNatClampNeg))) (nI_clamp (by omega)) (vp_in_nI (by omega) (by decide)) dM_tap_214 (fun H locs hW hS => ?_)
                    obtain ⟨σ70, e71⟩ : ∃ z : fw_S, z = fw_st σ66 (7, 0, 0) ((32 * a2.toNatClampNeg) + (4 * ((σ66 (8, 0, 0) a2.toNatClampNeg).toNatClampNeg))) (nI a1.toNatClampNeg) := ⟨_, rfl⟩
                    rw [← e71] at hW
                    try rw [← e71] at he
                    unfold ms_tap_s25 at he
                    have hlv : vp_in (σ70 (8, 0, 0) a2.toNatClampNeg) 8 := by rw [e71, fw_st_off (by simp)]; exact hlv
                    refine lv_aload_n hx hb dM_tap_215 rfl (lv_at hl 3 rfl) ?_
                    refine fw_get (X := X) (v := .ref (X.2.2 (7, 0, 0))) hx hb hts hin_M hown hK hW (0, 0, 0) mv0 rfl rfl 7 (by decide) (htb _ m_419 rfl) (fun _ h => h) rfl rfl dM_tap_216 ?_
                    refine lv_iload hx hb dM_tap_219 (lv_at hl 0 rfl) ?_
                    refine lv_iconst (v := 1) hx hb dM_tap_221 (by decide) ?_
                    refine lv_iadd hx hb dM_tap_222 ?_
                    refine lv_eqi (nI_add ((32 * a2.toNatClampNeg) + (4 * ((σ66 (8, 0, 0) a2.toNatClampNeg).toNatClampNeg))) 1) ?_
                    refine lv_iload hx hb dM_tap_223 (lv_at hl 1 rfl) ?_
                    refine fw_iast (X := X) hx hb hK hW hI hA hS (7, 0, 0) mv7 rfl 0 rfl (((32 * a2.toNatClampNeg) + (4 * ((σ66 (8, 0, 0) a2.toNatClampNeg).toNatClampNeg))) + 1) (nI_clamp (by omega)) (vp_in_nI (by omega) (by decide)) dM_tap_225 (fun H locs hW hS => ?_)
                    obtain ⟨σ72, e73⟩ : ∃ z : fw_S, z = fw_st σ70 (7, 0, 0) (((32 * a2.toNatClampNeg) + (4 * ((σ66 (8, 0, 0) a2.toNatClampNeg).toNatClampNeg))) + 1) z63 := ⟨_, rfl⟩
                    rw [← e73] at hW
                    try rw [← e73] at he
                    unfold ms_tap_s26 at he
                    have hlv : vp_in (σ72 (8, 0, 0) a2.toNatClampNeg) 8 := by rw [e73, fw_st_off (by simp)]; exact hlv
                    refine lv_aload_n hx hb dM_tap_226 rfl (lv_at hl 3 rfl) ?_
                    refine fw_get (X := X) (v := .ref (X.2.2 (7, 0, 0))) hx hb hts hin_M hown hK hW (0, 0, 0) mv0 rfl rfl 7 (by decide) (htb _ m_419 rfl) (fun _ h => h) rfl rfl dM_tap_227 ?_
                    refine lv_iload hx hb dM_tap_230 (lv_at hl 0 rfl) ?_
                    refine lv_iconst (v := 2) hx hb dM_tap_232 (by decide) ?_
                    refine lv_iadd hx hb dM_tap_233 ?_
                    refine lv_eqi (nI_add ((32 * a2.toNatClampNeg) + (4 * ((σ66 (8, 0, 0) a2.toNatClampNeg).toNatClampNeg))) 2) ?_
                    refine lv_iload hx hb dM_tap_234 (lv_at hl 2 rfl) ?_
                    refine fw_iast (X := X) hx hb hK hW hI hA hS (7, 0, 0) mv7 rfl 0 rfl (((32 * a2.toNatClampNeg) + (4 * ((σ66 (8, 0, 0) a2.toNatClampNeg).toNatClampNeg))) + 2) (nI_clamp (by omega)) (vp_in_nI (by omega) (by decide)) dM_tap_236 (fun H locs hW hS => ?_)
                    obtain ⟨σ74, e75⟩ : ∃ z : fw_S, z = fw_st σ72 (7, 0, 0) (((32 * a2.toNatClampNeg) + (4 * ((σ66 (8, 0, 0) a2.toNatClampNeg).toNatClampNeg))) + 2) r56 := ⟨_, rfl⟩
                    rw [← e75] at hW
                    try rw [← e75] at he
                    unfold ms_tap_s27 at he
                    have hlv : vp_in (σ74 (8, 0, 0) a2.toNatClampNeg) 8 := by rw [e75, fw_st_off (by simp)]; exact hlv
                    refine lv_aload_n hx hb dM_tap_237 rfl (lv_at hl 3 rfl) ?_
                    refine fw_get (X := X) (v := .ref (X.2.2 (7, 0, 0))) hx hb hts hin_M hown hK hW (0, 0, 0) mv0 rfl rfl 7 (by decide) (htb _ m_419 rfl) (fun _ h => h) rfl rfl dM_tap_238 ?_
                    refine lv_iload hx hb dM_tap_241 (lv_at hl 0 rfl) ?_
                    refine lv_iconst (v := 3) hx hb dM_tap_243 (by decide) ?_
                    refine lv_iadd hx hb dM_tap_244 ?_
                    refine lv_eqi (nI_add ((32 * a2.toNatClampNeg) + (4 * ((σ66 (8, 0, 0) a2.toNatClampNeg).toNatClampNeg))) 3) ?_
                    refine lv_aload_n hx hb dM_tap_245 rfl (lv_at hl 3 rfl) ?_
                    refine fw_get (X := X) (v := .ref (X.2.2 (4, 0, 0))) hx hb hts hin_M hown hK hW (0, 0, 0) mv0 rfl rfl 4 (by decide) (htb _ m_416 rfl) (fun _ h => h) rfl rfl dM_tap_246 ?_
                    refine lv_iconst (v := 0) hx hb dM_tap_249 (by decide) ?_
                    refine fw_iald (X := X) hx hb hK hW (4, 0, 0) mv4 rfl 0 rfl 0 (by decide) (by unfold vp_in; decide) dM_tap_250 ?_
                    refine fw_iast (X := X) hx hb hK hW hI hA hS (7, 0, 0) mv7 rfl 0 rfl (((32 * a2.toNatClampNeg) + (4 * ((σ66 (8, 0, 0) a2.toNatClampNeg).toNatClampNeg))) + 3) (nI_clamp (by omega)) (vp_in_nI (by omega) (by decide)) dM_tap_251 (fun H locs hW hS => ?_)
                    obtain ⟨σ76, e77⟩ : ∃ z : fw_S, z = fw_st σ74 (7, 0, 0) (((32 * a2.toNatClampNeg) + (4 * ((σ66 (8, 0, 0) a2.toNatClampNeg).toNatClampNeg))) + 3) (σ74 (4, 0, 0) 0) := ⟨_, rfl⟩
                    rw [← e77] at hW
                    try rw [← e77] at he
                    unfold ms_tap_s28 at he
                    have hlv : vp_in (σ76 (8, 0, 0) a2.toNatClampNeg) 8 := by rw [e77, fw_st_off (by simp)]; exact hlv
                    refine lv_aload_n hx hb dM_tap_252 rfl (lv_at hl 3 rfl) ?_
                    refine fw_get (X := X) (v := .ref (X.2.2 (8, 0, 0))) hx hb hts hin_M hown hK hW (0, 0, 0) mv0 rfl rfl 8 (by decide) (htb _ m_420 rfl) (fun _ h => h) rfl rfl dM_tap_253 ?_
                    refine lv_iload_n hx hb dM_tap_256 rfl (lv_at hl 5 rfl) ?_
                    refine lv_eqi (vi_nI hv_a2) ?_
                    refine lv_dup2_11 hx hb dM_tap_257 rfl rfl ?_
                    refine fw_iald (X := X) hx hb hK hW (8, 0, 0) mv8 rfl 0 rfl a2.toNatClampNeg (nI_clamp (by omega)) (vp_in_nI (by omega) (by decide)) dM_tap_258 ?_
                    refine lv_iconst (v := 1) hx hb dM_tap_259 (by decide) ?_
                    refine lv_iadd hx hb dM_tap_260 ?_
                    refine fw_iast (X := X) hx hb hK hW hI hA hS (8, 0, 0) mv8 rfl 0 rfl a2.toNatClampNeg (nI_clamp (by omega)) (vp_in_nI (by omega) (by decide)) dM_tap_261 (fun H locs hW hS => ?_)
                    obtain ⟨σ78, e79⟩ : ∃ z : fw_S, z = fw_st σ76 (8, 0, 0) a2.toNatClampNeg ((σ76 (8, 0, 0) a2.toNatClampNeg) + 1) := ⟨_, rfl⟩
                    rw [← e79] at hW
                    try rw [← e79] at he
                    unfold ms_tap_s29 at he
                    refine lv_iload hx hb dM_tap_262 (lv_at hl 2 rfl) ?_
                    exact fw_iret hx hb hr hlocks hK hnb hW hS he dM_tap_264
                  · rw [if_neg c68] at he
                    refine lv_aload_n hx hb dM_tap_179 rfl (lv_at hl 2 rfl) ?_
                    refine lv_dup hx hb dM_tap_180 rfl ?_
                    refine fw_get (X := X) (v := .int (σ66 (0, 0, 0) 12)) hx hb hts hin_M hown hK hW (0, 0, 0) mv0 rfl rfl 12 (by decide) (htb _ m_424 rfl) (fun _ h => h) rfl rfl dM_tap_181 ?_
                    refine lv_iconst (v := 1) hx hb dM_tap_184 (by decide) ?_
                    refine lv_iadd hx hb dM_tap_185 ?_
                    refine fw_put (X := X) hx hb hts hin_M ty_M ty_M_ok nm_M hown hK hW hI hA hS (0, 0, 0) mv0 rfl rfl rfl 12 (by decide) (htb _ m_424 rfl) (fun _ h => h) rfl rfl (ty := .int) (by decide +kernel) rfl rfl dM_tap_186 (fun H locs hW hS => ?_)
                    obtain ⟨σ80, e81⟩ : ∃ z : fw_S, z = fw_st σ66 (0, 0, 0) 12 ((σ66 (0, 0, 0) 12) + 1) := ⟨_, rfl⟩
                    rw [← e81] at hW
                    try rw [← e81] at he
                    unfold ms_tap_s30 at he
                    have hlv : vp_in (σ80 (8, 0, 0) a2.toNatClampNeg) 8 := by rw [e81, fw_st_off (by simp)]; exact hlv
                    refine lv_bipush (v := (-5)) hx hb dM_tap_189 (by decide) ?_
                    exact fw_iret hx hb hr hlocks hK hnb hW hS he dM_tap_191
                · rw [if_pos c65] at he
                  refine lv_bipush (v := 8) hx hb dM_tap_166 (by decide) ?_
                  refine lv_goto (tgt := 172) hx hb dM_tap_168 (by decide) ?_
                  refine fw_kv (va_runV (As := [.int (nI a1.toNatClampNeg), .int 8]) (rest := []) ⟨hx, hb, hml, hown, hts⟩ (cm_change l X hI σ61 a1.toNatClampNeg (by omega) 8 (by omega) ) (cwV 2 hts (tb_V m_523 m_520 m_522 m_18 m_31) rfl rfl rfl (by decide +kernel) ⟨Nat.le_of_ble_eq_true rfl, Nat.le_of_ble_eq_true rfl⟩) (fw_preV (X := X) hK hnb hW (0, 0, 0) mv0 rfl rfl [.int (nI a1.toNatClampNeg), .int 8]) rfl rfl hl.1 rfl (lv_room (Nat.le_of_ble_eq_true rfl)) dM_tap_172 ⟨Nat.zero_le _, Nat.zero_le _⟩) hS (fun H locs hW hS => ?_)
                  obtain ⟨σ82, e83⟩ : ∃ z : fw_S, z = ms_change σ61 a1.toNatClampNeg 8 := ⟨_, rfl⟩
                  rw [← e83] at hW
                  try rw [← e83] at he
                  unfold ms_tap_s31 at he
                  have hlv : vp_in (σ82 (8, 0, 0) a2.toNatClampNeg) 8 := by rw [e83, fr_change _ _ _ (8, 0, 0) (by simp) (by simp)]; exact hlv
                  refine lv_iload_n hx hb dM_tap_175 rfl (lv_at hl 5 rfl) ?_
                  refine lv_if_le (tgt := 192) hx hb dM_tap_176 (by decide) (fun c84 => ?_) (fun c84 => ?_)
                  · rw [if_pos c84] at he
                    refine lv_bipush (v := 32) hx hb dM_tap_192 (by decide) ?_
                    refine lv_iload_n hx hb dM_tap_194 rfl (lv_at hl 4 rfl) ?_
                    refine lv_eqi (vi_nI hv_a2) ?_
                    refine lv_imul hx hb dM_tap_195 ?_
                    refine lv_eqi (pk_mul 32 a2.toNatClampNeg) ?_
                    refine lv_iconst (v := 4) hx hb dM_tap_196 (by decide) ?_
                    refine lv_aload_n hx hb dM_tap_197 rfl (lv_at hl 2 rfl) ?_
                    refine fw_get (X := X) (v := .ref (X.2.2 (8, 0, 0))) hx hb hts hin_M hown hK hW (0, 0, 0) mv0 rfl rfl 8 (by decide) (htb _ m_420 rfl) (fun _ h => h) rfl rfl dM_tap_198 ?_
                    refine lv_iload_n hx hb dM_tap_201 rfl (lv_at hl 4 rfl) ?_
                    refine lv_eqi (vi_nI hv_a2) ?_
                    refine fw_iald (X := X) hx hb hK hW (8, 0, 0) mv8 rfl 0 rfl a2.toNatClampNeg (nI_clamp (by omega)) (vp_in_nI (by omega) (by decide)) dM_tap_202 ?_
                    have hv85 : vp_in (σ82 (8, 0, 0) a2.toNatClampNeg) 8 := hlv
                    have hv85l := vi_lt hv85
                    refine lv_eqi (vi_nI hv85) ?_
                    refine lv_imul hx hb dM_tap_203 ?_
                    refine lv_eqi (pk_mul 4 ((σ82 (8, 0, 0) a2.toNatClampNeg).toNatClampNeg)) ?_
                    refine lv_iadd hx hb dM_tap_204 ?_
                    refine lv_eqi (nI_add (32 * a2.toNatClampNeg) (4 * ((σ82 (8, 0, 0) a2.toNatClampNeg).toNatClampNeg))) ?_
                    refine lv_istore (lv' := [(6, .int (nI ((32 * a2.toNatClampNeg) + (4 * ((σ82 (8, 0, 0) a2.toNatClampNeg).toNatClampNeg))))), (5, .int z63), (4, .int r56), (0, .ref (X.2.2 (0, 0, 0))), (1, .int a1), (2, .int a2), (3, .int a3)]) hx hb dM_tap_205 hl (by decide) rfl (fun ls hl => ?_)
                    refine lv_aload_n hx hb dM_tap_207 rfl (lv_at hl 3 rfl) ?_
                    refine fw_get (X := X) (v := .ref (X.2.2 (7, 0, 0))) hx hb hts hin_M hown hK hW (0, 0, 0) mv0 rfl rfl 7 (by decide) (htb _ m_419 rfl) (fun _ h => h) rfl rfl dM_tap_208 ?_
                    refine lv_iload hx hb dM_tap_211 (lv_at hl 0 rfl) ?_
                    refine lv_iload_n hx hb dM_tap_213 rfl (lv_at hl 4 rfl) ?_
                    refine lv_eqi (vi_nI hv_a1) ?_
                    refine fw_iast (X := X) hx hb hK hW hI hA hS (7, 0, 0) mv7 rfl 0 rfl ((32 * a2.toNatClampNeg) + (4 * ((σ82 (8, 0, 0) a2.toNatClampNeg).toNatClampNeg))) (nI_clamp (by omega)) (vp_in_nI (by omega) (by decide)) dM_tap_214 (fun H locs hW hS => ?_)
                    obtain ⟨σ86, e87⟩ : ∃ z : fw_S, z = fw_st σ82 (7, 0, 0) ((32 * a2.toNatClampNeg) + (4 * ((σ82 (8, 0, 0) a2.toNatClampNeg).toNatClampNeg))) (nI a1.toNatClampNeg) := ⟨_, rfl⟩
                    rw [← e87] at hW
                    try rw [← e87] at he
                    unfold ms_tap_s32 at he
                    have hlv : vp_in (σ86 (8, 0, 0) a2.toNatClampNeg) 8 := by rw [e87, fw_st_off (by simp)]; exact hlv
                    refine lv_aload_n hx hb dM_tap_215 rfl (lv_at hl 3 rfl) ?_
                    refine fw_get (X := X) (v := .ref (X.2.2 (7, 0, 0))) hx hb hts hin_M hown hK hW (0, 0, 0) mv0 rfl rfl 7 (by decide) (htb _ m_419 rfl) (fun _ h => h) rfl rfl dM_tap_216 ?_
                    refine lv_iload hx hb dM_tap_219 (lv_at hl 0 rfl) ?_
                    refine lv_iconst (v := 1) hx hb dM_tap_221 (by decide) ?_
                    refine lv_iadd hx hb dM_tap_222 ?_
                    refine lv_eqi (nI_add ((32 * a2.toNatClampNeg) + (4 * ((σ82 (8, 0, 0) a2.toNatClampNeg).toNatClampNeg))) 1) ?_
                    refine lv_iload hx hb dM_tap_223 (lv_at hl 1 rfl) ?_
                    refine fw_iast (X := X) hx hb hK hW hI hA hS (7, 0, 0) mv7 rfl 0 rfl (((32 * a2.toNatClampNeg) + (4 * ((σ82 (8, 0, 0) a2.toNatClampNeg).toNatClampNeg))) + 1) (nI_clamp (by omega)) (vp_in_nI (by omega) (by decide)) dM_tap_225 (fun H locs hW hS => ?_)
                    obtain ⟨σ88, e89⟩ : ∃ z : fw_S, z = fw_st σ86 (7, 0, 0) (((32 * a2.toNatClampNeg) + (4 * ((σ82 (8, 0, 0) a2.toNatClampNeg).toNatClampNeg))) + 1) z63 := ⟨_, rfl⟩
                    rw [← e89] at hW
                    try rw [← e89] at he
                    unfold ms_tap_s33 at he
                    have hlv : vp_in (σ88 (8, 0, 0) a2.toNatClampNeg) 8 := by rw [e89, fw_st_off (by simp)]; exact hlv
                    refine lv_aload_n hx hb dM_tap_226 rfl (lv_at hl 3 rfl) ?_
                    refine fw_get (X := X) (v := .ref (X.2.2 (7, 0, 0))) hx hb hts hin_M hown hK hW (0, 0, 0) mv0 rfl rfl 7 (by decide) (htb _ m_419 rfl) (fun _ h => h) rfl rfl dM_tap_227 ?_
                    refine lv_iload hx hb dM_tap_230 (lv_at hl 0 rfl) ?_
                    refine lv_iconst (v := 2) hx hb dM_tap_232 (by decide) ?_
                    refine lv_iadd hx hb dM_tap_233 ?_
                    refine lv_eqi (nI_add ((32 * a2.toNatClampNeg) + (4 * ((σ82 (8, 0, 0) a2.toNatClampNeg).toNatClampNeg))) 2) ?_
                    refine lv_iload hx hb dM_tap_234 (lv_at hl 2 rfl) ?_
                    refine fw_iast (X := X) hx hb hK hW hI hA hS (7, 0, 0) mv7 rfl 0 rfl (((32 * a2.toNatClampNeg) + (4 * ((σ82 (8, 0, 0) a2.toNatClampNeg).toNatClampNeg))) + 2) (nI_clamp (by omega)) (vp_in_nI (by omega) (by decide)) dM_tap_236 (fun H locs hW hS => ?_)
                    obtain ⟨σ90, e91⟩ : ∃ z : fw_S, z = fw_st σ88 (7, 0, 0) (((32 * a2.toNatClampNeg) + (4 * ((σ82 (8, 0, 0) a2.toNatClampNeg).toNatClampNeg))) + 2) r56 := ⟨_, rfl⟩
                    rw [← e91] at hW
                    try rw [← e91] at he
                    unfold ms_tap_s34 at he
                    have hlv : vp_in (σ90 (8, 0, 0) a2.toNatClampNeg) 8 := by rw [e91, fw_st_off (by simp)]; exact hlv
                    refine lv_aload_n hx hb dM_tap_237 rfl (lv_at hl 3 rfl) ?_
                    refine fw_get (X := X) (v := .ref (X.2.2 (7, 0, 0))) hx hb hts hin_M hown hK hW (0, 0, 0) mv0 rfl rfl 7 (by decide) (htb _ m_419 rfl) (fun _ h => h) rfl rfl dM_tap_238 ?_
                    refine lv_iload hx hb dM_tap_241 (lv_at hl 0 rfl) ?_
                    refine lv_iconst (v := 3) hx hb dM_tap_243 (by decide) ?_
                    refine lv_iadd hx hb dM_tap_244 ?_
                    refine lv_eqi (nI_add ((32 * a2.toNatClampNeg) + (4 * ((σ82 (8, 0, 0) a2.toNatClampNeg).toNatClampNeg))) 3) ?_
                    refine lv_aload_n hx hb dM_tap_245 rfl (lv_at hl 3 rfl) ?_
                    refine fw_get (X := X) (v := .ref (X.2.2 (4, 0, 0))) hx hb hts hin_M hown hK hW (0, 0, 0) mv0 rfl rfl 4 (by decide) (htb _ m_416 rfl) (fun _ h => h) rfl rfl dM_tap_246 ?_
                    refine lv_iconst (v := 0) hx hb dM_tap_249 (by decide) ?_
                    refine fw_iald (X := X) hx hb hK hW (4, 0, 0) mv4 rfl 0 rfl 0 (by decide) (by unfold vp_in; decide) dM_tap_250 ?_
                    refine fw_iast (X := X) hx hb hK hW hI hA hS (7, 0, 0) mv7 rfl 0 rfl (((32 * a2.toNatClampNeg) + (4 * ((σ82 (8, 0, 0) a2.toNatClampNeg).toNatClampNeg))) + 3) (nI_clamp (by omega)) (vp_in_nI (by omega) (by decide)) dM_tap_251 (fun H locs hW hS => ?_)
                    obtain ⟨σ92, e93⟩ : ∃ z : fw_S, z = fw_st σ90 (7, 0, 0) (((32 * a2.toNatClampNeg) + (4 * ((σ82 (8, 0, 0) a2.toNatClampNeg).toNatClampNeg))) + 3) (σ90 (4, 0, 0) 0) := ⟨_, rfl⟩
                    rw [← e93] at hW
                    try rw [← e93] at he
                    unfold ms_tap_s35 at he
                    have hlv : vp_in (σ92 (8, 0, 0) a2.toNatClampNeg) 8 := by rw [e93, fw_st_off (by simp)]; exact hlv
                    refine lv_aload_n hx hb dM_tap_252 rfl (lv_at hl 3 rfl) ?_
                    refine fw_get (X := X) (v := .ref (X.2.2 (8, 0, 0))) hx hb hts hin_M hown hK hW (0, 0, 0) mv0 rfl rfl 8 (by decide) (htb _ m_420 rfl) (fun _ h => h) rfl rfl dM_tap_253 ?_
                    refine lv_iload_n hx hb dM_tap_256 rfl (lv_at hl 5 rfl) ?_
                    refine lv_eqi (vi_nI hv_a2) ?_
                    refine lv_dup2_11 hx hb dM_tap_257 rfl rfl ?_
                    refine fw_iald (X := X) hx hb hK hW (8, 0, 0) mv8 rfl 0 rfl a2.toNatClampNeg (nI_clamp (by omega)) (vp_in_nI (by omega) (by decide)) dM_tap_258 ?_
                    refine lv_iconst (v := 1) hx hb dM_tap_259 (by decide) ?_
                    refine lv_iadd hx hb dM_tap_260 ?_
                    refine fw_iast (X := X) hx hb hK hW hI hA hS (8, 0, 0) mv8 rfl 0 rfl a2.toNatClampNeg (nI_clamp (by omega)) (vp_in_nI (by omega) (by decide)) dM_tap_261 (fun H locs hW hS => ?_)
                    obtain ⟨σ94, e95⟩ : ∃ z : fw_S, z = fw_st σ92 (8, 0, 0) a2.toNatClampNeg ((σ92 (8, 0, 0) a2.toNatClampNeg) + 1) := ⟨_, rfl⟩
                    rw [← e95] at hW
                    try rw [← e95] at he
                    unfold ms_tap_s36 at he
                    refine lv_iload hx hb dM_tap_262 (lv_at hl 2 rfl) ?_
                    exact fw_iret hx hb hr hlocks hK hnb hW hS he dM_tap_264
                  · rw [if_neg c84] at he
                    refine lv_aload_n hx hb dM_tap_179 rfl (lv_at hl 2 rfl) ?_
                    refine lv_dup hx hb dM_tap_180 rfl ?_
                    refine fw_get (X := X) (v := .int (σ82 (0, 0, 0) 12)) hx hb hts hin_M hown hK hW (0, 0, 0) mv0 rfl rfl 12 (by decide) (htb _ m_424 rfl) (fun _ h => h) rfl rfl dM_tap_181 ?_
                    refine lv_iconst (v := 1) hx hb dM_tap_184 (by decide) ?_
                    refine lv_iadd hx hb dM_tap_185 ?_
                    refine fw_put (X := X) hx hb hts hin_M ty_M ty_M_ok nm_M hown hK hW hI hA hS (0, 0, 0) mv0 rfl rfl rfl 12 (by decide) (htb _ m_424 rfl) (fun _ h => h) rfl rfl (ty := .int) (by decide +kernel) rfl rfl dM_tap_186 (fun H locs hW hS => ?_)
                    obtain ⟨σ96, e97⟩ : ∃ z : fw_S, z = fw_st σ82 (0, 0, 0) 12 ((σ82 (0, 0, 0) 12) + 1) := ⟨_, rfl⟩
                    rw [← e97] at hW
                    try rw [← e97] at he
                    unfold ms_tap_s37 at he
                    have hlv : vp_in (σ96 (8, 0, 0) a2.toNatClampNeg) 8 := by rw [e97, fw_st_off (by simp)]; exact hlv
                    refine lv_bipush (v := (-5)) hx hb dM_tap_189 (by decide) ?_
                    exact fw_iret hx hb hr hlocks hK hnb hW hS he dM_tap_191
              · rw [if_neg c53] at he
                refine lv_bipush (v := (-3)) hx hb dM_tap_89 (by decide) ?_
                exact fw_iret hx hb hr hlocks hK hnb hW hS he dM_tap_91
          · rw [if_neg c5] at he
            refine lv_bipush (v := (-4)) hx hb dM_tap_57 (by decide) ?_
            exact fw_iret hx hb hr hlocks hK hnb hW hS he dM_tap_59
        · rw [if_pos c4] at he
          refine lv_bipush (v := (-2)) hx hb dM_tap_41 (by decide) ?_
          exact fw_iret hx hb hr hlocks hK hnb hW hS he dM_tap_43
      · rw [if_pos c3] at he
        refine lv_iconst (v := (-1)) hx hb dM_tap_28 (by decide) ?_
        exact fw_iret hx hb hr hlocks hK hnb hW hS he dM_tap_29
def ms_topUp_s4 (σ11 : fw_S) : Int32 × fw_S :=
  (σ11 (4, 0, 0) 0, σ11)
def ms_topUp_s3 (a1 : Int32) (σ9 : fw_S) : Int32 × fw_S :=
  ms_topUp_s4 (ms_change σ9 a1.toNatClampNeg 8)
def ms_topUp_s2 (a1 : Int32) (a2 : Int32) (σ6 : fw_S) : Int32 × fw_S :=
  ms_topUp_s3 a1 (ms_enterOffice σ6 a1.toNatClampNeg (((ms_counter σ6 a1.toNatClampNeg).toNatClampNeg) + 1) 2 a2 (σ6 (4, 0, 0) 0))
def ms_topUp_s1 (a1 : Int32) (a2 : Int32) (σ3 : fw_S) : Int32 × fw_S :=
  if ((σ3 (4, 0, 0) 0) + a2) ≤ 9999 then ms_topUp_s2 a1 a2 (fw_st σ3 (4, 0, 0) 0 ((σ3 (4, 0, 0) 0) + a2)) else ((-1), σ3)
def ms_topUp (σ : fw_S) (a1 : Int32) (a2 : Int32) : Int32 × fw_S :=
  if (ms_in a1 0 3) = 0 then ((-1), σ) else if (ms_in a2 1 999) = 0 then ((-1), σ) else ms_topUp_s1 a1 a2 (ms_load σ a1.toNatClampNeg)
set_option maxHeartbeats 4000000 in
set_option maxRecDepth 100000 in
theorem cm_topUp (l : Launch) (X : fw_X) (hI : fw_I mV X) (σ : fw_S) (a1 : Int32) (a2 : Int32) (hct : ∀ c, c < 4 → vp_in (ms_counter σ c) 519) : fw_Mi fw_cl msh mV fw_tys l yM_topUp wM_topUp (fw_rm 4) X σ [.ref (X.2.2 (0, 0, 0)), .int a1, .int a2] (ms_topUp σ a1 a2) := by
  obtain ⟨out, he⟩ : ∃ z : Int32 × fw_S, z = ms_topUp σ a1 a2 := ⟨_, rfl⟩
  rw [← he]
  refine fw_Mi_of (cc := bM_topUp) (maxL := 3) (ret := (some .int)) (by decide) rfl (Nat.le_of_ble_eq_true rfl) ?_
  intro p e s m below meth c ls hx hb hr hml hlocks hown hts hK hnb hW hl
  have hS : va_S (fw_A mV X) s.heap s.heap [] := va_S.rf
  have hA : ∀ t, mV t → fw_A mV X (X.2.2 t) := fun t h => ⟨t, h, rfl⟩
  have htb := tb_use hts
  have hl : lv_has ls 3 [(0, .ref (X.2.2 (0, 0, 0))), (1, .int a1), (2, .int a2)] := hl
  have hown : s.vm.findClass "TapOfficeModel" = some m.cls := hown
  unfold ms_topUp at he
  refine lv_iload_n hx hb dM_topUp_0 rfl (lv_at hl 1 rfl) ?_
  refine lv_iconst (v := 0) hx hb dM_topUp_1 (by decide) ?_
  refine lv_iconst (v := 3) hx hb dM_topUp_2 (by decide) ?_
  refine fw_kp (va_runS (As := [.int a1, .int 0, .int 3]) (rest := []) ⟨hx, hb, hml, hown, hts⟩ (cm_in l X hI σ a1 0 3 ) (va_cwS 3 hts (tb_S m_467 m_465 m_466 m_31) rfl rfl rfl (by decide +kernel) ⟨Nat.le_of_ble_eq_true rfl, Nat.le_of_ble_eq_true rfl⟩) (fw_preS (X := X) hK hnb hW [.int a1, .int 0, .int 3]) rfl rfl hl.1 rfl (lv_room (Nat.le_of_ble_eq_true rfl)) dM_topUp_3 ⟨Nat.zero_le _, Nat.zero_le _⟩) hS (fun H locs hW hS => ?_)
  refine lv_if_eq (tgt := 20) hx hb dM_topUp_6 (by decide) (fun c1 => ?_) (fun c1 => ?_)
  · rw [if_pos c1] at he
    refine lv_iconst (v := (-1)) hx hb dM_topUp_20 (by decide) ?_
    exact fw_iret hx hb hr hlocks hK hnb hW hS he dM_topUp_21
  · rw [if_neg c1] at he
    refine lv_iload_n hx hb dM_topUp_9 rfl (lv_at hl 2 rfl) ?_
    refine lv_iconst (v := 1) hx hb dM_topUp_10 (by decide) ?_
    refine lv_sipush (v := 999) hx hb dM_topUp_11 (by decide) ?_
    refine fw_kp (va_runS (As := [.int a2, .int 1, .int 999]) (rest := []) ⟨hx, hb, hml, hown, hts⟩ (cm_in l X hI σ a2 1 999 ) (va_cwS 3 hts (tb_S m_467 m_465 m_466 m_31) rfl rfl rfl (by decide +kernel) ⟨Nat.le_of_ble_eq_true rfl, Nat.le_of_ble_eq_true rfl⟩) (fw_preS (X := X) hK hnb hW [.int a2, .int 1, .int 999]) rfl rfl hl.1 rfl (lv_room (Nat.le_of_ble_eq_true rfl)) dM_topUp_14 ⟨Nat.zero_le _, Nat.zero_le _⟩) hS (fun H locs hW hS => ?_)
    refine lv_if_ne (tgt := 22) hx hb dM_topUp_17 (by decide) (fun c2 => ?_) (fun c2 => ?_)
    · rw [if_neg c2] at he
      refine lv_aload_n hx hb dM_topUp_22 rfl (lv_at hl 0 rfl) ?_
      refine lv_iload_n hx hb dM_topUp_23 rfl (lv_at hl 1 rfl) ?_
      have hv_a1 : vp_in a1 4 := (in_vi ‹¬ ms_in a1 0 3 = 0›)
      have hl_a1 := vi_lt hv_a1
      refine lv_eqi (vi_nI hv_a1) ?_
      refine fw_kv (va_runV (As := [.int (nI a1.toNatClampNeg)]) (rest := []) ⟨hx, hb, hml, hown, hts⟩ (cm_load l X hI σ a1.toNatClampNeg (by omega) ) (cwV 1 hts (tb_V m_487 m_484 m_486 m_9 m_31) rfl rfl rfl (by decide +kernel) ⟨Nat.le_of_ble_eq_true rfl, Nat.le_of_ble_eq_true rfl⟩) (fw_preV (X := X) hK hnb hW (0, 0, 0) mv0 rfl rfl [.int (nI a1.toNatClampNeg)]) rfl rfl hl.1 rfl (lv_room (Nat.le_of_ble_eq_true rfl)) dM_topUp_24 ⟨Nat.zero_le _, Nat.zero_le _⟩) hS (fun H locs hW hS => ?_)
      obtain ⟨σ3, e4⟩ : ∃ z : fw_S, z = ms_load σ a1.toNatClampNeg := ⟨_, rfl⟩
      rw [← e4] at hW
      try rw [← e4] at he
      unfold ms_topUp_s1 at he
      have σ3_ct : ms_counter σ3 a1.toNatClampNeg = ms_counter σ a1.toNatClampNeg := by rw [e4, ct_frame (fr_load _ _ (3, 0, 0) (by simp))]
      refine lv_aload_n hx hb dM_topUp_27 rfl (lv_at hl 0 rfl) ?_
      refine fw_get (X := X) (v := .ref (X.2.2 (4, 0, 0))) hx hb hts hin_M hown hK hW (0, 0, 0) mv0 rfl rfl 4 (by decide) (htb _ m_416 rfl) (fun _ h => h) rfl rfl dM_topUp_28 ?_
      refine lv_iconst (v := 0) hx hb dM_topUp_31 (by decide) ?_
      refine fw_iald (X := X) hx hb hK hW (4, 0, 0) mv4 rfl 0 rfl 0 (by decide) (by unfold vp_in; decide) dM_topUp_32 ?_
      refine lv_iload_n hx hb dM_topUp_33 rfl (lv_at hl 2 rfl) ?_
      refine lv_iadd hx hb dM_topUp_34 ?_
      refine lv_sipush (v := 9999) hx hb dM_topUp_35 (by decide) ?_
      refine lv_icmp_le (tgt := 43) hx hb dM_topUp_38 (by decide) (fun c5 => ?_) (fun c5 => ?_)
      · rw [if_pos c5] at he
        refine lv_aload_n hx hb dM_topUp_43 rfl (lv_at hl 0 rfl) ?_
        refine fw_get (X := X) (v := .ref (X.2.2 (4, 0, 0))) hx hb hts hin_M hown hK hW (0, 0, 0) mv0 rfl rfl 4 (by decide) (htb _ m_416 rfl) (fun _ h => h) rfl rfl dM_topUp_44 ?_
        refine lv_iconst (v := 0) hx hb dM_topUp_47 (by decide) ?_
        refine lv_dup2_11 hx hb dM_topUp_48 rfl rfl ?_
        refine fw_iald (X := X) hx hb hK hW (4, 0, 0) mv4 rfl 0 rfl 0 (by decide) (by unfold vp_in; decide) dM_topUp_49 ?_
        refine lv_iload_n hx hb dM_topUp_50 rfl (lv_at hl 2 rfl) ?_
        refine lv_iadd hx hb dM_topUp_51 ?_
        refine fw_iast (X := X) hx hb hK hW hI hA hS (4, 0, 0) mv4 rfl 0 rfl 0 (by decide) (by unfold vp_in; decide) dM_topUp_52 (fun H locs hW hS => ?_)
        obtain ⟨σ6, e7⟩ : ∃ z : fw_S, z = fw_st σ3 (4, 0, 0) 0 ((σ3 (4, 0, 0) 0) + a2) := ⟨_, rfl⟩
        rw [← e7] at hW
        try rw [← e7] at he
        unfold ms_topUp_s2 at he
        have σ6_ct : ms_counter σ6 a1.toNatClampNeg = ms_counter σ a1.toNatClampNeg := by rw [e7, ct_frame (fw_st_off (by simp))]; exact σ3_ct
        refine lv_aload_n hx hb dM_topUp_53 rfl (lv_at hl 0 rfl) ?_
        refine lv_iload_n hx hb dM_topUp_54 rfl (lv_at hl 1 rfl) ?_
        refine lv_eqi (vi_nI hv_a1) ?_
        refine lv_aload_n hx hb dM_topUp_55 rfl (lv_at hl 0 rfl) ?_
        refine lv_iload_n hx hb dM_topUp_56 rfl (lv_at hl 1 rfl) ?_
        refine lv_eqi (vi_nI hv_a1) ?_
        refine fw_kp (va_runV (As := [.int (nI a1.toNatClampNeg)]) (rest := [.int (nI a1.toNatClampNeg), .ref (X.2.2 (0, 0, 0))]) ⟨hx, hb, hml, hown, hts⟩ (cm_counter l X hI σ6 a1.toNatClampNeg (by omega) ) (cwV 1 hts (tb_V m_519 m_516 m_518 m_17 m_31) rfl rfl rfl (by decide +kernel) ⟨Nat.le_of_ble_eq_true rfl, Nat.le_of_ble_eq_true rfl⟩) (fw_preV (X := X) hK hnb hW (0, 0, 0) mv0 rfl rfl [.int (nI a1.toNatClampNeg)]) rfl rfl hl.1 rfl (lv_room (Nat.le_of_ble_eq_true rfl)) dM_topUp_57 ⟨Nat.zero_le _, Nat.zero_le _⟩) hS (fun H locs hW hS => ?_)
        have hv8 : vp_in (ms_counter σ6 a1.toNatClampNeg) 519 := by rw [σ6_ct]; exact hct _ hl_a1
        have hv8l := vi_lt hv8
        refine lv_eqi (vi_nI hv8) ?_
        refine lv_iconst (v := 1) hx hb dM_topUp_60 (by decide) ?_
        refine lv_iadd hx hb dM_topUp_61 ?_
        refine lv_eqi (nI_add ((ms_counter σ6 a1.toNatClampNeg).toNatClampNeg) 1) ?_
        refine lv_iconst (v := 2) hx hb dM_topUp_62 (by decide) ?_
        refine lv_iload_n hx hb dM_topUp_63 rfl (lv_at hl 2 rfl) ?_
        refine lv_aload_n hx hb dM_topUp_64 rfl (lv_at hl 0 rfl) ?_
        refine fw_get (X := X) (v := .ref (X.2.2 (4, 0, 0))) hx hb hts hin_M hown hK hW (0, 0, 0) mv0 rfl rfl 4 (by decide) (htb _ m_416 rfl) (fun _ h => h) rfl rfl dM_topUp_65 ?_
        refine lv_iconst (v := 0) hx hb dM_topUp_68 (by decide) ?_
        refine fw_iald (X := X) hx hb hK hW (4, 0, 0) mv4 rfl 0 rfl 0 (by decide) (by unfold vp_in; decide) dM_topUp_69 ?_
        refine fw_kv (va_runV (As := [.int (nI a1.toNatClampNeg), .int (nI (((ms_counter σ6 a1.toNatClampNeg).toNatClampNeg) + 1)), .int 2, .int a2, .int (σ6 (4, 0, 0) 0)]) (rest := []) ⟨hx, hb, hml, hown, hts⟩ (cm_enterOffice l X hI σ6 a1.toNatClampNeg (by omega) (((ms_counter σ6 a1.toNatClampNeg).toNatClampNeg) + 1) (by omega) 2 a2 (σ6 (4, 0, 0) 0) ) (cwV 5 hts (tb_V m_531 m_528 m_530 m_19 m_31) rfl rfl rfl (by decide +kernel) ⟨Nat.le_of_ble_eq_true rfl, Nat.le_of_ble_eq_true rfl⟩) (fw_preV (X := X) hK hnb hW (0, 0, 0) mv0 rfl rfl [.int (nI a1.toNatClampNeg), .int (nI (((ms_counter σ6 a1.toNatClampNeg).toNatClampNeg) + 1)), .int 2, .int a2, .int (σ6 (4, 0, 0) 0)]) rfl rfl hl.1 rfl (lv_room (Nat.le_of_ble_eq_true rfl)) dM_topUp_70 ⟨Nat.zero_le _, Nat.zero_le _⟩) hS (fun H locs hW hS => ?_)
        obtain ⟨σ9, e10⟩ : ∃ z : fw_S, z = ms_enterOffice σ6 a1.toNatClampNeg (((ms_counter σ6 a1.toNatClampNeg).toNatClampNeg) + 1) 2 a2 (σ6 (4, 0, 0) 0) := ⟨_, rfl⟩
        rw [← e10] at hW
        try rw [← e10] at he
        unfold ms_topUp_s3 at he
        refine lv_aload_n hx hb dM_topUp_73 rfl (lv_at hl 0 rfl) ?_
        refine lv_iload_n hx hb dM_topUp_74 rfl (lv_at hl 1 rfl) ?_
        refine lv_eqi (vi_nI hv_a1) ?_
        refine lv_bipush (v := 8) hx hb dM_topUp_75 (by decide) ?_
        refine fw_kv (va_runV (As := [.int (nI a1.toNatClampNeg), .int 8]) (rest := []) ⟨hx, hb, hml, hown, hts⟩ (cm_change l X hI σ9 a1.toNatClampNeg (by omega) 8 (by omega) ) (cwV 2 hts (tb_V m_523 m_520 m_522 m_18 m_31) rfl rfl rfl (by decide +kernel) ⟨Nat.le_of_ble_eq_true rfl, Nat.le_of_ble_eq_true rfl⟩) (fw_preV (X := X) hK hnb hW (0, 0, 0) mv0 rfl rfl [.int (nI a1.toNatClampNeg), .int 8]) rfl rfl hl.1 rfl (lv_room (Nat.le_of_ble_eq_true rfl)) dM_topUp_77 ⟨Nat.zero_le _, Nat.zero_le _⟩) hS (fun H locs hW hS => ?_)
        obtain ⟨σ11, e12⟩ : ∃ z : fw_S, z = ms_change σ9 a1.toNatClampNeg 8 := ⟨_, rfl⟩
        rw [← e12] at hW
        try rw [← e12] at he
        unfold ms_topUp_s4 at he
        refine lv_aload_n hx hb dM_topUp_80 rfl (lv_at hl 0 rfl) ?_
        refine fw_get (X := X) (v := .ref (X.2.2 (4, 0, 0))) hx hb hts hin_M hown hK hW (0, 0, 0) mv0 rfl rfl 4 (by decide) (htb _ m_416 rfl) (fun _ h => h) rfl rfl dM_topUp_81 ?_
        refine lv_iconst (v := 0) hx hb dM_topUp_84 (by decide) ?_
        refine fw_iald (X := X) hx hb hK hW (4, 0, 0) mv4 rfl 0 rfl 0 (by decide) (by unfold vp_in; decide) dM_topUp_85 ?_
        exact fw_iret hx hb hr hlocks hK hnb hW hS he dM_topUp_86
      · rw [if_neg c5] at he
        refine lv_iconst (v := (-1)) hx hb dM_topUp_41 (by decide) ?_
        exact fw_iret hx hb hr hlocks hK hnb hW hS he dM_topUp_42
    · rw [if_pos c2] at he
      refine lv_iconst (v := (-1)) hx hb dM_topUp_20 (by decide) ?_
      exact fw_iret hx hb hr hlocks hK hnb hW hS he dM_topUp_21
def ms_upload_s2 (j : Nat) (rec : Nat → fw_S → Int32 × fw_S) (σ8 : fw_S) : Int32 × fw_S :=
  rec (j + 1) σ8
def ms_upload_lq (a1 : Int32) (σ : fw_S) : Nat → Nat → fw_S → Int32 × fw_S
  | 0, _, υ => (0, υ)
  | n + 1, j, υ => if 4 ≤ j then (nI ((σ (8, 0, 0) a1.toNatClampNeg).toNatClampNeg), υ) else ms_upload_s2 j (ms_upload_lq a1 σ n) (fw_st υ (9, 0, 0) ((4 * a1.toNatClampNeg) + j) (υ (10, 0, 0) j))
def ms_upload_s1 (a1 : Int32) (σ : fw_S) (σ5 : fw_S) : Int32 × fw_S :=
  ms_upload_lq a1 σ (4 + 1) 0 σ5
def ms_upload_s4 (j : Nat) (rec : Nat → fw_S → Int32 × fw_S) (σ14 : fw_S) : Int32 × fw_S :=
  rec (j + 1) σ14
def ms_upload_s3 (a1 : Int32) (j : Nat) (rec : Nat → fw_S → Int32 × fw_S) (σ12 : fw_S) : Int32 × fw_S :=
  ms_upload_s4 j rec (fw_st σ12 (11, 0, 0) a1.toNatClampNeg ((σ12 (11, 0, 0) a1.toNatClampNeg) + (σ12 (7, 0, 0) (((32 * a1.toNatClampNeg) + (4 * j)) + 2))))
def ms_upload_lp (a1 : Int32) (σ : fw_S) : Nat → Nat → fw_S → Int32 × fw_S
  | 0, _, τ => (0, τ)
  | n + 1, j, τ => if ((σ (8, 0, 0) a1.toNatClampNeg).toNatClampNeg) ≤ j then ms_upload_s1 a1 σ (fw_st τ (8, 0, 0) a1.toNatClampNeg 0) else ms_upload_s3 a1 j (ms_upload_lp a1 σ n) (ms_enterOffice τ ((τ (7, 0, 0) ((32 * a1.toNatClampNeg) + (4 * j))).toNatClampNeg) ((τ (7, 0, 0) (((32 * a1.toNatClampNeg) + (4 * j)) + 1)).toNatClampNeg) 1 (τ (7, 0, 0) (((32 * a1.toNatClampNeg) + (4 * j)) + 2)) (τ (7, 0, 0) (((32 * a1.toNatClampNeg) + (4 * j)) + 3)))
def ms_upload (σ : fw_S) (a1 : Int32) (a2 : Int32) : Int32 × fw_S :=
  if (ms_in a1 0 3) = 0 then ((-1), σ) else if a2 = 0 then ms_upload_lp a1 σ (8 + 1) 0 σ else (0, σ)
set_option maxHeartbeats 4000000 in
set_option maxRecDepth 100000 in
theorem cm_upload_lq {p : Program} {e : Env} {s : State} {m : MethodId} {below : List Frame} {meth : Method} {c : Code} {args : Array Value} (l : Launch) (X : fw_X) (hI : fw_I mV X) (σ : fw_S) (a1 : Int32) (a2 : Int32) (hlg : ∀ v, v < 4 → vp_in (σ (8, 0, 0) v) 9) (hlo : ∀ v, v < 4 → ∀ j, j < (σ (8, 0, 0) v).toNatClampNeg → vp_in (σ (7, 0, 0) (32 * v + 4 * j)) 4 ∧ vp_in (σ (7, 0, 0) (32 * v + 4 * j + 1)) 520) (hdn : ∀ j, j < 4 → σ (10, 0, 0) j = 0 ∨ σ (10, 0, 0) j = 1) (hv_a1 : vp_in a1 4) (hl_a1 : a1.toNatClampNeg < 4)  (out : Int32 × fw_S)
    (hx : p.tables.exec = Jvm.exec) (hb : c.code = bM_upload) (hr : meth.sig.returnType = (some .int)) (hml : c.maxLocals = 6) (hlocks : meth.locks = false) (hown : s.vm.findClass "TapOfficeModel" = some m.cls) (hts : ∀ w ∈ wM_upload, w.before args s = true) (hK : va_K X.1 fw_cl (fw_tys X.2.1) s) (hnb : va_Nw fw_nb s) :
    ∀ (n : Nat) (j : Nat), j ≤ 4 → 4 + 1 ≤ j + n → ∀ (υ : fw_S), (∀ j, j < 4 → υ (10, 0, 0) j = 0 ∨ υ (10, 0, 0) j = 1) → ∀ (H : Heap) (locs : List Loc), fw_W fw_cl msh mV X υ H → va_S (fw_A mV X) s.heap H locs → ∀ (ls : Array Slot), lv_has ls 6 [(0, .ref (X.2.2 (0, 0, 0))), (1, .int a1), (2, .int a2), (3, .int (nI ((σ (8, 0, 0) a1.toNatClampNeg).toNatClampNeg))), (4, .int (nI j))] → out = ms_upload_lq a1 σ n j υ → W p l e (fw_rm 2) s m args below meth c H locs 0 0 (MQ below (va_Qi (fun r u => (r, u) = out) (fun u t => fw_O fw_cl msh mV fw_tys X u t) (fw_A mV X)) args s 0 0 (fw_A mV X)) (F0 m 117 ls []) := by
  have hA : ∀ t, mV t → fw_A mV X (X.2.2 t) := fun t h => ⟨t, h, rfl⟩
  have htb := tb_use hts
  intro n
  induction n with
  | zero =>
    intro j h1 h2
    exact absurd h2 (by omega)
  | succ n ih =>
    intro j hj1 hj2 υ hd H locs hW hS ls hl he
    rw [ms_upload_lq] at he
    refine lv_iload hx hb dM_upload_117 (lv_at hl 4 rfl) ?_
    refine lv_iconst (v := 4) hx hb dM_upload_119 (by decide) ?_
    refine lv_icmp_ge (tgt := 147) hx hb dM_upload_120 (by decide) (fun c7 => ?_) (fun c7 => ?_)
    · replace c7 := (nI_leI (a := 4) (b := j) (by omega) (by omega)).mp c7
      rw [if_pos c7] at he
      refine lv_iload_n hx hb dM_upload_147 rfl (lv_at hl 3 rfl) ?_
      exact fw_iret hx hb hr hlocks hK hnb hW hS he dM_upload_148
    · replace c7 := mt (nI_leI (a := 4) (b := j) (by omega) (by omega)).mpr c7
      rw [if_neg c7] at he
      refine lv_aload_n hx hb dM_upload_123 rfl (lv_at hl 0 rfl) ?_
      refine fw_get (X := X) (v := .ref (X.2.2 (9, 0, 0))) hx hb hts hin_M hown hK hW (0, 0, 0) mv0 rfl rfl 9 (by decide) (htb _ m_421 rfl) (fun _ h => h) rfl rfl dM_upload_124 ?_
      refine lv_iconst (v := 4) hx hb dM_upload_127 (by decide) ?_
      refine lv_iload_n hx hb dM_upload_128 rfl (lv_at hl 1 rfl) ?_
      refine lv_eqi (vi_nI hv_a1) ?_
      refine lv_imul hx hb dM_upload_129 ?_
      refine lv_eqi (pk_mul 4 a1.toNatClampNeg) ?_
      refine lv_iload hx hb dM_upload_130 (lv_at hl 4 rfl) ?_
      refine lv_iadd hx hb dM_upload_132 ?_
      refine lv_eqi (nI_add (4 * a1.toNatClampNeg) j) ?_
      refine lv_aload_n hx hb dM_upload_133 rfl (lv_at hl 0 rfl) ?_
      refine fw_get (X := X) (v := .ref (X.2.2 (10, 0, 0))) hx hb hts hin_M hown hK hW (0, 0, 0) mv0 rfl rfl 10 (by decide) (htb _ m_422 rfl) (fun _ h => h) rfl rfl dM_upload_134 ?_
      refine lv_iload hx hb dM_upload_137 (lv_at hl 4 rfl) ?_
      refine fw_zald (X := X) hx hb hK hW (10, 0, 0) mv10 rfl 5 rfl j (nI_clamp (by omega)) (vp_in_nI (by omega) (by decide)) dM_upload_139 ?_
      refine fw_zast (X := X) hx hb hK hW hI hA hS (9, 0, 0) mv9 rfl 5 rfl (bo_n (hd j (by omega))) ((4 * a1.toNatClampNeg) + j) (nI_clamp (by omega)) (vp_in_nI (by omega) (by decide)) dM_upload_140 (fun H locs hW hS => ?_)
      obtain ⟨σ8, e9⟩ : ∃ z : fw_S, z = fw_st υ (9, 0, 0) ((4 * a1.toNatClampNeg) + j) (υ (10, 0, 0) j) := ⟨_, rfl⟩
      rw [← e9] at hW
      try rw [← e9] at he
      unfold ms_upload_s2 at he
      try have σ8_log : σ8 (7, 0, 0) = σ (7, 0, 0) ∧ σ8 (10, 0, 0) = σ (10, 0, 0) := by rw [e9, fw_st_off (by simp), fw_st_off (by simp)]; first | exact υ_log | exact hlog
      try have σ8_hd : ∀ j, j < 4 → σ8 (10, 0, 0) j = 0 ∨ σ8 (10, 0, 0) j = 1 := by rw [e9, fw_st_off (by simp)]; exact hd
      refine lv_iinc (v := nI (j + 1)) (lv' := [(4, .int (nI (j + 1))), (0, .ref (X.2.2 (0, 0, 0))), (1, .int a1), (2, .int a2), (3, .int (nI ((σ (8, 0, 0) a1.toNatClampNeg).toNatClampNeg)))]) hx hb dM_upload_141 hl (k := 4) rfl (by exact nI_1 j) (by decide) rfl (fun ls hl => ?_)
      refine lv_goto (tgt := 117) hx hb dM_upload_144 (by decide) ?_
      exact ih (j + 1) (by omega) (by omega) σ8 σ8_hd _ _ hW hS ls (lv_sub hl [1, 2, 3, 4, 0] rfl) he
set_option maxHeartbeats 4000000 in
set_option maxRecDepth 100000 in
theorem cm_upload_lp {p : Program} {e : Env} {s : State} {m : MethodId} {below : List Frame} {meth : Method} {c : Code} {args : Array Value} (l : Launch) (X : fw_X) (hI : fw_I mV X) (σ : fw_S) (a1 : Int32) (a2 : Int32) (hlg : ∀ v, v < 4 → vp_in (σ (8, 0, 0) v) 9) (hlo : ∀ v, v < 4 → ∀ j, j < (σ (8, 0, 0) v).toNatClampNeg → vp_in (σ (7, 0, 0) (32 * v + 4 * j)) 4 ∧ vp_in (σ (7, 0, 0) (32 * v + 4 * j + 1)) 520) (hdn : ∀ j, j < 4 → σ (10, 0, 0) j = 0 ∨ σ (10, 0, 0) j = 1) (hv_a1 : vp_in a1 4) (hl_a1 : a1.toNatClampNeg < 4)  (out : Int32 × fw_S)
    (hx : p.tables.exec = Jvm.exec) (hb : c.code = bM_upload) (hr : meth.sig.returnType = (some .int)) (hml : c.maxLocals = 6) (hlocks : meth.locks = false) (hown : s.vm.findClass "TapOfficeModel" = some m.cls) (hts : ∀ w ∈ wM_upload, w.before args s = true) (hK : va_K X.1 fw_cl (fw_tys X.2.1) s) (hnb : va_Nw fw_nb s) :
    ∀ (n : Nat) (j : Nat), j ≤ 8 → 8 + 1 ≤ j + n → ∀ (τ : fw_S), τ (7, 0, 0) = σ (7, 0, 0) ∧ τ (10, 0, 0) = σ (10, 0, 0) → ∀ (H : Heap) (locs : List Loc), fw_W fw_cl msh mV X τ H → va_S (fw_A mV X) s.heap H locs → ∀ (ls : Array Slot), lv_has ls 6 [(0, .ref (X.2.2 (0, 0, 0))), (1, .int a1), (2, .int a2), (3, .int (nI ((σ (8, 0, 0) a1.toNatClampNeg).toNatClampNeg))), (4, .int (nI j))] → out = ms_upload_lp a1 σ n j τ → W p l e (fw_rm 2) s m args below meth c H locs 0 0 (MQ below (va_Qi (fun r u => (r, u) = out) (fun u t => fw_O fw_cl msh mV fw_tys X u t) (fw_A mV X)) args s 0 0 (fw_A mV X)) (F0 m 27 ls []) := by
  have hA : ∀ t, mV t → fw_A mV X (X.2.2 t) := fun t h => ⟨t, h, rfl⟩
  have htb := tb_use hts
  have hv3l := vi_lt (hlg _ hl_a1)
  intro n
  induction n with
  | zero =>
    intro j h1 h2
    exact absurd h2 (by omega)
  | succ n ih =>
    intro j hj1 hj2 τ hlog H locs hW hS ls hl he
    rw [ms_upload_lp] at he
    refine lv_iload hx hb dM_upload_27 (lv_at hl 4 rfl) ?_
    refine lv_iload_n hx hb dM_upload_29 rfl (lv_at hl 3 rfl) ?_
    refine lv_icmp_ge (tgt := 107) hx hb dM_upload_30 (by decide) (fun c4 => ?_) (fun c4 => ?_)
    · replace c4 := (nI_leI (a := ((σ (8, 0, 0) a1.toNatClampNeg).toNatClampNeg)) (b := j) (by omega) (by omega)).mp c4
      rw [if_pos c4] at he
      refine lv_aload_n hx hb dM_upload_107 rfl (lv_at hl 0 rfl) ?_
      refine fw_get (X := X) (v := .ref (X.2.2 (8, 0, 0))) hx hb hts hin_M hown hK hW (0, 0, 0) mv0 rfl rfl 8 (by decide) (htb _ m_420 rfl) (fun _ h => h) rfl rfl dM_upload_108 ?_
      refine lv_iload_n hx hb dM_upload_111 rfl (lv_at hl 1 rfl) ?_
      refine lv_eqi (vi_nI hv_a1) ?_
      refine lv_iconst (v := 0) hx hb dM_upload_112 (by decide) ?_
      refine fw_iast (X := X) hx hb hK hW hI hA hS (8, 0, 0) mv8 rfl 0 rfl a1.toNatClampNeg (nI_clamp (by omega)) (vp_in_nI (by omega) (by decide)) dM_upload_113 (fun H locs hW hS => ?_)
      obtain ⟨σ5, e6⟩ : ∃ z : fw_S, z = fw_st τ (8, 0, 0) a1.toNatClampNeg 0 := ⟨_, rfl⟩
      rw [← e6] at hW
      try rw [← e6] at he
      unfold ms_upload_s1 at he
      try have σ5_log : σ5 (7, 0, 0) = σ (7, 0, 0) ∧ σ5 (10, 0, 0) = σ (10, 0, 0) := by rw [e6, fw_st_off (by simp), fw_st_off (by simp)]; first | exact τ_log | exact hlog
      try have σ5_hd : ∀ j, j < 4 → σ5 (10, 0, 0) j = 0 ∨ σ5 (10, 0, 0) j = 1 := by rw [e6, fw_st_off (by simp)]; exact hd
      refine lv_iconst (v := 0) hx hb dM_upload_114 (by decide) ?_
      refine lv_istore (lv' := [(4, .int 0), (0, .ref (X.2.2 (0, 0, 0))), (1, .int a1), (2, .int a2), (3, .int (nI ((σ (8, 0, 0) a1.toNatClampNeg).toNatClampNeg)))]) hx hb dM_upload_115 hl (by decide) rfl (fun ls hl => ?_)
      exact cm_upload_lq l X hI σ a1 a2 hlg hlo hdn hv_a1 hl_a1  out hx hb hr hml hlocks hown hts hK hnb (4 + 1) 0  (by omega) (by omega) σ5 (fun j hj => by rw [σ5_log.2]; exact hdn j hj) _ _ hW hS ls (lv_sub hl [1, 2, 3, 4, 0] rfl) he
    · replace c4 := mt (nI_leI (a := ((σ (8, 0, 0) a1.toNatClampNeg).toNatClampNeg)) (b := j) (by omega) (by omega)).mpr c4
      rw [if_neg c4] at he
      refine lv_bipush (v := 32) hx hb dM_upload_33 (by decide) ?_
      refine lv_iload_n hx hb dM_upload_35 rfl (lv_at hl 1 rfl) ?_
      refine lv_eqi (vi_nI hv_a1) ?_
      refine lv_imul hx hb dM_upload_36 ?_
      refine lv_eqi (pk_mul 32 a1.toNatClampNeg) ?_
      refine lv_iconst (v := 4) hx hb dM_upload_37 (by decide) ?_
      refine lv_iload hx hb dM_upload_38 (lv_at hl 4 rfl) ?_
      refine lv_imul hx hb dM_upload_40 ?_
      refine lv_eqi (pk_mul 4 j) ?_
      refine lv_iadd hx hb dM_upload_41 ?_
      refine lv_eqi (nI_add (32 * a1.toNatClampNeg) (4 * j)) ?_
      refine lv_istore (lv' := [(5, .int (nI ((32 * a1.toNatClampNeg) + (4 * j)))), (0, .ref (X.2.2 (0, 0, 0))), (1, .int a1), (2, .int a2), (3, .int (nI ((σ (8, 0, 0) a1.toNatClampNeg).toNatClampNeg))), (4, .int (nI j))]) hx hb dM_upload_42 hl (by decide) rfl (fun ls hl => ?_)
      refine lv_aload_n hx hb dM_upload_44 rfl (lv_at hl 1 rfl) ?_
      refine lv_aload_n hx hb dM_upload_45 rfl (lv_at hl 1 rfl) ?_
      refine fw_get (X := X) (v := .ref (X.2.2 (7, 0, 0))) hx hb hts hin_M hown hK hW (0, 0, 0) mv0 rfl rfl 7 (by decide) (htb _ m_419 rfl) (fun _ h => h) rfl rfl dM_upload_46 ?_
      refine lv_iload hx hb dM_upload_49 (lv_at hl 0 rfl) ?_
      refine fw_iald (X := X) hx hb hK hW (7, 0, 0) mv7 rfl 0 rfl ((32 * a1.toNatClampNeg) + (4 * j)) (nI_clamp (by omega)) (vp_in_nI (by omega) (by decide)) dM_upload_51 ?_
      have hv10 : vp_in (τ (7, 0, 0) ((32 * a1.toNatClampNeg) + (4 * j))) 4 := by rw [hlog.1]; exact (hlo _ hl_a1 j (by omega)).1
      have hv10l := vi_lt hv10
      refine lv_eqi (vi_nI hv10) ?_
      refine lv_aload_n hx hb dM_upload_52 rfl (lv_at hl 1 rfl) ?_
      refine fw_get (X := X) (v := .ref (X.2.2 (7, 0, 0))) hx hb hts hin_M hown hK hW (0, 0, 0) mv0 rfl rfl 7 (by decide) (htb _ m_419 rfl) (fun _ h => h) rfl rfl dM_upload_53 ?_
      refine lv_iload hx hb dM_upload_56 (lv_at hl 0 rfl) ?_
      refine lv_iconst (v := 1) hx hb dM_upload_58 (by decide) ?_
      refine lv_iadd hx hb dM_upload_59 ?_
      refine lv_eqi (nI_add ((32 * a1.toNatClampNeg) + (4 * j)) 1) ?_
      refine fw_iald (X := X) hx hb hK hW (7, 0, 0) mv7 rfl 0 rfl (((32 * a1.toNatClampNeg) + (4 * j)) + 1) (nI_clamp (by omega)) (vp_in_nI (by omega) (by decide)) dM_upload_60 ?_
      have hv11 : vp_in (τ (7, 0, 0) (((32 * a1.toNatClampNeg) + (4 * j)) + 1)) 520 := by rw [hlog.1]; exact (hlo _ hl_a1 j (by omega)).2
      have hv11l := vi_lt hv11
      refine lv_eqi (vi_nI hv11) ?_
      refine lv_iconst (v := 1) hx hb dM_upload_61 (by decide) ?_
      refine lv_aload_n hx hb dM_upload_62 rfl (lv_at hl 1 rfl) ?_
      refine fw_get (X := X) (v := .ref (X.2.2 (7, 0, 0))) hx hb hts hin_M hown hK hW (0, 0, 0) mv0 rfl rfl 7 (by decide) (htb _ m_419 rfl) (fun _ h => h) rfl rfl dM_upload_63 ?_
      refine lv_iload hx hb dM_upload_66 (lv_at hl 0 rfl) ?_
      refine lv_iconst (v := 2) hx hb dM_upload_68 (by decide) ?_
      refine lv_iadd hx hb dM_upload_69 ?_
      refine lv_eqi (nI_add ((32 * a1.toNatClampNeg) + (4 * j)) 2) ?_
      refine fw_iald (X := X) hx hb hK hW (7, 0, 0) mv7 rfl 0 rfl (((32 * a1.toNatClampNeg) + (4 * j)) + 2) (nI_clamp (by omega)) (vp_in_nI (by omega) (by decide)) dM_upload_70 ?_
      refine lv_aload_n hx hb dM_upload_71 rfl (lv_at hl 1 rfl) ?_
      refine fw_get (X := X) (v := .ref (X.2.2 (7, 0, 0))) hx hb hts hin_M hown hK hW (0, 0, 0) mv0 rfl rfl 7 (by decide) (htb _ m_419 rfl) (fun _ h => h) rfl rfl dM_upload_72 ?_
      refine lv_iload hx hb dM_upload_75 (lv_at hl 0 rfl) ?_
      refine lv_iconst (v := 3) hx hb dM_upload_77 (by decide) ?_
      refine lv_iadd hx hb dM_upload_78 ?_
      refine lv_eqi (nI_add ((32 * a1.toNatClampNeg) + (4 * j)) 3) ?_
      refine fw_iald (X := X) hx hb hK hW (7, 0, 0) mv7 rfl 0 rfl (((32 * a1.toNatClampNeg) + (4 * j)) + 3) (nI_clamp (by omega)) (vp_in_nI (by omega) (by decide)) dM_upload_79 ?_
      refine fw_kv (va_runV (As := [.int (nI ((τ (7, 0, 0) ((32 * a1.toNatClampNeg) + (4 * j))).toNatClampNeg)), .int (nI ((τ (7, 0, 0) (((32 * a1.toNatClampNeg) + (4 * j)) + 1)).toNatClampNeg)), .int 1, .int (τ (7, 0, 0) (((32 * a1.toNatClampNeg) + (4 * j)) + 2)), .int (τ (7, 0, 0) (((32 * a1.toNatClampNeg) + (4 * j)) + 3))]) (rest := []) ⟨hx, hb, hml, hown, hts⟩ (cm_enterOffice l X hI τ ((τ (7, 0, 0) ((32 * a1.toNatClampNeg) + (4 * j))).toNatClampNeg) (by omega) ((τ (7, 0, 0) (((32 * a1.toNatClampNeg) + (4 * j)) + 1)).toNatClampNeg) (by omega) 1 (τ (7, 0, 0) (((32 * a1.toNatClampNeg) + (4 * j)) + 2)) (τ (7, 0, 0) (((32 * a1.toNatClampNeg) + (4 * j)) + 3)) ) (cwV 5 hts (tb_V m_531 m_528 m_530 m_19 m_31) rfl rfl rfl (by decide +kernel) ⟨Nat.le_of_ble_eq_true rfl, Nat.le_of_ble_eq_true rfl⟩) (fw_preV (X := X) hK hnb hW (0, 0, 0) mv0 rfl rfl [.int (nI ((τ (7, 0, 0) ((32 * a1.toNatClampNeg) + (4 * j))).toNatClampNeg)), .int (nI ((τ (7, 0, 0) (((32 * a1.toNatClampNeg) + (4 * j)) + 1)).toNatClampNeg)), .int 1, .int (τ (7, 0, 0) (((32 * a1.toNatClampNeg) + (4 * j)) + 2)), .int (τ (7, 0, 0) (((32 * a1.toNatClampNeg) + (4 * j)) + 3))]) rfl rfl hl.1 rfl (lv_room (Nat.le_of_ble_eq_true rfl)) dM_upload_80 ⟨Nat.zero_le _, Nat.zero_le _⟩) hS (fun H locs hW hS => ?_)
      obtain ⟨σ12, e13⟩ : ∃ z : fw_S, z = ms_enterOffice τ ((τ (7, 0, 0) ((32 * a1.toNatClampNeg) + (4 * j))).toNatClampNeg) ((τ (7, 0, 0) (((32 * a1.toNatClampNeg) + (4 * j)) + 1)).toNatClampNeg) 1 (τ (7, 0, 0) (((32 * a1.toNatClampNeg) + (4 * j)) + 2)) (τ (7, 0, 0) (((32 * a1.toNatClampNeg) + (4 * j)) + 3)) := ⟨_, rfl⟩
      rw [← e13] at hW
      try rw [← e13] at he
      unfold ms_upload_s3 at he
      have σ12_log : σ12 (7, 0, 0) = σ (7, 0, 0) ∧ σ12 (10, 0, 0) = σ (10, 0, 0) := by rw [e13, fr_enterOffice _ _ _ _ _ _ (7, 0, 0) (by simp) (by simp) (by simp), fr_enterOffice _ _ _ _ _ _ (10, 0, 0) (by simp) (by simp) (by simp)]; exact hlog
      refine lv_aload_n hx hb dM_upload_83 rfl (lv_at hl 1 rfl) ?_
      refine fw_get (X := X) (v := .ref (X.2.2 (11, 0, 0))) hx hb hts hin_M hown hK hW (0, 0, 0) mv0 rfl rfl 11 (by decide) (htb _ m_423 rfl) (fun _ h => h) rfl rfl dM_upload_84 ?_
      refine lv_iload_n hx hb dM_upload_87 rfl (lv_at hl 2 rfl) ?_
      refine lv_eqi (vi_nI hv_a1) ?_
      refine lv_dup2_11 hx hb dM_upload_88 rfl rfl ?_
      refine fw_iald (X := X) hx hb hK hW (11, 0, 0) mv11 rfl 0 rfl a1.toNatClampNeg (nI_clamp (by omega)) (vp_in_nI (by omega) (by decide)) dM_upload_89 ?_
      refine lv_aload_n hx hb dM_upload_90 rfl (lv_at hl 1 rfl) ?_
      refine fw_get (X := X) (v := .ref (X.2.2 (7, 0, 0))) hx hb hts hin_M hown hK hW (0, 0, 0) mv0 rfl rfl 7 (by decide) (htb _ m_419 rfl) (fun _ h => h) rfl rfl dM_upload_91 ?_
      refine lv_iload hx hb dM_upload_94 (lv_at hl 0 rfl) ?_
      refine lv_iconst (v := 2) hx hb dM_upload_96 (by decide) ?_
      refine lv_iadd hx hb dM_upload_97 ?_
      refine lv_eqi (nI_add ((32 * a1.toNatClampNeg) + (4 * j)) 2) ?_
      refine fw_iald (X := X) hx hb hK hW (7, 0, 0) mv7 rfl 0 rfl (((32 * a1.toNatClampNeg) + (4 * j)) + 2) (nI_clamp (by omega)) (vp_in_nI (by omega) (by decide)) dM_upload_98 ?_
      refine lv_iadd hx hb dM_upload_99 ?_
      refine fw_iast (X := X) hx hb hK hW hI hA hS (11, 0, 0) mv11 rfl 0 rfl a1.toNatClampNeg (nI_clamp (by omega)) (vp_in_nI (by omega) (by decide)) dM_upload_100 (fun H locs hW hS => ?_)
      obtain ⟨σ14, e15⟩ : ∃ z : fw_S, z = fw_st σ12 (11, 0, 0) a1.toNatClampNeg ((σ12 (11, 0, 0) a1.toNatClampNeg) + (σ12 (7, 0, 0) (((32 * a1.toNatClampNeg) + (4 * j)) + 2))) := ⟨_, rfl⟩
      rw [← e15] at hW
      try rw [← e15] at he
      unfold ms_upload_s4 at he
      try have σ14_log : σ14 (7, 0, 0) = σ (7, 0, 0) ∧ σ14 (10, 0, 0) = σ (10, 0, 0) := by rw [e15, fw_st_off (by simp), fw_st_off (by simp)]; first | exact σ12_log | exact hlog
      try have σ14_hd : ∀ j, j < 4 → σ14 (10, 0, 0) j = 0 ∨ σ14 (10, 0, 0) j = 1 := by rw [e15, fw_st_off (by simp)]; exact hd
      refine lv_iinc (v := nI (j + 1)) (lv' := [(4, .int (nI (j + 1))), (5, .int (nI ((32 * a1.toNatClampNeg) + (4 * j)))), (0, .ref (X.2.2 (0, 0, 0))), (1, .int a1), (2, .int a2), (3, .int (nI ((σ (8, 0, 0) a1.toNatClampNeg).toNatClampNeg)))]) hx hb dM_upload_101 hl (k := 5) rfl (by exact nI_1 j) (by decide) rfl (fun ls hl => ?_)
      refine lv_goto (tgt := 27) hx hb dM_upload_104 (by decide) ?_
      exact ih (j + 1) (by omega) (by omega) σ14 σ14_log _ _ hW hS ls (lv_sub hl [2, 3, 4, 5, 0] rfl) he
set_option maxHeartbeats 4000000 in
set_option maxRecDepth 100000 in
theorem cm_upload (l : Launch) (X : fw_X) (hI : fw_I mV X) (σ : fw_S) (a1 : Int32) (a2 : Int32) (hlg : ∀ v, v < 4 → vp_in (σ (8, 0, 0) v) 9) (hlo : ∀ v, v < 4 → ∀ j, j < (σ (8, 0, 0) v).toNatClampNeg → vp_in (σ (7, 0, 0) (32 * v + 4 * j)) 4 ∧ vp_in (σ (7, 0, 0) (32 * v + 4 * j + 1)) 520) (hdn : ∀ j, j < 4 → σ (10, 0, 0) j = 0 ∨ σ (10, 0, 0) j = 1) : fw_Mi fw_cl msh mV fw_tys l yM_upload wM_upload (fw_rm 2) X σ [.ref (X.2.2 (0, 0, 0)), .int a1, .int a2] (ms_upload σ a1 a2) := by
  obtain ⟨out, he⟩ : ∃ z : Int32 × fw_S, z = ms_upload σ a1 a2 := ⟨_, rfl⟩
  rw [← he]
  refine fw_Mi_of (cc := bM_upload) (maxL := 6) (ret := (some .int)) (by decide) rfl (Nat.le_of_ble_eq_true rfl) ?_
  intro p e s m below meth c ls hx hb hr hml hlocks hown hts hK hnb hW hl
  have hS : va_S (fw_A mV X) s.heap s.heap [] := va_S.rf
  have hA : ∀ t, mV t → fw_A mV X (X.2.2 t) := fun t h => ⟨t, h, rfl⟩
  have htb := tb_use hts
  have hl : lv_has ls 6 [(0, .ref (X.2.2 (0, 0, 0))), (1, .int a1), (2, .int a2)] := hl
  have hown : s.vm.findClass "TapOfficeModel" = some m.cls := hown
  unfold ms_upload at he
  refine lv_iload_n hx hb dM_upload_0 rfl (lv_at hl 1 rfl) ?_
  refine lv_iconst (v := 0) hx hb dM_upload_1 (by decide) ?_
  refine lv_iconst (v := 3) hx hb dM_upload_2 (by decide) ?_
  refine fw_kp (va_runS (As := [.int a1, .int 0, .int 3]) (rest := []) ⟨hx, hb, hml, hown, hts⟩ (cm_in l X hI σ a1 0 3 ) (va_cwS 3 hts (tb_S m_467 m_465 m_466 m_31) rfl rfl rfl (by decide +kernel) ⟨Nat.le_of_ble_eq_true rfl, Nat.le_of_ble_eq_true rfl⟩) (fw_preS (X := X) hK hnb hW [.int a1, .int 0, .int 3]) rfl rfl hl.1 rfl (lv_room (Nat.le_of_ble_eq_true rfl)) dM_upload_3 ⟨Nat.zero_le _, Nat.zero_le _⟩) hS (fun H locs hW hS => ?_)
  refine lv_if_ne (tgt := 11) hx hb dM_upload_6 (by decide) (fun c1 => ?_) (fun c1 => ?_)
  · rw [if_neg c1] at he
    refine lv_iload_n hx hb dM_upload_11 rfl (lv_at hl 2 rfl) ?_
    refine lv_if_eq (tgt := 17) hx hb dM_upload_12 (by decide) (fun c2 => ?_) (fun c2 => ?_)
    · rw [if_pos c2] at he
      refine lv_aload_n hx hb dM_upload_17 rfl (lv_at hl 0 rfl) ?_
      refine fw_get (X := X) (v := .ref (X.2.2 (8, 0, 0))) hx hb hts hin_M hown hK hW (0, 0, 0) mv0 rfl rfl 8 (by decide) (htb _ m_420 rfl) (fun _ h => h) rfl rfl dM_upload_18 ?_
      refine lv_iload_n hx hb dM_upload_21 rfl (lv_at hl 1 rfl) ?_
      have hv_a1 : vp_in a1 4 := (in_vi ‹¬ ms_in a1 0 3 = 0›)
      have hl_a1 := vi_lt hv_a1
      refine lv_eqi (vi_nI hv_a1) ?_
      refine fw_iald (X := X) hx hb hK hW (8, 0, 0) mv8 rfl 0 rfl a1.toNatClampNeg (nI_clamp (by omega)) (vp_in_nI (by omega) (by decide)) dM_upload_22 ?_
      have hv3 : vp_in (σ (8, 0, 0) a1.toNatClampNeg) 9 := hlg _ hl_a1
      have hv3l := vi_lt hv3
      refine lv_eqi (vi_nI hv3) ?_
      refine lv_istore_n (lv' := [(3, .int (nI ((σ (8, 0, 0) a1.toNatClampNeg).toNatClampNeg))), (0, .ref (X.2.2 (0, 0, 0))), (1, .int a1), (2, .int a2)]) hx hb dM_upload_23 rfl hl (by decide) rfl (fun ls hl => ?_)
      refine lv_iconst (v := 0) hx hb dM_upload_24 (by decide) ?_
      refine lv_istore (lv' := [(4, .int 0), (3, .int (nI ((σ (8, 0, 0) a1.toNatClampNeg).toNatClampNeg))), (0, .ref (X.2.2 (0, 0, 0))), (1, .int a1), (2, .int a2)]) hx hb dM_upload_25 hl (by decide) rfl (fun ls hl => ?_)
      exact cm_upload_lp l X hI σ a1 a2 hlg hlo hdn hv_a1 hl_a1  out hx hb hr hml hlocks hown hts hK hnb (8 + 1) 0  (by omega) (by omega) σ ⟨rfl, rfl⟩ _ _ hW hS ls (lv_sub hl [2, 3, 4, 1, 0] rfl) he
    · rw [if_neg c2] at he
      refine lv_iconst (v := 0) hx hb dM_upload_15 (by decide) ?_
      exact fw_iret hx hb hr hlocks hK hnb hW hS he dM_upload_16
  · rw [if_pos c1] at he
    refine lv_iconst (v := (-1)) hx hb dM_upload_9 (by decide) ?_
    exact fw_iret hx hb hr hlocks hK hnb hW hS he dM_upload_10

theorem vi_nI {x : Int32} {n : Nat} (h : vp_in x n) : x = nI x.toNatClampNeg := by
  have h0 : ¬ x < 0 := fun q => h (Or.inl q)
  obtain ⟨j, hj, rfl⟩ := nI_of h0
  rw [nI_clamp hj]
def ms_in (a1 : Int32) (a2 : Int32) (a3 : Int32) : Int32 :=
  if a1 < a2 then 0 else if a3 < a1 then 0 else 1
set_option maxHeartbeats 4000000 in
set_option maxRecDepth 100000 in
theorem cm_in (l : Launch) (X : fw_X) (hI : fw_I mV X) (σ : fw_S) (a1 : Int32) (a2 : Int32) (a3 : Int32)  : fw_Mi fw_cl msh mV fw_tys l yM_in wM_in (fw_rm 0) X σ [.int a1, .int a2, .int a3] ((ms_in a1 a2 a3, σ)) := by
  obtain ⟨out, he⟩ : ∃ z : Int32, z = ms_in a1 a2 a3 := ⟨_, rfl⟩
  rw [← he]
  refine fw_Mi_of (cc := bM_in) (maxL := 3) (ret := (some .boolean)) (by decide) rfl (Nat.le_of_ble_eq_true rfl) ?_
  intro p e s m below meth c ls hx hb hr hml hlocks hown hts hK hnb hW hl
  have hS : va_S (fw_A mV X) s.heap s.heap [] := va_S.rf
  have hA : ∀ t, mV t → fw_A mV X (X.2.2 t) := fun t h => ⟨t, h, rfl⟩
  have htb := tb_use hts
  have hl : lv_has ls 3 [(0, .int a1), (1, .int a2), (2, .int a3)] := hl
  have hown : s.vm.findClass "TapOfficeModel" = some m.cls := hown
  unfold ms_in at he
  refine lv_iload_n hx hb dM_in_0 rfl (lv_at hl 0 rfl) ?_
  refine lv_iload_n hx hb dM_in_1 rfl (lv_at hl 1 rfl) ?_
  refine lv_icmp_lt (tgt := 14) hx hb dM_in_2 (by decide) (fun c1 => ?_) (fun c1 => ?_)
  · rw [if_pos c1] at he
    refine lv_iconst (v := 0) hx hb dM_in_14 (by decide) ?_
    exact fw_zret hx hb hr hlocks hK hnb hW hS (by decide) (by rw [he]) dM_in_15
  · rw [if_neg c1] at he
    refine lv_iload_n hx hb dM_in_5 rfl (lv_at hl 0 rfl) ?_
    refine lv_iload_n hx hb dM_in_6 rfl (lv_at hl 2 rfl) ?_
    refine lv_icmp_gt (tgt := 14) hx hb dM_in_7 (by decide) (fun c2 => ?_) (fun c2 => ?_)
    · rw [if_pos c2] at he
      refine lv_iconst (v := 0) hx hb dM_in_14 (by decide) ?_
      exact fw_zret hx hb hr hlocks hK hnb hW hS (by decide) (by rw [he]) dM_in_15
    · rw [if_neg c2] at he
      refine lv_iconst (v := 1) hx hb dM_in_10 (by decide) ?_
      refine lv_goto (tgt := 15) hx hb dM_in_11 (by decide) ?_
      exact fw_zret hx hb hr hlocks hK hnb hW hS (by decide) (by rw [he]) dM_in_15
theorem in_vi {x hi : Int32} {n : Nat} (h : ¬ ms_in x 0 hi = 0) (hh : hi.toInt + 1 = n := by decide) : vp_in x n := by
  unfold ms_in at h
  by_cases h1 : x < 0
  · rw [if_pos h1] at h
    exact absurd rfl h
  · rw [if_neg h1] at h
    by_cases h2 : hi < x
    · rw [if_pos h2] at h
      exact absurd rfl h
    · refine vi_of ?_ ?_
      · have := Int32.le_iff_toInt_le.mp (Int32.not_lt.mp h1)
        simpa using this
      · have := Int32.le_iff_toInt_le.mp (Int32.not_lt.mp h2)
        omega
def ms_fare_s2 (σ6 : fw_S) : Int32 × fw_S :=
  (0, σ6)
def ms_fare_s1 (a1 : Int32) (a2 : Int32) (a3 : Int32) (σ4 : fw_S) : Int32 × fw_S :=
  ms_fare_s2 (fw_st σ4 (1, 0, 0) ((6 * a2.toNatClampNeg) + a1.toNatClampNeg) a3)
def ms_fare (σ : fw_S) (a1 : Int32) (a2 : Int32) (a3 : Int32) : Int32 × fw_S :=
  if (ms_in a1 0 5) = 0 then ((-1), σ) else if (ms_in a2 0 5) = 0 then ((-1), σ) else if (ms_in a3 0 999) = 0 then ((-1), σ) else ms_fare_s1 a1 a2 a3 (fw_st σ (1, 0, 0) ((6 * a1.toNatClampNeg) + a2.toNatClampNeg) a3)
set_option maxHeartbeats 4000000 in
set_option maxRecDepth 100000 in
theorem cm_fare (l : Launch) (X : fw_X) (hI : fw_I mV X) (σ : fw_S) (a1 : Int32) (a2 : Int32) (a3 : Int32)  : fw_Mi fw_cl msh mV fw_tys l yM_fare wM_fare (fw_rm 1) X σ [.ref (X.2.2 (0, 0, 0)), .int a1, .int a2, .int a3] (ms_fare σ a1 a2 a3) := by
  obtain ⟨out, he⟩ : ∃ z : Int32 × fw_S, z = ms_fare σ a1 a2 a3 := ⟨_, rfl⟩
  rw [← he]
  refine fw_Mi_of (cc := bM_fare) (maxL := 4) (ret := (some .int)) (by decide) rfl (Nat.le_of_ble_eq_true rfl) ?_
  intro p e s m below meth c ls hx hb hr hml hlocks hown hts hK hnb hW hl
  have hS : va_S (fw_A mV X) s.heap s.heap [] := va_S.rf
  have hA : ∀ t, mV t → fw_A mV X (X.2.2 t) := fun t h => ⟨t, h, rfl⟩
  have htb := tb_use hts
  have hl : lv_has ls 4 [(0, .ref (X.2.2 (0, 0, 0))), (1, .int a1), (2, .int a2), (3, .int a3)] := hl
  have hown : s.vm.findClass "TapOfficeModel" = some m.cls := hown
  unfold ms_fare at he
  refine lv_iload_n hx hb dM_fare_0 rfl (lv_at hl 1 rfl) ?_
  refine lv_iconst (v := 0) hx hb dM_fare_1 (by decide) ?_
  refine lv_iconst (v := 5) hx hb dM_fare_2 (by decide) ?_
  refine fw_kp (va_runS (As := [.int a1, .int 0, .int 5]) (rest := []) ⟨hx, hb, hml, hown, hts⟩ (cm_in l X hI σ a1 0 5 ) (va_cwS 3 hts (tb_S m_467 m_465 m_466 m_31) rfl rfl rfl (by decide +kernel) ⟨Nat.le_of_ble_eq_true rfl, Nat.le_of_ble_eq_true rfl⟩) (fw_preS (X := X) hK hnb hW [.int a1, .int 0, .int 5]) rfl rfl hl.1 rfl (lv_room (Nat.le_of_ble_eq_true rfl)) dM_fare_3 ⟨Nat.zero_le _, Nat.zero_le _⟩) hS (fun H locs hW hS => ?_)
  refine lv_if_eq (tgt := 29) hx hb dM_fare_6 (by decide) (fun c1 => ?_) (fun c1 => ?_)
  · rw [if_pos c1] at he
    refine lv_iconst (v := (-1)) hx hb dM_fare_29 (by decide) ?_
    exact fw_iret hx hb hr hlocks hK hnb hW hS he dM_fare_30
  · rw [if_neg c1] at he
    refine lv_iload_n hx hb dM_fare_9 rfl (lv_at hl 2 rfl) ?_
    refine lv_iconst (v := 0) hx hb dM_fare_10 (by decide) ?_
    refine lv_iconst (v := 5) hx hb dM_fare_11 (by decide) ?_
    refine fw_kp (va_runS (As := [.int a2, .int 0, .int 5]) (rest := []) ⟨hx, hb, hml, hown, hts⟩ (cm_in l X hI σ a2 0 5 ) (va_cwS 3 hts (tb_S m_467 m_465 m_466 m_31) rfl rfl rfl (by decide +kernel) ⟨Nat.le_of_ble_eq_true rfl, Nat.le_of_ble_eq_true rfl⟩) (fw_preS (X := X) hK hnb hW [.int a2, .int 0, .int 5]) rfl rfl hl.1 rfl (lv_room (Nat.le_of_ble_eq_true rfl)) dM_fare_12 ⟨Nat.zero_le _, Nat.zero_le _⟩) hS (fun H locs hW hS => ?_)
    refine lv_if_eq (tgt := 29) hx hb dM_fare_15 (by decide) (fun c2 => ?_) (fun c2 => ?_)
    · rw [if_pos c2] at he
      refine lv_iconst (v := (-1)) hx hb dM_fare_29 (by decide) ?_
      exact fw_iret hx hb hr hlocks hK hnb hW hS he dM_fare_30
    · rw [if_neg c2] at he
      refine lv_iload_n hx hb dM_fare_18 rfl (lv_at hl 3 rfl) ?_
      refine lv_iconst (v := 0) hx hb dM_fare_19 (by decide) ?_
      refine lv_sipush (v := 999) hx hb dM_fare_20 (by decide) ?_
      refine fw_kp (va_runS (As := [.int a3, .int 0, .int 999]) (rest := []) ⟨hx, hb, hml, hown, hts⟩ (cm_in l X hI σ a3 0 999 ) (va_cwS 3 hts (tb_S m_467 m_465 m_466 m_31) rfl rfl rfl (by decide +kernel) ⟨Nat.le_of_ble_eq_true rfl, Nat.le_of_ble_eq_true rfl⟩) (fw_preS (X := X) hK hnb hW [.int a3, .int 0, .int 999]) rfl rfl hl.1 rfl (lv_room (Nat.le_of_ble_eq_true rfl)) dM_fare_23 ⟨Nat.zero_le _, Nat.zero_le _⟩) hS (fun H locs hW hS => ?_)
      refine lv_if_ne (tgt := 31) hx hb dM_fare_26 (by decide) (fun c3 => ?_) (fun c3 => ?_)
      · rw [if_neg c3] at he
        refine lv_aload_n hx hb dM_fare_31 rfl (lv_at hl 0 rfl) ?_
        refine fw_get (X := X) (v := .ref (X.2.2 (1, 0, 0))) hx hb hts hin_M hown hK hW (0, 0, 0) mv0 rfl rfl 0 (by decide) (htb _ m_412 rfl) (fun _ h => h) rfl rfl dM_fare_32 ?_
        refine lv_bipush (v := 6) hx hb dM_fare_35 (by decide) ?_
        refine lv_iload_n hx hb dM_fare_37 rfl (lv_at hl 1 rfl) ?_
        have hv_a1 : vp_in a1 6 := (in_vi ‹¬ ms_in a1 0 5 = 0›)
        have hl_a1 := vi_lt hv_a1
        refine lv_eqi (vi_nI hv_a1) ?_
        refine lv_imul hx hb dM_fare_38 ?_
        refine lv_eqi (pk_mul 6 a1.toNatClampNeg) ?_
        refine lv_iload_n hx hb dM_fare_39 rfl (lv_at hl 2 rfl) ?_
        have hv_a2 : vp_in a2 6 := (in_vi ‹¬ ms_in a2 0 5 = 0›)
        have hl_a2 := vi_lt hv_a2
        refine lv_eqi (vi_nI hv_a2) ?_
        refine lv_iadd hx hb dM_fare_40 ?_
        refine lv_eqi (nI_add (6 * a1.toNatClampNeg) a2.toNatClampNeg) ?_
        refine lv_iload_n hx hb dM_fare_41 rfl (lv_at hl 3 rfl) ?_
        refine fw_iast (X := X) hx hb hK hW hI hA hS (1, 0, 0) mv1 rfl 0 rfl ((6 * a1.toNatClampNeg) + a2.toNatClampNeg) (nI_clamp (by omega)) (vp_in_nI (by omega) (by decide)) dM_fare_42 (fun H locs hW hS => ?_)
        obtain ⟨σ4, e5⟩ : ∃ z : fw_S, z = fw_st σ (1, 0, 0) ((6 * a1.toNatClampNeg) + a2.toNatClampNeg) a3 := ⟨_, rfl⟩
        rw [← e5] at hW
        try rw [← e5] at he
        unfold ms_fare_s1 at he
        refine lv_aload_n hx hb dM_fare_43 rfl (lv_at hl 0 rfl) ?_
        refine fw_get (X := X) (v := .ref (X.2.2 (1, 0, 0))) hx hb hts hin_M hown hK hW (0, 0, 0) mv0 rfl rfl 0 (by decide) (htb _ m_412 rfl) (fun _ h => h) rfl rfl dM_fare_44 ?_
        refine lv_bipush (v := 6) hx hb dM_fare_47 (by decide) ?_
        refine lv_iload_n hx hb dM_fare_49 rfl (lv_at hl 2 rfl) ?_
        refine lv_eqi (vi_nI hv_a2) ?_
        refine lv_imul hx hb dM_fare_50 ?_
        refine lv_eqi (pk_mul 6 a2.toNatClampNeg) ?_
        refine lv_iload_n hx hb dM_fare_51 rfl (lv_at hl 1 rfl) ?_
        refine lv_eqi (vi_nI hv_a1) ?_
        refine lv_iadd hx hb dM_fare_52 ?_
        refine lv_eqi (nI_add (6 * a2.toNatClampNeg) a1.toNatClampNeg) ?_
        refine lv_iload_n hx hb dM_fare_53 rfl (lv_at hl 3 rfl) ?_
        refine fw_iast (X := X) hx hb hK hW hI hA hS (1, 0, 0) mv1 rfl 0 rfl ((6 * a2.toNatClampNeg) + a1.toNatClampNeg) (nI_clamp (by omega)) (vp_in_nI (by omega) (by decide)) dM_fare_54 (fun H locs hW hS => ?_)
        obtain ⟨σ6, e7⟩ : ∃ z : fw_S, z = fw_st σ4 (1, 0, 0) ((6 * a2.toNatClampNeg) + a1.toNatClampNeg) a3 := ⟨_, rfl⟩
        rw [← e7] at hW
        try rw [← e7] at he
        unfold ms_fare_s2 at he
        refine lv_iconst (v := 0) hx hb dM_fare_55 (by decide) ?_
        exact fw_iret hx hb hr hlocks hK hnb hW hS he dM_fare_56
      · rw [if_pos c3] at he
        refine lv_iconst (v := (-1)) hx hb dM_fare_29 (by decide) ?_
        exact fw_iret hx hb hr hlocks hK hnb hW hS he dM_fare_30

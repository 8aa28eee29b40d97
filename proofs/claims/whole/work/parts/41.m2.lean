def ms_set_s3 (σ12 : fw_S) : Int32 × fw_S :=
  (0, σ12)
def ms_set_s2 (σ9 : fw_S) : Int32 × fw_S :=
  (0, σ9)
def ms_set_s1 (σ6 : fw_S) : Int32 × fw_S :=
  (0, σ6)
def ms_set_s4 (σ15 : fw_S) : Int32 × fw_S :=
  (0, σ15)
def ms_set (σ : fw_S) (a1 : Int32) (a2 : Int32) : Int32 × fw_S :=
  if (ms_in a1 0 4) = 0 then ((-1), σ) else if 2 ≤ a1 then if a1 = 2 then if (ms_in a2 0 200) = 0 then ((-1), σ) else ms_set_s3 (fw_st σ (2, 0, 0) a1.toNatClampNeg a2) else if a1 = 3 then if (ms_in a2 0 9999) = 0 then ((-1), σ) else ms_set_s2 (fw_st σ (2, 0, 0) a1.toNatClampNeg a2) else if (ms_in a2 0 999) = 0 then ((-1), σ) else ms_set_s1 (fw_st σ (2, 0, 0) a1.toNatClampNeg a2) else if (ms_in a2 0 1440) = 0 then ((-1), σ) else ms_set_s4 (fw_st σ (2, 0, 0) a1.toNatClampNeg a2)
set_option maxHeartbeats 4000000 in
set_option maxRecDepth 100000 in
theorem cm_set (l : Launch) (X : fw_X) (hI : fw_I mV X) (σ : fw_S) (a1 : Int32) (a2 : Int32)  : fw_Mi fw_cl msh mV fw_tys l yM_set wM_set (fw_rm 1) X σ [.ref (X.2.2 (0, 0, 0)), .int a1, .int a2] (ms_set σ a1 a2) := by
  obtain ⟨out, he⟩ : ∃ z : Int32 × fw_S, z = ms_set σ a1 a2 := ⟨_, rfl⟩
  rw [← he]
  refine fw_Mi_of (cc := bM_set) (maxL := 4) (ret := (some .int)) (by decide) rfl (Nat.le_of_ble_eq_true rfl) ?_
  intro p e s m below meth c ls hx hb hr hml hlocks hown hts hK hnb hW hl
  have hS : va_S (fw_A mV X) s.heap s.heap [] := va_S.rf
  have hA : ∀ t, mV t → fw_A mV X (X.2.2 t) := fun t h => ⟨t, h, rfl⟩
  have htb := tb_use hts
  have hl : lv_has ls 4 [(0, .ref (X.2.2 (0, 0, 0))), (1, .int a1), (2, .int a2)] := hl
  have hown : s.vm.findClass "TapOfficeModel" = some m.cls := hown
  unfold ms_set at he
  refine lv_iload_n hx hb dM_set_0 rfl (lv_at hl 1 rfl) ?_
  refine lv_iconst (v := 0) hx hb dM_set_1 (by decide) ?_
  refine lv_iconst (v := 4) hx hb dM_set_2 (by decide) ?_
  refine fw_kp (va_runS (As := [.int a1, .int 0, .int 4]) (rest := []) ⟨hx, hb, hml, hown, hts⟩ (cm_in l X hI σ a1 0 4 ) (va_cwS 3 hts (tb_S m_467 m_465 m_466 m_31) rfl rfl rfl (by decide +kernel) ⟨Nat.le_of_ble_eq_true rfl, Nat.le_of_ble_eq_true rfl⟩) (fw_preS (X := X) hK hnb hW [.int a1, .int 0, .int 4]) rfl rfl hl.1 rfl (lv_room (Nat.le_of_ble_eq_true rfl)) dM_set_3 ⟨Nat.zero_le _, Nat.zero_le _⟩) hS (fun H locs hW hS => ?_)
  refine lv_if_ne (tgt := 11) hx hb dM_set_6 (by decide) (fun c1 => ?_) (fun c1 => ?_)
  · rw [if_neg c1] at he
    refine lv_iload_n hx hb dM_set_11 rfl (lv_at hl 1 rfl) ?_
    refine lv_iconst (v := 2) hx hb dM_set_12 (by decide) ?_
    refine lv_icmp_ge (tgt := 22) hx hb dM_set_13 (by decide) (fun c2 => ?_) (fun c2 => ?_)
    · rw [if_pos c2] at he
      refine lv_iload_n hx hb dM_set_22 rfl (lv_at hl 1 rfl) ?_
      refine lv_iconst (v := 2) hx hb dM_set_23 (by decide) ?_
      refine lv_icmp_ne (tgt := 33) hx hb dM_set_24 (by decide) (fun c3 => ?_) (fun c3 => ?_)
      · rw [if_neg c3] at he
        refine lv_iload_n hx hb dM_set_33 rfl (lv_at hl 1 rfl) ?_
        refine lv_iconst (v := 3) hx hb dM_set_34 (by decide) ?_
        refine lv_icmp_ne (tgt := 44) hx hb dM_set_35 (by decide) (fun c4 => ?_) (fun c4 => ?_)
        · rw [if_neg c4] at he
          refine lv_sipush (v := 999) hx hb dM_set_44 (by decide) ?_
          refine lv_istore_n (lv' := [(3, .int 999), (0, .ref (X.2.2 (0, 0, 0))), (1, .int a1), (2, .int a2)]) hx hb dM_set_47 rfl hl (by decide) rfl (fun ls hl => ?_)
          refine lv_iload_n hx hb dM_set_48 rfl (lv_at hl 3 rfl) ?_
          refine lv_iconst (v := 0) hx hb dM_set_49 (by decide) ?_
          refine lv_iload_n hx hb dM_set_50 rfl (lv_at hl 0 rfl) ?_
          refine fw_kp (va_runS (As := [.int a2, .int 0, .int 999]) (rest := []) ⟨hx, hb, hml, hown, hts⟩ (cm_in l X hI σ a2 0 999 ) (va_cwS 3 hts (tb_S m_467 m_465 m_466 m_31) rfl rfl rfl (by decide +kernel) ⟨Nat.le_of_ble_eq_true rfl, Nat.le_of_ble_eq_true rfl⟩) (fw_preS (X := X) hK hnb hW [.int a2, .int 0, .int 999]) rfl rfl hl.1 rfl (lv_room (Nat.le_of_ble_eq_true rfl)) dM_set_51 ⟨Nat.zero_le _, Nat.zero_le _⟩) hS (fun H locs hW hS => ?_)
          refine lv_if_ne (tgt := 59) hx hb dM_set_54 (by decide) (fun c5 => ?_) (fun c5 => ?_)
          · rw [if_neg c5] at he
            refine lv_aload_n hx hb dM_set_59 rfl (lv_at hl 1 rfl) ?_
            refine fw_get (X := X) (v := .ref (X.2.2 (2, 0, 0))) hx hb hts hin_M hown hK hW (0, 0, 0) mv0 rfl rfl 1 (by decide) (htb _ m_413 rfl) (fun _ h => h) rfl rfl dM_set_60 ?_
            refine lv_iload_n hx hb dM_set_63 rfl (lv_at hl 2 rfl) ?_
            have hv_a1 : vp_in a1 5 := (in_vi ‹¬ ms_in a1 0 4 = 0›)
            have hl_a1 := vi_lt hv_a1
            refine lv_eqi (vi_nI hv_a1) ?_
            refine lv_iload_n hx hb dM_set_64 rfl (lv_at hl 3 rfl) ?_
            refine fw_iast (X := X) hx hb hK hW hI hA hS (2, 0, 0) mv2 rfl 0 rfl a1.toNatClampNeg (nI_clamp (by omega)) (vp_in_nI (by omega) (by decide)) dM_set_65 (fun H locs hW hS => ?_)
            obtain ⟨σ6, e7⟩ : ∃ z : fw_S, z = fw_st σ (2, 0, 0) a1.toNatClampNeg a2 := ⟨_, rfl⟩
            rw [← e7] at hW
            try rw [← e7] at he
            unfold ms_set_s1 at he
            refine lv_iconst (v := 0) hx hb dM_set_66 (by decide) ?_
            exact fw_iret hx hb hr hlocks hK hnb hW hS he dM_set_67
          · rw [if_pos c5] at he
            refine lv_iconst (v := (-1)) hx hb dM_set_57 (by decide) ?_
            exact fw_iret hx hb hr hlocks hK hnb hW hS he dM_set_58
        · rw [if_pos c4] at he
          refine lv_sipush (v := 9999) hx hb dM_set_38 (by decide) ?_
          refine lv_goto (tgt := 47) hx hb dM_set_41 (by decide) ?_
          refine lv_istore_n (lv' := [(3, .int 9999), (0, .ref (X.2.2 (0, 0, 0))), (1, .int a1), (2, .int a2)]) hx hb dM_set_47 rfl hl (by decide) rfl (fun ls hl => ?_)
          refine lv_iload_n hx hb dM_set_48 rfl (lv_at hl 3 rfl) ?_
          refine lv_iconst (v := 0) hx hb dM_set_49 (by decide) ?_
          refine lv_iload_n hx hb dM_set_50 rfl (lv_at hl 0 rfl) ?_
          refine fw_kp (va_runS (As := [.int a2, .int 0, .int 9999]) (rest := []) ⟨hx, hb, hml, hown, hts⟩ (cm_in l X hI σ a2 0 9999 ) (va_cwS 3 hts (tb_S m_467 m_465 m_466 m_31) rfl rfl rfl (by decide +kernel) ⟨Nat.le_of_ble_eq_true rfl, Nat.le_of_ble_eq_true rfl⟩) (fw_preS (X := X) hK hnb hW [.int a2, .int 0, .int 9999]) rfl rfl hl.1 rfl (lv_room (Nat.le_of_ble_eq_true rfl)) dM_set_51 ⟨Nat.zero_le _, Nat.zero_le _⟩) hS (fun H locs hW hS => ?_)
          refine lv_if_ne (tgt := 59) hx hb dM_set_54 (by decide) (fun c8 => ?_) (fun c8 => ?_)
          · rw [if_neg c8] at he
            refine lv_aload_n hx hb dM_set_59 rfl (lv_at hl 1 rfl) ?_
            refine fw_get (X := X) (v := .ref (X.2.2 (2, 0, 0))) hx hb hts hin_M hown hK hW (0, 0, 0) mv0 rfl rfl 1 (by decide) (htb _ m_413 rfl) (fun _ h => h) rfl rfl dM_set_60 ?_
            refine lv_iload_n hx hb dM_set_63 rfl (lv_at hl 2 rfl) ?_
            have hv_a1 : vp_in a1 5 := (in_vi ‹¬ ms_in a1 0 4 = 0›)
            have hl_a1 := vi_lt hv_a1
            refine lv_eqi (vi_nI hv_a1) ?_
            refine lv_iload_n hx hb dM_set_64 rfl (lv_at hl 3 rfl) ?_
            refine fw_iast (X := X) hx hb hK hW hI hA hS (2, 0, 0) mv2 rfl 0 rfl a1.toNatClampNeg (nI_clamp (by omega)) (vp_in_nI (by omega) (by decide)) dM_set_65 (fun H locs hW hS => ?_)
            obtain ⟨σ9, e10⟩ : ∃ z : fw_S, z = fw_st σ (2, 0, 0) a1.toNatClampNeg a2 := ⟨_, rfl⟩
            rw [← e10] at hW
            try rw [← e10] at he
            unfold ms_set_s2 at he
            refine lv_iconst (v := 0) hx hb dM_set_66 (by decide) ?_
            exact fw_iret hx hb hr hlocks hK hnb hW hS he dM_set_67
          · rw [if_pos c8] at he
            refine lv_iconst (v := (-1)) hx hb dM_set_57 (by decide) ?_
            exact fw_iret hx hb hr hlocks hK hnb hW hS he dM_set_58
      · rw [if_pos c3] at he
        refine lv_sipush (v := 200) hx hb dM_set_27 (by decide) ?_
        refine lv_goto (tgt := 47) hx hb dM_set_30 (by decide) ?_
        refine lv_istore_n (lv' := [(3, .int 200), (0, .ref (X.2.2 (0, 0, 0))), (1, .int a1), (2, .int a2)]) hx hb dM_set_47 rfl hl (by decide) rfl (fun ls hl => ?_)
        refine lv_iload_n hx hb dM_set_48 rfl (lv_at hl 3 rfl) ?_
        refine lv_iconst (v := 0) hx hb dM_set_49 (by decide) ?_
        refine lv_iload_n hx hb dM_set_50 rfl (lv_at hl 0 rfl) ?_
        refine fw_kp (va_runS (As := [.int a2, .int 0, .int 200]) (rest := []) ⟨hx, hb, hml, hown, hts⟩ (cm_in l X hI σ a2 0 200 ) (va_cwS 3 hts (tb_S m_467 m_465 m_466 m_31) rfl rfl rfl (by decide +kernel) ⟨Nat.le_of_ble_eq_true rfl, Nat.le_of_ble_eq_true rfl⟩) (fw_preS (X := X) hK hnb hW [.int a2, .int 0, .int 200]) rfl rfl hl.1 rfl (lv_room (Nat.le_of_ble_eq_true rfl)) dM_set_51 ⟨Nat.zero_le _, Nat.zero_le _⟩) hS (fun H locs hW hS => ?_)
        refine lv_if_ne (tgt := 59) hx hb dM_set_54 (by decide) (fun c11 => ?_) (fun c11 => ?_)
        · rw [if_neg c11] at he
          refine lv_aload_n hx hb dM_set_59 rfl (lv_at hl 1 rfl) ?_
          refine fw_get (X := X) (v := .ref (X.2.2 (2, 0, 0))) hx hb hts hin_M hown hK hW (0, 0, 0) mv0 rfl rfl 1 (by decide) (htb _ m_413 rfl) (fun _ h => h) rfl rfl dM_set_60 ?_
          refine lv_iload_n hx hb dM_set_63 rfl (lv_at hl 2 rfl) ?_
          have hv_a1 : vp_in a1 5 := (in_vi ‹¬ ms_in a1 0 4 = 0›)
          have hl_a1 := vi_lt hv_a1
          refine lv_eqi (vi_nI hv_a1) ?_
          refine lv_iload_n hx hb dM_set_64 rfl (lv_at hl 3 rfl) ?_
          refine fw_iast (X := X) hx hb hK hW hI hA hS (2, 0, 0) mv2 rfl 0 rfl a1.toNatClampNeg (nI_clamp (by omega)) (vp_in_nI (by omega) (by decide)) dM_set_65 (fun H locs hW hS => ?_)
          obtain ⟨σ12, e13⟩ : ∃ z : fw_S, z = fw_st σ (2, 0, 0) a1.toNatClampNeg a2 := ⟨_, rfl⟩
          rw [← e13] at hW
          try rw [← e13] at he
          unfold ms_set_s3 at he
          refine lv_iconst (v := 0) hx hb dM_set_66 (by decide) ?_
          exact fw_iret hx hb hr hlocks hK hnb hW hS he dM_set_67
        · rw [if_pos c11] at he
          refine lv_iconst (v := (-1)) hx hb dM_set_57 (by decide) ?_
          exact fw_iret hx hb hr hlocks hK hnb hW hS he dM_set_58
    · rw [if_neg c2] at he
      refine lv_sipush (v := 1440) hx hb dM_set_16 (by decide) ?_
      refine lv_goto (tgt := 47) hx hb dM_set_19 (by decide) ?_
      refine lv_istore_n (lv' := [(3, .int 1440), (0, .ref (X.2.2 (0, 0, 0))), (1, .int a1), (2, .int a2)]) hx hb dM_set_47 rfl hl (by decide) rfl (fun ls hl => ?_)
      refine lv_iload_n hx hb dM_set_48 rfl (lv_at hl 3 rfl) ?_
      refine lv_iconst (v := 0) hx hb dM_set_49 (by decide) ?_
      refine lv_iload_n hx hb dM_set_50 rfl (lv_at hl 0 rfl) ?_
      refine fw_kp (va_runS (As := [.int a2, .int 0, .int 1440]) (rest := []) ⟨hx, hb, hml, hown, hts⟩ (cm_in l X hI σ a2 0 1440 ) (va_cwS 3 hts (tb_S m_467 m_465 m_466 m_31) rfl rfl rfl (by decide +kernel) ⟨Nat.le_of_ble_eq_true rfl, Nat.le_of_ble_eq_true rfl⟩) (fw_preS (X := X) hK hnb hW [.int a2, .int 0, .int 1440]) rfl rfl hl.1 rfl (lv_room (Nat.le_of_ble_eq_true rfl)) dM_set_51 ⟨Nat.zero_le _, Nat.zero_le _⟩) hS (fun H locs hW hS => ?_)
      refine lv_if_ne (tgt := 59) hx hb dM_set_54 (by decide) (fun c14 => ?_) (fun c14 => ?_)
      · rw [if_neg c14] at he
        refine lv_aload_n hx hb dM_set_59 rfl (lv_at hl 1 rfl) ?_
        refine fw_get (X := X) (v := .ref (X.2.2 (2, 0, 0))) hx hb hts hin_M hown hK hW (0, 0, 0) mv0 rfl rfl 1 (by decide) (htb _ m_413 rfl) (fun _ h => h) rfl rfl dM_set_60 ?_
        refine lv_iload_n hx hb dM_set_63 rfl (lv_at hl 2 rfl) ?_
        have hv_a1 : vp_in a1 5 := (in_vi ‹¬ ms_in a1 0 4 = 0›)
        have hl_a1 := vi_lt hv_a1
        refine lv_eqi (vi_nI hv_a1) ?_
        refine lv_iload_n hx hb dM_set_64 rfl (lv_at hl 3 rfl) ?_
        refine fw_iast (X := X) hx hb hK hW hI hA hS (2, 0, 0) mv2 rfl 0 rfl a1.toNatClampNeg (nI_clamp (by omega)) (vp_in_nI (by omega) (by decide)) dM_set_65 (fun H locs hW hS => ?_)
        obtain ⟨σ15, e16⟩ : ∃ z : fw_S, z = fw_st σ (2, 0, 0) a1.toNatClampNeg a2 := ⟨_, rfl⟩
        rw [← e16] at hW
        try rw [← e16] at he
        unfold ms_set_s4 at he
        refine lv_iconst (v := 0) hx hb dM_set_66 (by decide) ?_
        exact fw_iret hx hb hr hlocks hK hnb hW hS he dM_set_67
      · rw [if_pos c14] at he
        refine lv_iconst (v := (-1)) hx hb dM_set_57 (by decide) ?_
        exact fw_iret hx hb hr hlocks hK hnb hW hS he dM_set_58
  · rw [if_pos c1] at he
    refine lv_iconst (v := (-1)) hx hb dM_set_9 (by decide) ?_
    exact fw_iret hx hb hr hlocks hK hnb hW hS he dM_set_10
def ms_place_s2 (σ5 : fw_S) : Int32 × fw_S :=
  (0, σ5)
def ms_place_s1 (a1 : Int32) (a3 : Int32) (σ3 : fw_S) : Int32 × fw_S :=
  ms_place_s2 (fw_st σ3 (6, 0, 0) a1.toNatClampNeg a3)
def ms_place (σ : fw_S) (a1 : Int32) (a2 : Int32) (a3 : Int32) : Int32 × fw_S :=
  if (ms_in a1 0 3) = 0 then ((-1), σ) else if (ms_in a2 0 5) = 0 then ((-1), σ) else ms_place_s1 a1 a3 (fw_st σ (5, 0, 0) a1.toNatClampNeg a2)
set_option maxHeartbeats 4000000 in
set_option maxRecDepth 100000 in
theorem cm_place (l : Launch) (X : fw_X) (hI : fw_I mV X) (σ : fw_S) (a1 : Int32) (a2 : Int32) (a3 : Int32) (hz : a3 = 0 ∨ a3 = 1) : fw_Mi fw_cl msh mV fw_tys l yM_place wM_place (fw_rm 1) X σ [.ref (X.2.2 (0, 0, 0)), .int a1, .int a2, .int a3] (ms_place σ a1 a2 a3) := by
  obtain ⟨out, he⟩ : ∃ z : Int32 × fw_S, z = ms_place σ a1 a2 a3 := ⟨_, rfl⟩
  rw [← he]
  refine fw_Mi_of (cc := bM_place) (maxL := 4) (ret := (some .int)) (by decide) rfl (Nat.le_of_ble_eq_true rfl) ?_
  intro p e s m below meth c ls hx hb hr hml hlocks hown hts hK hnb hW hl
  have hS : va_S (fw_A mV X) s.heap s.heap [] := va_S.rf
  have hA : ∀ t, mV t → fw_A mV X (X.2.2 t) := fun t h => ⟨t, h, rfl⟩
  have htb := tb_use hts
  have hl : lv_has ls 4 [(0, .ref (X.2.2 (0, 0, 0))), (1, .int a1), (2, .int a2), (3, .int a3)] := hl
  have hown : s.vm.findClass "TapOfficeModel" = some m.cls := hown
  unfold ms_place at he
  refine lv_iload_n hx hb dM_place_0 rfl (lv_at hl 1 rfl) ?_
  refine lv_iconst (v := 0) hx hb dM_place_1 (by decide) ?_
  refine lv_iconst (v := 3) hx hb dM_place_2 (by decide) ?_
  refine fw_kp (va_runS (As := [.int a1, .int 0, .int 3]) (rest := []) ⟨hx, hb, hml, hown, hts⟩ (cm_in l X hI σ a1 0 3 ) (va_cwS 3 hts (tb_S m_467 m_465 m_466 m_31) rfl rfl rfl (by decide +kernel) ⟨Nat.le_of_ble_eq_true rfl, Nat.le_of_ble_eq_true rfl⟩) (fw_preS (X := X) hK hnb hW [.int a1, .int 0, .int 3]) rfl rfl hl.1 rfl (lv_room (Nat.le_of_ble_eq_true rfl)) dM_place_3 ⟨Nat.zero_le _, Nat.zero_le _⟩) hS (fun H locs hW hS => ?_)
  refine lv_if_eq (tgt := 18) hx hb dM_place_6 (by decide) (fun c1 => ?_) (fun c1 => ?_)
  · rw [if_pos c1] at he
    refine lv_iconst (v := (-1)) hx hb dM_place_18 (by decide) ?_
    exact fw_iret hx hb hr hlocks hK hnb hW hS he dM_place_19
  · rw [if_neg c1] at he
    refine lv_iload_n hx hb dM_place_9 rfl (lv_at hl 2 rfl) ?_
    refine lv_iconst (v := 0) hx hb dM_place_10 (by decide) ?_
    refine lv_iconst (v := 5) hx hb dM_place_11 (by decide) ?_
    refine fw_kp (va_runS (As := [.int a2, .int 0, .int 5]) (rest := []) ⟨hx, hb, hml, hown, hts⟩ (cm_in l X hI σ a2 0 5 ) (va_cwS 3 hts (tb_S m_467 m_465 m_466 m_31) rfl rfl rfl (by decide +kernel) ⟨Nat.le_of_ble_eq_true rfl, Nat.le_of_ble_eq_true rfl⟩) (fw_preS (X := X) hK hnb hW [.int a2, .int 0, .int 5]) rfl rfl hl.1 rfl (lv_room (Nat.le_of_ble_eq_true rfl)) dM_place_12 ⟨Nat.zero_le _, Nat.zero_le _⟩) hS (fun H locs hW hS => ?_)
    refine lv_if_ne (tgt := 20) hx hb dM_place_15 (by decide) (fun c2 => ?_) (fun c2 => ?_)
    · rw [if_neg c2] at he
      refine lv_aload_n hx hb dM_place_20 rfl (lv_at hl 0 rfl) ?_
      refine fw_get (X := X) (v := .ref (X.2.2 (5, 0, 0))) hx hb hts hin_M hown hK hW (0, 0, 0) mv0 rfl rfl 5 (by decide) (htb _ m_417 rfl) (fun _ h => h) rfl rfl dM_place_21 ?_
      refine lv_iload_n hx hb dM_place_24 rfl (lv_at hl 1 rfl) ?_
      have hv_a1 : vp_in a1 4 := (in_vi ‹¬ ms_in a1 0 3 = 0›)
      have hl_a1 := vi_lt hv_a1
      refine lv_eqi (vi_nI hv_a1) ?_
      refine lv_iload_n hx hb dM_place_25 rfl (lv_at hl 2 rfl) ?_
      refine fw_iast (X := X) hx hb hK hW hI hA hS (5, 0, 0) mv5 rfl 0 rfl a1.toNatClampNeg (nI_clamp (by omega)) (vp_in_nI (by omega) (by decide)) dM_place_26 (fun H locs hW hS => ?_)
      obtain ⟨σ3, e4⟩ : ∃ z : fw_S, z = fw_st σ (5, 0, 0) a1.toNatClampNeg a2 := ⟨_, rfl⟩
      rw [← e4] at hW
      try rw [← e4] at he
      unfold ms_place_s1 at he
      refine lv_aload_n hx hb dM_place_27 rfl (lv_at hl 0 rfl) ?_
      refine fw_get (X := X) (v := .ref (X.2.2 (6, 0, 0))) hx hb hts hin_M hown hK hW (0, 0, 0) mv0 rfl rfl 6 (by decide) (htb _ m_418 rfl) (fun _ h => h) rfl rfl dM_place_28 ?_
      refine lv_iload_n hx hb dM_place_31 rfl (lv_at hl 1 rfl) ?_
      refine lv_eqi (vi_nI hv_a1) ?_
      refine lv_iload_n hx hb dM_place_32 rfl (lv_at hl 3 rfl) ?_
      refine fw_zast (X := X) hx hb hK hW hI hA hS (6, 0, 0) mv6 rfl 5 rfl (bo_n (hz)) a1.toNatClampNeg (nI_clamp (by omega)) (vp_in_nI (by omega) (by decide)) dM_place_33 (fun H locs hW hS => ?_)
      obtain ⟨σ5, e6⟩ : ∃ z : fw_S, z = fw_st σ3 (6, 0, 0) a1.toNatClampNeg a3 := ⟨_, rfl⟩
      rw [← e6] at hW
      try rw [← e6] at he
      unfold ms_place_s2 at he
      refine lv_iconst (v := 0) hx hb dM_place_34 (by decide) ?_
      exact fw_iret hx hb hr hlocks hK hnb hW hS he dM_place_35
    · rw [if_pos c2] at he
      refine lv_iconst (v := (-1)) hx hb dM_place_18 (by decide) ?_
      exact fw_iret hx hb hr hlocks hK hnb hW hS he dM_place_19
def ms_clock_s1 (σ2 : fw_S) : Int32 × fw_S :=
  (σ2 (0, 0, 0) 2, σ2)
def ms_clock (σ : fw_S) (a1 : Int32) : Int32 × fw_S :=
  if (ms_in a1 0 3000) = 0 then ((-1), σ) else ms_clock_s1 (fw_st σ (0, 0, 0) 2 ((σ (0, 0, 0) 2) + a1))
set_option maxHeartbeats 4000000 in
set_option maxRecDepth 100000 in
theorem cm_clock (l : Launch) (X : fw_X) (hI : fw_I mV X) (σ : fw_S) (a1 : Int32)  : fw_Mi fw_cl msh mV fw_tys l yM_clock wM_clock (fw_rm 1) X σ [.ref (X.2.2 (0, 0, 0)), .int a1] (ms_clock σ a1) := by
  obtain ⟨out, he⟩ : ∃ z : Int32 × fw_S, z = ms_clock σ a1 := ⟨_, rfl⟩
  rw [← he]
  refine fw_Mi_of (cc := bM_clock) (maxL := 2) (ret := (some .int)) (by decide) rfl (Nat.le_of_ble_eq_true rfl) ?_
  intro p e s m below meth c ls hx hb hr hml hlocks hown hts hK hnb hW hl
  have hS : va_S (fw_A mV X) s.heap s.heap [] := va_S.rf
  have hA : ∀ t, mV t → fw_A mV X (X.2.2 t) := fun t h => ⟨t, h, rfl⟩
  have htb := tb_use hts
  have hl : lv_has ls 2 [(0, .ref (X.2.2 (0, 0, 0))), (1, .int a1)] := hl
  have hown : s.vm.findClass "TapOfficeModel" = some m.cls := hown
  unfold ms_clock at he
  refine lv_iload_n hx hb dM_clock_0 rfl (lv_at hl 1 rfl) ?_
  refine lv_iconst (v := 0) hx hb dM_clock_1 (by decide) ?_
  refine lv_sipush (v := 3000) hx hb dM_clock_2 (by decide) ?_
  refine fw_kp (va_runS (As := [.int a1, .int 0, .int 3000]) (rest := []) ⟨hx, hb, hml, hown, hts⟩ (cm_in l X hI σ a1 0 3000 ) (va_cwS 3 hts (tb_S m_467 m_465 m_466 m_31) rfl rfl rfl (by decide +kernel) ⟨Nat.le_of_ble_eq_true rfl, Nat.le_of_ble_eq_true rfl⟩) (fw_preS (X := X) hK hnb hW [.int a1, .int 0, .int 3000]) rfl rfl hl.1 rfl (lv_room (Nat.le_of_ble_eq_true rfl)) dM_clock_5 ⟨Nat.zero_le _, Nat.zero_le _⟩) hS (fun H locs hW hS => ?_)
  refine lv_if_ne (tgt := 13) hx hb dM_clock_8 (by decide) (fun c1 => ?_) (fun c1 => ?_)
  · rw [if_neg c1] at he
    refine lv_aload_n hx hb dM_clock_13 rfl (lv_at hl 0 rfl) ?_
    refine lv_dup hx hb dM_clock_14 rfl ?_
    refine fw_get (X := X) (v := .int (σ (0, 0, 0) 2)) hx hb hts hin_M hown hK hW (0, 0, 0) mv0 rfl rfl 2 (by decide) (htb _ m_414 rfl) (fun _ h => h) rfl rfl dM_clock_15 ?_
    refine lv_iload_n hx hb dM_clock_18 rfl (lv_at hl 1 rfl) ?_
    refine lv_iadd hx hb dM_clock_19 ?_
    refine fw_put (X := X) hx hb hts hin_M ty_M ty_M_ok nm_M hown hK hW hI hA hS (0, 0, 0) mv0 rfl rfl rfl 2 (by decide) (htb _ m_414 rfl) (fun _ h => h) rfl rfl (ty := .int) (by decide +kernel) rfl rfl dM_clock_20 (fun H locs hW hS => ?_)
    obtain ⟨σ2, e3⟩ : ∃ z : fw_S, z = fw_st σ (0, 0, 0) 2 ((σ (0, 0, 0) 2) + a1) := ⟨_, rfl⟩
    rw [← e3] at hW
    try rw [← e3] at he
    unfold ms_clock_s1 at he
    refine lv_aload_n hx hb dM_clock_23 rfl (lv_at hl 0 rfl) ?_
    refine fw_get (X := X) (v := .int (σ2 (0, 0, 0) 2)) hx hb hts hin_M hown hK hW (0, 0, 0) mv0 rfl rfl 2 (by decide) (htb _ m_414 rfl) (fun _ h => h) rfl rfl dM_clock_24 ?_
    exact fw_iret hx hb hr hlocks hK hnb hW hS he dM_clock_27
  · rw [if_pos c1] at he
    refine lv_iconst (v := (-1)) hx hb dM_clock_11 (by decide) ?_
    exact fw_iret hx hb hr hlocks hK hnb hW hS he dM_clock_12
def ms_base_s2 (cd : Nat) (z1 : Int32) (z3 : Int32) : Int32 :=
  if z3 ≤ z1 then (nI ((16 * cd) + 0)) else (nI ((16 * cd) + 8))
def ms_base_s1 (cd : Nat) (σ : fw_S) (z1 : Int32) : Int32 :=
  ms_base_s2 cd z1 ((σ (3, 0, 0) ((16 * cd) + 15)) / 4096)
def ms_base (σ : fw_S) (cd : Nat) : Int32 :=
  ms_base_s1 cd σ ((σ (3, 0, 0) ((16 * cd) + 7)) / 4096)
set_option maxHeartbeats 4000000 in
set_option maxRecDepth 100000 in
theorem cm_base (l : Launch) (X : fw_X) (hI : fw_I mV X) (σ : fw_S) (cd : Nat) (hcd : cd < 4)  : fw_Mi fw_cl msh mV fw_tys l yM_base wM_base (fw_rm 0) X σ [.ref (X.2.2 (0, 0, 0)), .int (nI cd)] ((ms_base σ cd, σ)) := by
  obtain ⟨out, he⟩ : ∃ z : Int32, z = ms_base σ cd := ⟨_, rfl⟩
  rw [← he]
  refine fw_Mi_of (cc := bM_base) (maxL := 4) (ret := (some .int)) (by decide) rfl (Nat.le_of_ble_eq_true rfl) ?_
  intro p e s m below meth c ls hx hb hr hml hlocks hown hts hK hnb hW hl
  have hS : va_S (fw_A mV X) s.heap s.heap [] := va_S.rf
  have hA : ∀ t, mV t → fw_A mV X (X.2.2 t) := fun t h => ⟨t, h, rfl⟩
  have htb := tb_use hts
  have hl : lv_has ls 4 [(0, .ref (X.2.2 (0, 0, 0))), (1, .int (nI cd))] := hl
  have hown : s.vm.findClass "TapOfficeModel" = some m.cls := hown
  unfold ms_base at he
  refine lv_aload_n hx hb dM_base_0 rfl (lv_at hl 0 rfl) ?_
  refine fw_get (X := X) (v := .ref (X.2.2 (3, 0, 0))) hx hb hts hin_M hown hK hW (0, 0, 0) mv0 rfl rfl 3 (by decide) (htb _ m_415 rfl) (fun _ h => h) rfl rfl dM_base_1 ?_
  refine lv_bipush (v := 16) hx hb dM_base_4 (by decide) ?_
  refine lv_iload_n hx hb dM_base_6 rfl (lv_at hl 1 rfl) ?_
  refine lv_imul hx hb dM_base_7 ?_
  refine lv_eqi (pk_mul 16 cd) ?_
  refine lv_bipush (v := 7) hx hb dM_base_8 (by decide) ?_
  refine lv_iadd hx hb dM_base_10 ?_
  refine lv_eqi (nI_add (16 * cd) 7) ?_
  refine fw_iald (X := X) hx hb hK hW (3, 0, 0) mv3 rfl 0 rfl ((16 * cd) + 7) (nI_clamp (by omega)) (vp_in_nI (by omega) (by decide)) dM_base_11 ?_
  refine lv_sipush (v := 4096) hx hb dM_base_12 (by decide) ?_
  refine lv_idiv hx hb dM_base_15 (by decide) ?_
  refine lv_topi (fun z1 e2 => ?_)
  try rw [← e2] at he
  unfold ms_base_s1 at he
  refine lv_istore_n (lv' := [(2, .int z1), (0, .ref (X.2.2 (0, 0, 0))), (1, .int (nI cd))]) hx hb dM_base_16 rfl hl (by decide) rfl (fun ls hl => ?_)
  refine lv_aload_n hx hb dM_base_17 rfl (lv_at hl 1 rfl) ?_
  refine fw_get (X := X) (v := .ref (X.2.2 (3, 0, 0))) hx hb hts hin_M hown hK hW (0, 0, 0) mv0 rfl rfl 3 (by decide) (htb _ m_415 rfl) (fun _ h => h) rfl rfl dM_base_18 ?_
  refine lv_bipush (v := 16) hx hb dM_base_21 (by decide) ?_
  refine lv_iload_n hx hb dM_base_23 rfl (lv_at hl 2 rfl) ?_
  refine lv_imul hx hb dM_base_24 ?_
  refine lv_eqi (pk_mul 16 cd) ?_
  refine lv_bipush (v := 15) hx hb dM_base_25 (by decide) ?_
  refine lv_iadd hx hb dM_base_27 ?_
  refine lv_eqi (nI_add (16 * cd) 15) ?_
  refine fw_iald (X := X) hx hb hK hW (3, 0, 0) mv3 rfl 0 rfl ((16 * cd) + 15) (nI_clamp (by omega)) (vp_in_nI (by omega) (by decide)) dM_base_28 ?_
  refine lv_sipush (v := 4096) hx hb dM_base_29 (by decide) ?_
  refine lv_idiv hx hb dM_base_32 (by decide) ?_
  refine lv_topi (fun z3 e4 => ?_)
  try rw [← e4] at he
  unfold ms_base_s2 at he
  refine lv_istore_n (lv' := [(3, .int z3), (2, .int z1), (0, .ref (X.2.2 (0, 0, 0))), (1, .int (nI cd))]) hx hb dM_base_33 rfl hl (by decide) rfl (fun ls hl => ?_)
  refine lv_bipush (v := 16) hx hb dM_base_34 (by decide) ?_
  refine lv_iload_n hx hb dM_base_36 rfl (lv_at hl 3 rfl) ?_
  refine lv_imul hx hb dM_base_37 ?_
  refine lv_eqi (pk_mul 16 cd) ?_
  refine lv_iload_n hx hb dM_base_38 rfl (lv_at hl 0 rfl) ?_
  refine lv_iload_n hx hb dM_base_39 rfl (lv_at hl 1 rfl) ?_
  refine lv_icmp_le (tgt := 48) hx hb dM_base_40 (by decide) (fun c5 => ?_) (fun c5 => ?_)
  · rw [if_pos c5] at he
    refine lv_iconst (v := 0) hx hb dM_base_48 (by decide) ?_
    refine lv_iadd hx hb dM_base_49 ?_
    refine lv_eqi (nI_add (16 * cd) 0) ?_
    exact fw_iret hx hb hr hlocks hK hnb hW hS (by rw [he]) dM_base_50
  · rw [if_neg c5] at he
    refine lv_bipush (v := 8) hx hb dM_base_43 (by decide) ?_
    refine lv_goto (tgt := 49) hx hb dM_base_45 (by decide) ?_
    refine lv_iadd hx hb dM_base_49 ?_
    refine lv_eqi (nI_add (16 * cd) 8) ?_
    exact fw_iret hx hb hr hlocks hK hnb hW hS (by rw [he]) dM_base_50
def mb (σ : fw_S) (c : Nat) : Nat := if σ (3, 0, 0) (16 * c + 15) / 4096 ≤ σ (3, 0, 0) (16 * c + 7) / 4096 then 16 * c else 16 * c + 8
theorem mb_nat (σ : fw_S) (c : Nat) : ms_base σ c = nI (mb σ c) := by
  simp only [ms_base, ms_base_s2, ms_base_s1, mb]
  split <;> rfl
theorem mb_or (σ : fw_S) (c : Nat) : mb σ c = 16 * c ∨ mb σ c = 16 * c + 8 := by
  unfold mb
  split
  · exact Or.inl rfl
  · exact Or.inr rfl
def ms_counter (σ : fw_S) (cd : Nat) : Int32 :=
  ((σ (3, 0, 0) ((mb σ cd) + 7)) / 4096)
set_option maxHeartbeats 4000000 in
set_option maxRecDepth 100000 in
theorem cm_counter (l : Launch) (X : fw_X) (hI : fw_I mV X) (σ : fw_S) (cd : Nat) (hcd : cd < 4)  : fw_Mi fw_cl msh mV fw_tys l yM_counter wM_counter (fw_rm 1) X σ [.ref (X.2.2 (0, 0, 0)), .int (nI cd)] ((ms_counter σ cd, σ)) := by
  obtain ⟨out, he⟩ : ∃ z : Int32, z = ms_counter σ cd := ⟨_, rfl⟩
  rw [← he]
  refine fw_Mi_of (cc := bM_counter) (maxL := 2) (ret := (some .int)) (by decide) rfl (Nat.le_of_ble_eq_true rfl) ?_
  intro p e s m below meth c ls hx hb hr hml hlocks hown hts hK hnb hW hl
  have hS : va_S (fw_A mV X) s.heap s.heap [] := va_S.rf
  have hA : ∀ t, mV t → fw_A mV X (X.2.2 t) := fun t h => ⟨t, h, rfl⟩
  have htb := tb_use hts
  have hl : lv_has ls 2 [(0, .ref (X.2.2 (0, 0, 0))), (1, .int (nI cd))] := hl
  have hown : s.vm.findClass "TapOfficeModel" = some m.cls := hown
  unfold ms_counter at he
  refine lv_aload_n hx hb dM_counter_0 rfl (lv_at hl 0 rfl) ?_
  refine fw_get (X := X) (v := .ref (X.2.2 (3, 0, 0))) hx hb hts hin_M hown hK hW (0, 0, 0) mv0 rfl rfl 3 (by decide) (htb _ m_415 rfl) (fun _ h => h) rfl rfl dM_counter_1 ?_
  refine lv_aload_n hx hb dM_counter_4 rfl (lv_at hl 0 rfl) ?_
  refine lv_iload_n hx hb dM_counter_5 rfl (lv_at hl 1 rfl) ?_
  refine fw_kp (va_runV (As := [.int (nI cd)]) (rest := [.ref (X.2.2 (3, 0, 0))]) ⟨hx, hb, hml, hown, hts⟩ (cm_base l X hI σ cd (by omega) ) (cwV 1 hts (tb_V m_491 m_488 m_490 m_10 m_31) rfl rfl rfl (by decide +kernel) ⟨Nat.le_of_ble_eq_true rfl, Nat.le_of_ble_eq_true rfl⟩) (fw_preV (X := X) hK hnb hW (0, 0, 0) mv0 rfl rfl [.int (nI cd)]) rfl rfl hl.1 rfl (lv_room (Nat.le_of_ble_eq_true rfl)) dM_counter_6 ⟨Nat.zero_le _, Nat.zero_le _⟩) hS (fun H locs hW hS => ?_)
  refine lv_eqi (mb_nat σ cd) ?_
  have := mb_or σ cd
  refine lv_bipush (v := 7) hx hb dM_counter_9 (by decide) ?_
  refine lv_iadd hx hb dM_counter_11 ?_
  refine lv_eqi (nI_add (mb σ cd) 7) ?_
  refine fw_iald (X := X) hx hb hK hW (3, 0, 0) mv3 rfl 0 rfl ((mb σ cd) + 7) (nI_clamp (by omega)) (vp_in_nI (by omega) (by decide)) dM_counter_12 ?_
  refine lv_sipush (v := 4096) hx hb dM_counter_13 (by decide) ?_
  refine lv_idiv hx hb dM_counter_16 (by decide) ?_
  exact fw_iret hx hb hr hlocks hK hnb hW hS (by rw [he]) dM_counter_17
def ms_spent (σ : fw_S) (cd : Nat) : Int32 :=
  if ((σ (3, 0, 0) ((mb σ cd) + 7)) - (σ (3, 0, 0) ((mb σ cd) + 7)) / 4096 * 4096) = ((σ (0, 0, 0) 2) / 1440) then (σ (3, 0, 0) ((mb σ cd) + 6)) else 0
set_option maxHeartbeats 4000000 in
set_option maxRecDepth 100000 in
theorem cm_spent (l : Launch) (X : fw_X) (hI : fw_I mV X) (σ : fw_S) (cd : Nat) (hcd : cd < 4)  : fw_Mi fw_cl msh mV fw_tys l yM_spent wM_spent (fw_rm 1) X σ [.ref (X.2.2 (0, 0, 0)), .int (nI cd)] ((ms_spent σ cd, σ)) := by
  obtain ⟨out, he⟩ : ∃ z : Int32, z = ms_spent σ cd := ⟨_, rfl⟩
  rw [← he]
  refine fw_Mi_of (cc := bM_spent) (maxL := 3) (ret := (some .int)) (by decide) rfl (Nat.le_of_ble_eq_true rfl) ?_
  intro p e s m below meth c ls hx hb hr hml hlocks hown hts hK hnb hW hl
  have hS : va_S (fw_A mV X) s.heap s.heap [] := va_S.rf
  have hA : ∀ t, mV t → fw_A mV X (X.2.2 t) := fun t h => ⟨t, h, rfl⟩
  have htb := tb_use hts
  have hl : lv_has ls 3 [(0, .ref (X.2.2 (0, 0, 0))), (1, .int (nI cd))] := hl
  have hown : s.vm.findClass "TapOfficeModel" = some m.cls := hown
  unfold ms_spent at he
  refine lv_aload_n hx hb dM_spent_0 rfl (lv_at hl 0 rfl) ?_
  refine lv_iload_n hx hb dM_spent_1 rfl (lv_at hl 1 rfl) ?_
  refine fw_kp (va_runV (As := [.int (nI cd)]) (rest := []) ⟨hx, hb, hml, hown, hts⟩ (cm_base l X hI σ cd (by omega) ) (cwV 1 hts (tb_V m_491 m_488 m_490 m_10 m_31) rfl rfl rfl (by decide +kernel) ⟨Nat.le_of_ble_eq_true rfl, Nat.le_of_ble_eq_true rfl⟩) (fw_preV (X := X) hK hnb hW (0, 0, 0) mv0 rfl rfl [.int (nI cd)]) rfl rfl hl.1 rfl (lv_room (Nat.le_of_ble_eq_true rfl)) dM_spent_2 ⟨Nat.zero_le _, Nat.zero_le _⟩) hS (fun H locs hW hS => ?_)
  refine lv_eqi (mb_nat σ cd) ?_
  have := mb_or σ cd
  refine lv_istore_n (lv' := [(2, .int (nI (mb σ cd))), (0, .ref (X.2.2 (0, 0, 0))), (1, .int (nI cd))]) hx hb dM_spent_5 rfl hl (by decide) rfl (fun ls hl => ?_)
  refine lv_aload_n hx hb dM_spent_6 rfl (lv_at hl 1 rfl) ?_
  refine fw_get (X := X) (v := .ref (X.2.2 (3, 0, 0))) hx hb hts hin_M hown hK hW (0, 0, 0) mv0 rfl rfl 3 (by decide) (htb _ m_415 rfl) (fun _ h => h) rfl rfl dM_spent_7 ?_
  refine lv_iload_n hx hb dM_spent_10 rfl (lv_at hl 0 rfl) ?_
  refine lv_bipush (v := 7) hx hb dM_spent_11 (by decide) ?_
  refine lv_iadd hx hb dM_spent_13 ?_
  refine lv_eqi (nI_add (mb σ cd) 7) ?_
  refine fw_iald (X := X) hx hb hK hW (3, 0, 0) mv3 rfl 0 rfl ((mb σ cd) + 7) (nI_clamp (by omega)) (vp_in_nI (by omega) (by decide)) dM_spent_14 ?_
  refine lv_sipush (v := 4096) hx hb dM_spent_15 (by decide) ?_
  refine lv_irem hx hb dM_spent_18 (by decide) ?_
  refine lv_aload_n hx hb dM_spent_19 rfl (lv_at hl 1 rfl) ?_
  refine fw_get (X := X) (v := .int (σ (0, 0, 0) 2)) hx hb hts hin_M hown hK hW (0, 0, 0) mv0 rfl rfl 2 (by decide) (htb _ m_414 rfl) (fun _ h => h) rfl rfl dM_spent_20 ?_
  refine lv_sipush (v := 1440) hx hb dM_spent_23 (by decide) ?_
  refine lv_idiv hx hb dM_spent_26 (by decide) ?_
  refine lv_icmp_ne (tgt := 42) hx hb dM_spent_27 (by decide) (fun c1 => ?_) (fun c1 => ?_)
  · rw [if_neg c1] at he
    refine lv_iconst (v := 0) hx hb dM_spent_42 (by decide) ?_
    exact fw_iret hx hb hr hlocks hK hnb hW hS (by rw [he]) dM_spent_43
  · rw [if_pos c1] at he
    refine lv_aload_n hx hb dM_spent_30 rfl (lv_at hl 1 rfl) ?_
    refine fw_get (X := X) (v := .ref (X.2.2 (3, 0, 0))) hx hb hts hin_M hown hK hW (0, 0, 0) mv0 rfl rfl 3 (by decide) (htb _ m_415 rfl) (fun _ h => h) rfl rfl dM_spent_31 ?_
    refine lv_iload_n hx hb dM_spent_34 rfl (lv_at hl 0 rfl) ?_
    refine lv_bipush (v := 6) hx hb dM_spent_35 (by decide) ?_
    refine lv_iadd hx hb dM_spent_37 ?_
    refine lv_eqi (nI_add (mb σ cd) 6) ?_
    refine fw_iald (X := X) hx hb hK hW (3, 0, 0) mv3 rfl 0 rfl ((mb σ cd) + 6) (nI_clamp (by omega)) (vp_in_nI (by omega) (by decide)) dM_spent_38 ?_
    refine lv_goto (tgt := 43) hx hb dM_spent_39 (by decide) ?_
    exact fw_iret hx hb hr hlocks hK hnb hW hS (by rw [he]) dM_spent_43
theorem mb_frame {σ τ : fw_S} (h : τ (3, 0, 0) = σ (3, 0, 0)) (c : Nat) : mb τ c = mb σ c := by
  unfold mb
  rw [h]
theorem ct_frame {σ τ : fw_S} (h : τ (3, 0, 0) = σ (3, 0, 0)) {c : Nat} : ms_counter τ c = ms_counter σ c := by
  unfold ms_counter
  rw [mb_frame h, h]
theorem sp_frame {σ τ : fw_S} (h : τ (3, 0, 0) = σ (3, 0, 0)) (h0 : τ (0, 0, 0) = σ (0, 0, 0)) {c : Nat} : ms_spent τ c = ms_spent σ c := by
  simp only [ms_spent]
  rw [mb_frame h, h, h0]
def ms_full_s1 (j : Nat) (rec : Nat → Int32 → Int32) (z3 : Int32) : Int32 :=
  rec (j + 1) z3
def ms_full_lp (zo : Nat) (σ : fw_S) : Nat → Nat → Int32 → Int32
  | 0, _, _ => 0
  | n + 1, j, x2 => if 6 ≤ j then x2 else if (σ (1, 0, 0) ((6 * zo) + j)) ≤ x2 then (ms_full_lp zo σ n) (j + 1) x2 else ms_full_s1 j (ms_full_lp zo σ n) (σ (1, 0, 0) ((6 * zo) + j))
def ms_full (σ : fw_S) (zo : Nat) : Int32 :=
  ms_full_lp zo σ (6 + 1) 0 0
set_option maxHeartbeats 4000000 in
set_option maxRecDepth 100000 in
theorem cm_full_lp {p : Program} {e : Env} {s : State} {m : MethodId} {below : List Frame} {meth : Method} {c : Code} {args : Array Value} (l : Launch) (X : fw_X) (hI : fw_I mV X) (σ : fw_S) (zo : Nat) (hzo : zo < 6)    (out : Int32)
    (hx : p.tables.exec = Jvm.exec) (hb : c.code = bM_full) (hr : meth.sig.returnType = (some .int)) (hml : c.maxLocals = 4) (hlocks : meth.locks = false) (hown : s.vm.findClass "TapOfficeModel" = some m.cls) (hts : ∀ w ∈ wM_full, w.before args s = true) (hK : va_K X.1 fw_cl (fw_tys X.2.1) s) (hnb : va_Nw fw_nb s) :
    ∀ (n : Nat) (j : Nat) (x2 : Int32), j ≤ 6 → 6 + 1 ≤ j + n → ∀ (H : Heap) (locs : List Loc), fw_W fw_cl msh mV X σ H → va_S (fw_A mV X) s.heap H locs → ∀ (ls : Array Slot), lv_has ls 4 [(0, .ref (X.2.2 (0, 0, 0))), (1, .int (nI zo)), (2, .int x2), (3, .int (nI j))] → out = ms_full_lp zo σ n j x2 → W p l e (fw_rm 0) s m args below meth c H locs 0 0 (MQ below (va_Qi (fun r u => (r, u) = (out, σ)) (fun u t => fw_O fw_cl msh mV fw_tys X u t) (fw_A mV X)) args s 0 0 (fw_A mV X)) (F0 m 4 ls []) := by
  have hA : ∀ t, mV t → fw_A mV X (X.2.2 t) := fun t h => ⟨t, h, rfl⟩
  have htb := tb_use hts
  intro n
  induction n with
  | zero =>
    intro j x2 h1 h2
    exact absurd h2 (by omega)
  | succ n ih =>
    intro j x2 hj1 hj2 H locs hW hS ls hl he
    rw [ms_full_lp] at he
    refine lv_iload_n hx hb dM_full_4 rfl (lv_at hl 3 rfl) ?_
    refine lv_bipush (v := 6) hx hb dM_full_5 (by decide) ?_
    refine lv_icmp_ge (tgt := 43) hx hb dM_full_7 (by decide) (fun c1 => ?_) (fun c1 => ?_)
    · replace c1 := (nI_leI (a := 6) (b := j) (by omega) (by omega)).mp c1
      rw [if_pos c1] at he
      refine lv_iload_n hx hb dM_full_43 rfl (lv_at hl 2 rfl) ?_
      exact fw_iret hx hb hr hlocks hK hnb hW hS (by rw [he]) dM_full_44
    · replace c1 := mt (nI_leI (a := 6) (b := j) (by omega) (by omega)).mpr c1
      rw [if_neg c1] at he
      refine lv_aload_n hx hb dM_full_10 rfl (lv_at hl 0 rfl) ?_
      refine fw_get (X := X) (v := .ref (X.2.2 (1, 0, 0))) hx hb hts hin_M hown hK hW (0, 0, 0) mv0 rfl rfl 0 (by decide) (htb _ m_412 rfl) (fun _ h => h) rfl rfl dM_full_11 ?_
      refine lv_bipush (v := 6) hx hb dM_full_14 (by decide) ?_
      refine lv_iload_n hx hb dM_full_16 rfl (lv_at hl 1 rfl) ?_
      refine lv_imul hx hb dM_full_17 ?_
      refine lv_eqi (pk_mul 6 zo) ?_
      refine lv_iload_n hx hb dM_full_18 rfl (lv_at hl 3 rfl) ?_
      refine lv_iadd hx hb dM_full_19 ?_
      refine lv_eqi (nI_add (6 * zo) j) ?_
      refine fw_iald (X := X) hx hb hK hW (1, 0, 0) mv1 rfl 0 rfl ((6 * zo) + j) (nI_clamp (by omega)) (vp_in_nI (by omega) (by decide)) dM_full_20 ?_
      refine lv_iload_n hx hb dM_full_21 rfl (lv_at hl 2 rfl) ?_
      refine lv_icmp_le (tgt := 37) hx hb dM_full_22 (by decide) (fun c2 => ?_) (fun c2 => ?_)
      · rw [if_pos c2] at he
        refine lv_iinc (v := nI (j + 1)) (lv' := [(3, .int (nI (j + 1))), (0, .ref (X.2.2 (0, 0, 0))), (1, .int (nI zo)), (2, .int x2)]) hx hb dM_full_37 hl (k := 3) rfl (by exact nI_1 j) (by decide) rfl (fun ls hl => ?_)
        refine lv_goto (tgt := 4) hx hb dM_full_40 (by decide) ?_
        exact ih (j + 1) x2 (by omega) (by omega) _ _ hW hS ls (lv_sub hl [1, 2, 3, 0] rfl) he
      · rw [if_neg c2] at he
        refine lv_aload_n hx hb dM_full_25 rfl (lv_at hl 0 rfl) ?_
        refine fw_get (X := X) (v := .ref (X.2.2 (1, 0, 0))) hx hb hts hin_M hown hK hW (0, 0, 0) mv0 rfl rfl 0 (by decide) (htb _ m_412 rfl) (fun _ h => h) rfl rfl dM_full_26 ?_
        refine lv_bipush (v := 6) hx hb dM_full_29 (by decide) ?_
        refine lv_iload_n hx hb dM_full_31 rfl (lv_at hl 1 rfl) ?_
        refine lv_imul hx hb dM_full_32 ?_
        refine lv_eqi (pk_mul 6 zo) ?_
        refine lv_iload_n hx hb dM_full_33 rfl (lv_at hl 3 rfl) ?_
        refine lv_iadd hx hb dM_full_34 ?_
        refine lv_eqi (nI_add (6 * zo) j) ?_
        refine fw_iald (X := X) hx hb hK hW (1, 0, 0) mv1 rfl 0 rfl ((6 * zo) + j) (nI_clamp (by omega)) (vp_in_nI (by omega) (by decide)) dM_full_35 ?_
        refine lv_topi (fun z3 e4 => ?_)
        try rw [← e4] at he
        unfold ms_full_s1 at he
        refine lv_istore_n (lv' := [(2, .int z3), (0, .ref (X.2.2 (0, 0, 0))), (1, .int (nI zo)), (3, .int (nI j))]) hx hb dM_full_36 rfl hl (by decide) rfl (fun ls hl => ?_)
        refine lv_iinc (v := nI (j + 1)) (lv' := [(3, .int (nI (j + 1))), (2, .int z3), (0, .ref (X.2.2 (0, 0, 0))), (1, .int (nI zo))]) hx hb dM_full_37 hl (k := 3) rfl (by exact nI_1 j) (by decide) rfl (fun ls hl => ?_)
        refine lv_goto (tgt := 4) hx hb dM_full_40 (by decide) ?_
        exact ih (j + 1) z3 (by omega) (by omega) _ _ hW hS ls (lv_sub hl [2, 3, 1, 0] rfl) he
set_option maxHeartbeats 4000000 in
set_option maxRecDepth 100000 in
theorem cm_full (l : Launch) (X : fw_X) (hI : fw_I mV X) (σ : fw_S) (zo : Nat) (hzo : zo < 6)  : fw_Mi fw_cl msh mV fw_tys l yM_full wM_full (fw_rm 0) X σ [.ref (X.2.2 (0, 0, 0)), .int (nI zo)] ((ms_full σ zo, σ)) := by
  obtain ⟨out, he⟩ : ∃ z : Int32, z = ms_full σ zo := ⟨_, rfl⟩
  rw [← he]
  refine fw_Mi_of (cc := bM_full) (maxL := 4) (ret := (some .int)) (by decide) rfl (Nat.le_of_ble_eq_true rfl) ?_
  intro p e s m below meth c ls hx hb hr hml hlocks hown hts hK hnb hW hl
  have hS : va_S (fw_A mV X) s.heap s.heap [] := va_S.rf
  have hA : ∀ t, mV t → fw_A mV X (X.2.2 t) := fun t h => ⟨t, h, rfl⟩
  have htb := tb_use hts
  have hl : lv_has ls 4 [(0, .ref (X.2.2 (0, 0, 0))), (1, .int (nI zo))] := hl
  have hown : s.vm.findClass "TapOfficeModel" = some m.cls := hown
  unfold ms_full at he
  refine lv_iconst (v := 0) hx hb dM_full_0 (by decide) ?_
  refine lv_istore_n (lv' := [(2, .int 0), (0, .ref (X.2.2 (0, 0, 0))), (1, .int (nI zo))]) hx hb dM_full_1 rfl hl (by decide) rfl (fun ls hl => ?_)
  refine lv_iconst (v := 0) hx hb dM_full_2 (by decide) ?_
  refine lv_istore_n (lv' := [(3, .int 0), (2, .int 0), (0, .ref (X.2.2 (0, 0, 0))), (1, .int (nI zo))]) hx hb dM_full_3 rfl hl (by decide) rfl (fun ls hl => ?_)
  exact cm_full_lp l X hI σ zo hzo   out hx hb hr hml hlocks hown hts hK hnb (6 + 1) 0 0 (by omega) (by omega) _ _ hW hS ls (lv_sub hl [2, 3, 1, 0] rfl) he

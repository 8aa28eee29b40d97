def ms_deny_s1 (σ2 : fw_S) : Int32 × fw_S :=
  (0, σ2)
def ms_deny (σ : fw_S) (a1 : Int32) (a2 : Int32) : Int32 × fw_S :=
  if (ms_in a1 0 3) = 0 then ((-1), σ) else ms_deny_s1 (fw_st σ (10, 0, 0) a1.toNatClampNeg a2)
set_option maxHeartbeats 4000000 in
set_option maxRecDepth 100000 in
theorem cm_deny (l : Launch) (X : fw_X) (hI : fw_I mV X) (σ : fw_S) (a1 : Int32) (a2 : Int32) (hz : a2 = 0 ∨ a2 = 1) : fw_Mi fw_cl msh mV fw_tys l yM_deny wM_deny (fw_rm 1) X σ [.ref (X.2.2 (0, 0, 0)), .int a1, .int a2] (ms_deny σ a1 a2) := by
  obtain ⟨out, he⟩ : ∃ z : Int32 × fw_S, z = ms_deny σ a1 a2 := ⟨_, rfl⟩
  rw [← he]
  refine fw_Mi_of (cc := bM_deny) (maxL := 3) (ret := (some .int)) (by decide) rfl (Nat.le_of_ble_eq_true rfl) ?_
  intro p e s m below meth c ls hx hb hr hml hlocks hown hts hK hnb hW hl
  have hS : va_S (fw_A mV X) s.heap s.heap [] := va_S.rf
  have hA : ∀ t, mV t → fw_A mV X (X.2.2 t) := fun t h => ⟨t, h, rfl⟩
  have htb := tb_use hts
  have hl : lv_has ls 3 [(0, .ref (X.2.2 (0, 0, 0))), (1, .int a1), (2, .int a2)] := hl
  have hown : s.vm.findClass "TapOfficeModel" = some m.cls := hown
  unfold ms_deny at he
  refine lv_iload_n hx hb dM_deny_0 rfl (lv_at hl 1 rfl) ?_
  refine lv_iconst (v := 0) hx hb dM_deny_1 (by decide) ?_
  refine lv_iconst (v := 3) hx hb dM_deny_2 (by decide) ?_
  refine fw_kp (va_runS (As := [.int a1, .int 0, .int 3]) (rest := []) ⟨hx, hb, hml, hown, hts⟩ (cm_in l X hI σ a1 0 3 ) (va_cwS 3 hts (tb_S m_467 m_465 m_466 m_31) rfl rfl rfl (by decide +kernel) ⟨Nat.le_of_ble_eq_true rfl, Nat.le_of_ble_eq_true rfl⟩) (fw_preS (X := X) hK hnb hW [.int a1, .int 0, .int 3]) rfl rfl hl.1 rfl (lv_room (Nat.le_of_ble_eq_true rfl)) dM_deny_3 ⟨Nat.zero_le _, Nat.zero_le _⟩) hS (fun H locs hW hS => ?_)
  refine lv_if_ne (tgt := 11) hx hb dM_deny_6 (by decide) (fun c1 => ?_) (fun c1 => ?_)
  · rw [if_neg c1] at he
    refine lv_aload_n hx hb dM_deny_11 rfl (lv_at hl 0 rfl) ?_
    refine fw_get (X := X) (v := .ref (X.2.2 (10, 0, 0))) hx hb hts hin_M hown hK hW (0, 0, 0) mv0 rfl rfl 10 (by decide) (htb _ m_422 rfl) (fun _ h => h) rfl rfl dM_deny_12 ?_
    refine lv_iload_n hx hb dM_deny_15 rfl (lv_at hl 1 rfl) ?_
    have hv_a1 : vp_in a1 4 := (in_vi ‹¬ ms_in a1 0 3 = 0›)
    have hl_a1 := vi_lt hv_a1
    refine lv_eqi (vi_nI hv_a1) ?_
    refine lv_iload_n hx hb dM_deny_16 rfl (lv_at hl 2 rfl) ?_
    refine fw_zast (X := X) hx hb hK hW hI hA hS (10, 0, 0) mv10 rfl 5 rfl (bo_n (hz)) a1.toNatClampNeg (nI_clamp (by omega)) (vp_in_nI (by omega) (by decide)) dM_deny_17 (fun H locs hW hS => ?_)
    obtain ⟨σ2, e3⟩ : ∃ z : fw_S, z = fw_st σ (10, 0, 0) a1.toNatClampNeg a2 := ⟨_, rfl⟩
    rw [← e3] at hW
    try rw [← e3] at he
    unfold ms_deny_s1 at he
    refine lv_iconst (v := 0) hx hb dM_deny_18 (by decide) ?_
    exact fw_iret hx hb hr hlocks hK hnb hW hS he dM_deny_19
  · rw [if_pos c1] at he
    refine lv_iconst (v := (-1)) hx hb dM_deny_9 (by decide) ?_
    exact fw_iret hx hb hr hlocks hK hnb hW hS he dM_deny_10
def ms_word (σ : fw_S) (a1 : Int32) (a2 : Int32) (a3 : Int32) : Int32 :=
  if (ms_in a1 0 3) = 0 then (-1) else if (ms_in a2 0 1) = 0 then (-1) else if (ms_in a3 0 7) = 0 then (-1) else (σ (3, 0, 0) (((16 * a1.toNatClampNeg) + (8 * a2.toNatClampNeg)) + a3.toNatClampNeg))
set_option maxHeartbeats 4000000 in
set_option maxRecDepth 100000 in
theorem cm_word (l : Launch) (X : fw_X) (hI : fw_I mV X) (σ : fw_S) (a1 : Int32) (a2 : Int32) (a3 : Int32)  : fw_Mi fw_cl msh mV fw_tys l yM_word wM_word (fw_rm 1) X σ [.ref (X.2.2 (0, 0, 0)), .int a1, .int a2, .int a3] ((ms_word σ a1 a2 a3, σ)) := by
  obtain ⟨out, he⟩ : ∃ z : Int32, z = ms_word σ a1 a2 a3 := ⟨_, rfl⟩
  rw [← he]
  refine fw_Mi_of (cc := bM_word) (maxL := 4) (ret := (some .int)) (by decide) rfl (Nat.le_of_ble_eq_true rfl) ?_
  intro p e s m below meth c ls hx hb hr hml hlocks hown hts hK hnb hW hl
  have hS : va_S (fw_A mV X) s.heap s.heap [] := va_S.rf
  have hA : ∀ t, mV t → fw_A mV X (X.2.2 t) := fun t h => ⟨t, h, rfl⟩
  have htb := tb_use hts
  have hl : lv_has ls 4 [(0, .ref (X.2.2 (0, 0, 0))), (1, .int a1), (2, .int a2), (3, .int a3)] := hl
  have hown : s.vm.findClass "TapOfficeModel" = some m.cls := hown
  unfold ms_word at he
  refine lv_iload_n hx hb dM_word_0 rfl (lv_at hl 1 rfl) ?_
  refine lv_iconst (v := 0) hx hb dM_word_1 (by decide) ?_
  refine lv_iconst (v := 3) hx hb dM_word_2 (by decide) ?_
  refine fw_kp (va_runS (As := [.int a1, .int 0, .int 3]) (rest := []) ⟨hx, hb, hml, hown, hts⟩ (cm_in l X hI σ a1 0 3 ) (va_cwS 3 hts (tb_S m_467 m_465 m_466 m_31) rfl rfl rfl (by decide +kernel) ⟨Nat.le_of_ble_eq_true rfl, Nat.le_of_ble_eq_true rfl⟩) (fw_preS (X := X) hK hnb hW [.int a1, .int 0, .int 3]) rfl rfl hl.1 rfl (lv_room (Nat.le_of_ble_eq_true rfl)) dM_word_3 ⟨Nat.zero_le _, Nat.zero_le _⟩) hS (fun H locs hW hS => ?_)
  refine lv_if_eq (tgt := 47) hx hb dM_word_6 (by decide) (fun c1 => ?_) (fun c1 => ?_)
  · rw [if_pos c1] at he
    refine lv_iconst (v := (-1)) hx hb dM_word_47 (by decide) ?_
    exact fw_iret hx hb hr hlocks hK hnb hW hS (by rw [he]) dM_word_48
  · rw [if_neg c1] at he
    refine lv_iload_n hx hb dM_word_9 rfl (lv_at hl 2 rfl) ?_
    refine lv_iconst (v := 0) hx hb dM_word_10 (by decide) ?_
    refine lv_iconst (v := 1) hx hb dM_word_11 (by decide) ?_
    refine fw_kp (va_runS (As := [.int a2, .int 0, .int 1]) (rest := []) ⟨hx, hb, hml, hown, hts⟩ (cm_in l X hI σ a2 0 1 ) (va_cwS 3 hts (tb_S m_467 m_465 m_466 m_31) rfl rfl rfl (by decide +kernel) ⟨Nat.le_of_ble_eq_true rfl, Nat.le_of_ble_eq_true rfl⟩) (fw_preS (X := X) hK hnb hW [.int a2, .int 0, .int 1]) rfl rfl hl.1 rfl (lv_room (Nat.le_of_ble_eq_true rfl)) dM_word_12 ⟨Nat.zero_le _, Nat.zero_le _⟩) hS (fun H locs hW hS => ?_)
    refine lv_if_eq (tgt := 47) hx hb dM_word_15 (by decide) (fun c2 => ?_) (fun c2 => ?_)
    · rw [if_pos c2] at he
      refine lv_iconst (v := (-1)) hx hb dM_word_47 (by decide) ?_
      exact fw_iret hx hb hr hlocks hK hnb hW hS (by rw [he]) dM_word_48
    · rw [if_neg c2] at he
      refine lv_iload_n hx hb dM_word_18 rfl (lv_at hl 3 rfl) ?_
      refine lv_iconst (v := 0) hx hb dM_word_19 (by decide) ?_
      refine lv_bipush (v := 7) hx hb dM_word_20 (by decide) ?_
      refine fw_kp (va_runS (As := [.int a3, .int 0, .int 7]) (rest := []) ⟨hx, hb, hml, hown, hts⟩ (cm_in l X hI σ a3 0 7 ) (va_cwS 3 hts (tb_S m_467 m_465 m_466 m_31) rfl rfl rfl (by decide +kernel) ⟨Nat.le_of_ble_eq_true rfl, Nat.le_of_ble_eq_true rfl⟩) (fw_preS (X := X) hK hnb hW [.int a3, .int 0, .int 7]) rfl rfl hl.1 rfl (lv_room (Nat.le_of_ble_eq_true rfl)) dM_word_22 ⟨Nat.zero_le _, Nat.zero_le _⟩) hS (fun H locs hW hS => ?_)
      refine lv_if_eq (tgt := 47) hx hb dM_word_25 (by decide) (fun c3 => ?_) (fun c3 => ?_)
      · rw [if_pos c3] at he
        refine lv_iconst (v := (-1)) hx hb dM_word_47 (by decide) ?_
        exact fw_iret hx hb hr hlocks hK hnb hW hS (by rw [he]) dM_word_48
      · rw [if_neg c3] at he
        refine lv_aload_n hx hb dM_word_28 rfl (lv_at hl 0 rfl) ?_
        refine fw_get (X := X) (v := .ref (X.2.2 (3, 0, 0))) hx hb hts hin_M hown hK hW (0, 0, 0) mv0 rfl rfl 3 (by decide) (htb _ m_415 rfl) (fun _ h => h) rfl rfl dM_word_29 ?_
        refine lv_bipush (v := 16) hx hb dM_word_32 (by decide) ?_
        refine lv_iload_n hx hb dM_word_34 rfl (lv_at hl 1 rfl) ?_
        have hv_a1 : vp_in a1 4 := (in_vi ‹¬ ms_in a1 0 3 = 0›)
        have hl_a1 := vi_lt hv_a1
        refine lv_eqi (vi_nI hv_a1) ?_
        refine lv_imul hx hb dM_word_35 ?_
        refine lv_eqi (pk_mul 16 a1.toNatClampNeg) ?_
        refine lv_bipush (v := 8) hx hb dM_word_36 (by decide) ?_
        refine lv_iload_n hx hb dM_word_38 rfl (lv_at hl 2 rfl) ?_
        have hv_a2 : vp_in a2 2 := (in_vi ‹¬ ms_in a2 0 1 = 0›)
        have hl_a2 := vi_lt hv_a2
        refine lv_eqi (vi_nI hv_a2) ?_
        refine lv_imul hx hb dM_word_39 ?_
        refine lv_eqi (pk_mul 8 a2.toNatClampNeg) ?_
        refine lv_iadd hx hb dM_word_40 ?_
        refine lv_eqi (nI_add (16 * a1.toNatClampNeg) (8 * a2.toNatClampNeg)) ?_
        refine lv_iload_n hx hb dM_word_41 rfl (lv_at hl 3 rfl) ?_
        have hv_a3 : vp_in a3 8 := (in_vi ‹¬ ms_in a3 0 7 = 0›)
        have hl_a3 := vi_lt hv_a3
        refine lv_eqi (vi_nI hv_a3) ?_
        refine lv_iadd hx hb dM_word_42 ?_
        refine lv_eqi (nI_add ((16 * a1.toNatClampNeg) + (8 * a2.toNatClampNeg)) a3.toNatClampNeg) ?_
        refine fw_iald (X := X) hx hb hK hW (3, 0, 0) mv3 rfl 0 rfl (((16 * a1.toNatClampNeg) + (8 * a2.toNatClampNeg)) + a3.toNatClampNeg) (nI_clamp (by omega)) (vp_in_nI (by omega) (by decide)) dM_word_43 ?_
        refine lv_goto (tgt := 48) hx hb dM_word_44 (by decide) ?_
        exact fw_iret hx hb hr hlocks hK hnb hW hS (by rw [he]) dM_word_48
def ms_card (σ : fw_S) (a1 : Int32) (a2 : Int32) : Int32 :=
  if (ms_in a1 0 3) = 0 then (-1) else if (ms_in a2 0 7) = 0 then (-1) else if a2 = 6 then (ms_counter σ a1.toNatClampNeg) else if a2 = 7 then (ms_spent σ a1.toNatClampNeg) else (σ (3, 0, 0) ((mb σ a1.toNatClampNeg) + a2.toNatClampNeg))
set_option maxHeartbeats 4000000 in
set_option maxRecDepth 100000 in
theorem cm_card (l : Launch) (X : fw_X) (hI : fw_I mV X) (σ : fw_S) (a1 : Int32) (a2 : Int32)  : fw_Mi fw_cl msh mV fw_tys l yM_card wM_card (fw_rm 2) X σ [.ref (X.2.2 (0, 0, 0)), .int a1, .int a2] ((ms_card σ a1 a2, σ)) := by
  obtain ⟨out, he⟩ : ∃ z : Int32, z = ms_card σ a1 a2 := ⟨_, rfl⟩
  rw [← he]
  refine fw_Mi_of (cc := bM_card) (maxL := 3) (ret := (some .int)) (by decide) rfl (Nat.le_of_ble_eq_true rfl) ?_
  intro p e s m below meth c ls hx hb hr hml hlocks hown hts hK hnb hW hl
  have hS : va_S (fw_A mV X) s.heap s.heap [] := va_S.rf
  have hA : ∀ t, mV t → fw_A mV X (X.2.2 t) := fun t h => ⟨t, h, rfl⟩
  have htb := tb_use hts
  have hl : lv_has ls 3 [(0, .ref (X.2.2 (0, 0, 0))), (1, .int a1), (2, .int a2)] := hl
  have hown : s.vm.findClass "TapOfficeModel" = some m.cls := hown
  unfold ms_card at he
  refine lv_iload_n hx hb dM_card_0 rfl (lv_at hl 1 rfl) ?_
  refine lv_iconst (v := 0) hx hb dM_card_1 (by decide) ?_
  refine lv_iconst (v := 3) hx hb dM_card_2 (by decide) ?_
  refine fw_kp (va_runS (As := [.int a1, .int 0, .int 3]) (rest := []) ⟨hx, hb, hml, hown, hts⟩ (cm_in l X hI σ a1 0 3 ) (va_cwS 3 hts (tb_S m_467 m_465 m_466 m_31) rfl rfl rfl (by decide +kernel) ⟨Nat.le_of_ble_eq_true rfl, Nat.le_of_ble_eq_true rfl⟩) (fw_preS (X := X) hK hnb hW [.int a1, .int 0, .int 3]) rfl rfl hl.1 rfl (lv_room (Nat.le_of_ble_eq_true rfl)) dM_card_3 ⟨Nat.zero_le _, Nat.zero_le _⟩) hS (fun H locs hW hS => ?_)
  refine lv_if_eq (tgt := 19) hx hb dM_card_6 (by decide) (fun c1 => ?_) (fun c1 => ?_)
  · rw [if_pos c1] at he
    refine lv_iconst (v := (-1)) hx hb dM_card_19 (by decide) ?_
    exact fw_iret hx hb hr hlocks hK hnb hW hS (by rw [he]) dM_card_20
  · rw [if_neg c1] at he
    refine lv_iload_n hx hb dM_card_9 rfl (lv_at hl 2 rfl) ?_
    refine lv_iconst (v := 0) hx hb dM_card_10 (by decide) ?_
    refine lv_bipush (v := 7) hx hb dM_card_11 (by decide) ?_
    refine fw_kp (va_runS (As := [.int a2, .int 0, .int 7]) (rest := []) ⟨hx, hb, hml, hown, hts⟩ (cm_in l X hI σ a2 0 7 ) (va_cwS 3 hts (tb_S m_467 m_465 m_466 m_31) rfl rfl rfl (by decide +kernel) ⟨Nat.le_of_ble_eq_true rfl, Nat.le_of_ble_eq_true rfl⟩) (fw_preS (X := X) hK hnb hW [.int a2, .int 0, .int 7]) rfl rfl hl.1 rfl (lv_room (Nat.le_of_ble_eq_true rfl)) dM_card_13 ⟨Nat.zero_le _, Nat.zero_le _⟩) hS (fun H locs hW hS => ?_)
    refine lv_if_ne (tgt := 21) hx hb dM_card_16 (by decide) (fun c2 => ?_) (fun c2 => ?_)
    · rw [if_neg c2] at he
      refine lv_iload_n hx hb dM_card_21 rfl (lv_at hl 2 rfl) ?_
      refine lv_bipush (v := 6) hx hb dM_card_22 (by decide) ?_
      refine lv_icmp_ne (tgt := 35) hx hb dM_card_24 (by decide) (fun c3 => ?_) (fun c3 => ?_)
      · rw [if_neg c3] at he
        refine lv_iload_n hx hb dM_card_35 rfl (lv_at hl 2 rfl) ?_
        refine lv_bipush (v := 7) hx hb dM_card_36 (by decide) ?_
        refine lv_icmp_ne (tgt := 49) hx hb dM_card_38 (by decide) (fun c4 => ?_) (fun c4 => ?_)
        · rw [if_neg c4] at he
          refine lv_aload_n hx hb dM_card_49 rfl (lv_at hl 0 rfl) ?_
          refine fw_get (X := X) (v := .ref (X.2.2 (3, 0, 0))) hx hb hts hin_M hown hK hW (0, 0, 0) mv0 rfl rfl 3 (by decide) (htb _ m_415 rfl) (fun _ h => h) rfl rfl dM_card_50 ?_
          refine lv_aload_n hx hb dM_card_53 rfl (lv_at hl 0 rfl) ?_
          refine lv_iload_n hx hb dM_card_54 rfl (lv_at hl 1 rfl) ?_
          have hv_a1 : vp_in a1 4 := (in_vi ‹¬ ms_in a1 0 3 = 0›)
          have hl_a1 := vi_lt hv_a1
          refine lv_eqi (vi_nI hv_a1) ?_
          refine fw_kp (va_runV (As := [.int (nI a1.toNatClampNeg)]) (rest := [.ref (X.2.2 (3, 0, 0))]) ⟨hx, hb, hml, hown, hts⟩ (cm_base l X hI σ a1.toNatClampNeg (by omega) ) (cwV 1 hts (tb_V m_491 m_488 m_490 m_10 m_31) rfl rfl rfl (by decide +kernel) ⟨Nat.le_of_ble_eq_true rfl, Nat.le_of_ble_eq_true rfl⟩) (fw_preV (X := X) hK hnb hW (0, 0, 0) mv0 rfl rfl [.int (nI a1.toNatClampNeg)]) rfl rfl hl.1 rfl (lv_room (Nat.le_of_ble_eq_true rfl)) dM_card_55 ⟨Nat.zero_le _, Nat.zero_le _⟩) hS (fun H locs hW hS => ?_)
          refine lv_eqi (mb_nat σ a1.toNatClampNeg) ?_
          have := mb_or σ a1.toNatClampNeg
          refine lv_iload_n hx hb dM_card_58 rfl (lv_at hl 2 rfl) ?_
          have hv_a2 : vp_in a2 8 := (in_vi ‹¬ ms_in a2 0 7 = 0›)
          have hl_a2 := vi_lt hv_a2
          refine lv_eqi (vi_nI hv_a2) ?_
          refine lv_iadd hx hb dM_card_59 ?_
          refine lv_eqi (nI_add (mb σ a1.toNatClampNeg) a2.toNatClampNeg) ?_
          refine fw_iald (X := X) hx hb hK hW (3, 0, 0) mv3 rfl 0 rfl ((mb σ a1.toNatClampNeg) + a2.toNatClampNeg) (nI_clamp (by omega)) (vp_in_nI (by omega) (by decide)) dM_card_60 ?_
          exact fw_iret hx hb hr hlocks hK hnb hW hS (by rw [he]) dM_card_61
        · rw [if_pos c4] at he
          refine lv_aload_n hx hb dM_card_41 rfl (lv_at hl 0 rfl) ?_
          refine lv_iload_n hx hb dM_card_42 rfl (lv_at hl 1 rfl) ?_
          have hv_a1 : vp_in a1 4 := (in_vi ‹¬ ms_in a1 0 3 = 0›)
          have hl_a1 := vi_lt hv_a1
          refine lv_eqi (vi_nI hv_a1) ?_
          refine fw_kp (va_runV (As := [.int (nI a1.toNatClampNeg)]) (rest := []) ⟨hx, hb, hml, hown, hts⟩ (cm_spent l X hI σ a1.toNatClampNeg (by omega) ) (cwV 1 hts (tb_V m_495 m_492 m_494 m_11 m_31) rfl rfl rfl (by decide +kernel) ⟨Nat.le_of_ble_eq_true rfl, Nat.le_of_ble_eq_true rfl⟩) (fw_preV (X := X) hK hnb hW (0, 0, 0) mv0 rfl rfl [.int (nI a1.toNatClampNeg)]) rfl rfl hl.1 rfl (lv_room (Nat.le_of_ble_eq_true rfl)) dM_card_43 ⟨Nat.zero_le _, Nat.zero_le _⟩) hS (fun H locs hW hS => ?_)
          refine lv_goto (tgt := 61) hx hb dM_card_46 (by decide) ?_
          exact fw_iret hx hb hr hlocks hK hnb hW hS (by rw [he]) dM_card_61
      · rw [if_pos c3] at he
        refine lv_aload_n hx hb dM_card_27 rfl (lv_at hl 0 rfl) ?_
        refine lv_iload_n hx hb dM_card_28 rfl (lv_at hl 1 rfl) ?_
        have hv_a1 : vp_in a1 4 := (in_vi ‹¬ ms_in a1 0 3 = 0›)
        have hl_a1 := vi_lt hv_a1
        refine lv_eqi (vi_nI hv_a1) ?_
        refine fw_kp (va_runV (As := [.int (nI a1.toNatClampNeg)]) (rest := []) ⟨hx, hb, hml, hown, hts⟩ (cm_counter l X hI σ a1.toNatClampNeg (by omega) ) (cwV 1 hts (tb_V m_519 m_516 m_518 m_17 m_31) rfl rfl rfl (by decide +kernel) ⟨Nat.le_of_ble_eq_true rfl, Nat.le_of_ble_eq_true rfl⟩) (fw_preV (X := X) hK hnb hW (0, 0, 0) mv0 rfl rfl [.int (nI a1.toNatClampNeg)]) rfl rfl hl.1 rfl (lv_room (Nat.le_of_ble_eq_true rfl)) dM_card_29 ⟨Nat.zero_le _, Nat.zero_le _⟩) hS (fun H locs hW hS => ?_)
        refine lv_goto (tgt := 61) hx hb dM_card_32 (by decide) ?_
        exact fw_iret hx hb hr hlocks hK hnb hW hS (by rw [he]) dM_card_61
    · rw [if_pos c2] at he
      refine lv_iconst (v := (-1)) hx hb dM_card_19 (by decide) ?_
      exact fw_iret hx hb hr hlocks hK hnb hW hS (by rw [he]) dM_card_20
def ms_logged (σ : fw_S) (a1 : Int32) (a2 : Int32) (a3 : Int32) : Int32 :=
  if (ms_in a1 0 3) = 0 then (-1) else if a2 < 0 then (-1) else if (σ (8, 0, 0) a1.toNatClampNeg) ≤ a2 then (-1) else if (ms_in a3 0 3) = 0 then (-1) else (σ (7, 0, 0) (((32 * a1.toNatClampNeg) + (4 * a2.toNatClampNeg)) + a3.toNatClampNeg))
set_option maxHeartbeats 4000000 in
set_option maxRecDepth 100000 in
theorem cm_logged (l : Launch) (X : fw_X) (hI : fw_I mV X) (σ : fw_S) (a1 : Int32) (a2 : Int32) (a3 : Int32) (hlg : ∀ v, v < 4 → vp_in (σ (8, 0, 0) v) 9) : fw_Mi fw_cl msh mV fw_tys l yM_logged wM_logged (fw_rm 1) X σ [.ref (X.2.2 (0, 0, 0)), .int a1, .int a2, .int a3] ((ms_logged σ a1 a2 a3, σ)) := by
  obtain ⟨out, he⟩ : ∃ z : Int32, z = ms_logged σ a1 a2 a3 := ⟨_, rfl⟩
  rw [← he]
  refine fw_Mi_of (cc := bM_logged) (maxL := 4) (ret := (some .int)) (by decide) rfl (Nat.le_of_ble_eq_true rfl) ?_
  intro p e s m below meth c ls hx hb hr hml hlocks hown hts hK hnb hW hl
  have hS : va_S (fw_A mV X) s.heap s.heap [] := va_S.rf
  have hA : ∀ t, mV t → fw_A mV X (X.2.2 t) := fun t h => ⟨t, h, rfl⟩
  have htb := tb_use hts
  have hl : lv_has ls 4 [(0, .ref (X.2.2 (0, 0, 0))), (1, .int a1), (2, .int a2), (3, .int a3)] := hl
  have hown : s.vm.findClass "TapOfficeModel" = some m.cls := hown
  unfold ms_logged at he
  refine lv_iload_n hx hb dM_logged_0 rfl (lv_at hl 1 rfl) ?_
  refine lv_iconst (v := 0) hx hb dM_logged_1 (by decide) ?_
  refine lv_iconst (v := 3) hx hb dM_logged_2 (by decide) ?_
  refine fw_kp (va_runS (As := [.int a1, .int 0, .int 3]) (rest := []) ⟨hx, hb, hml, hown, hts⟩ (cm_in l X hI σ a1 0 3 ) (va_cwS 3 hts (tb_S m_467 m_465 m_466 m_31) rfl rfl rfl (by decide +kernel) ⟨Nat.le_of_ble_eq_true rfl, Nat.le_of_ble_eq_true rfl⟩) (fw_preS (X := X) hK hnb hW [.int a1, .int 0, .int 3]) rfl rfl hl.1 rfl (lv_room (Nat.le_of_ble_eq_true rfl)) dM_logged_3 ⟨Nat.zero_le _, Nat.zero_le _⟩) hS (fun H locs hW hS => ?_)
  refine lv_if_eq (tgt := 50) hx hb dM_logged_6 (by decide) (fun c1 => ?_) (fun c1 => ?_)
  · rw [if_pos c1] at he
    refine lv_iconst (v := (-1)) hx hb dM_logged_50 (by decide) ?_
    exact fw_iret hx hb hr hlocks hK hnb hW hS (by rw [he]) dM_logged_51
  · rw [if_neg c1] at he
    refine lv_iload_n hx hb dM_logged_9 rfl (lv_at hl 2 rfl) ?_
    refine lv_if_lt (tgt := 50) hx hb dM_logged_10 (by decide) (fun c2 => ?_) (fun c2 => ?_)
    · rw [if_pos c2] at he
      refine lv_iconst (v := (-1)) hx hb dM_logged_50 (by decide) ?_
      exact fw_iret hx hb hr hlocks hK hnb hW hS (by rw [he]) dM_logged_51
    · rw [if_neg c2] at he
      refine lv_iload_n hx hb dM_logged_13 rfl (lv_at hl 2 rfl) ?_
      refine lv_aload_n hx hb dM_logged_14 rfl (lv_at hl 0 rfl) ?_
      refine fw_get (X := X) (v := .ref (X.2.2 (8, 0, 0))) hx hb hts hin_M hown hK hW (0, 0, 0) mv0 rfl rfl 8 (by decide) (htb _ m_420 rfl) (fun _ h => h) rfl rfl dM_logged_15 ?_
      refine lv_iload_n hx hb dM_logged_18 rfl (lv_at hl 1 rfl) ?_
      have hv_a1 : vp_in a1 4 := (in_vi ‹¬ ms_in a1 0 3 = 0›)
      have hl_a1 := vi_lt hv_a1
      refine lv_eqi (vi_nI hv_a1) ?_
      refine fw_iald (X := X) hx hb hK hW (8, 0, 0) mv8 rfl 0 rfl a1.toNatClampNeg (nI_clamp (by omega)) (vp_in_nI (by omega) (by decide)) dM_logged_19 ?_
      refine lv_icmp_ge (tgt := 50) hx hb dM_logged_20 (by decide) (fun c3 => ?_) (fun c3 => ?_)
      · rw [if_pos c3] at he
        refine lv_iconst (v := (-1)) hx hb dM_logged_50 (by decide) ?_
        exact fw_iret hx hb hr hlocks hK hnb hW hS (by rw [he]) dM_logged_51
      · rw [if_neg c3] at he
        refine lv_iload_n hx hb dM_logged_23 rfl (lv_at hl 3 rfl) ?_
        refine lv_iconst (v := 0) hx hb dM_logged_24 (by decide) ?_
        refine lv_iconst (v := 3) hx hb dM_logged_25 (by decide) ?_
        refine fw_kp (va_runS (As := [.int a3, .int 0, .int 3]) (rest := []) ⟨hx, hb, hml, hown, hts⟩ (cm_in l X hI σ a3 0 3 ) (va_cwS 3 hts (tb_S m_467 m_465 m_466 m_31) rfl rfl rfl (by decide +kernel) ⟨Nat.le_of_ble_eq_true rfl, Nat.le_of_ble_eq_true rfl⟩) (fw_preS (X := X) hK hnb hW [.int a3, .int 0, .int 3]) rfl rfl hl.1 rfl (lv_room (Nat.le_of_ble_eq_true rfl)) dM_logged_26 ⟨Nat.zero_le _, Nat.zero_le _⟩) hS (fun H locs hW hS => ?_)
        refine lv_if_eq (tgt := 50) hx hb dM_logged_29 (by decide) (fun c4 => ?_) (fun c4 => ?_)
        · rw [if_pos c4] at he
          refine lv_iconst (v := (-1)) hx hb dM_logged_50 (by decide) ?_
          exact fw_iret hx hb hr hlocks hK hnb hW hS (by rw [he]) dM_logged_51
        · rw [if_neg c4] at he
          refine lv_aload_n hx hb dM_logged_32 rfl (lv_at hl 0 rfl) ?_
          refine fw_get (X := X) (v := .ref (X.2.2 (7, 0, 0))) hx hb hts hin_M hown hK hW (0, 0, 0) mv0 rfl rfl 7 (by decide) (htb _ m_419 rfl) (fun _ h => h) rfl rfl dM_logged_33 ?_
          refine lv_bipush (v := 32) hx hb dM_logged_36 (by decide) ?_
          refine lv_iload_n hx hb dM_logged_38 rfl (lv_at hl 1 rfl) ?_
          refine lv_eqi (vi_nI hv_a1) ?_
          refine lv_imul hx hb dM_logged_39 ?_
          refine lv_eqi (pk_mul 32 a1.toNatClampNeg) ?_
          refine lv_iconst (v := 4) hx hb dM_logged_40 (by decide) ?_
          refine lv_iload_n hx hb dM_logged_41 rfl (lv_at hl 2 rfl) ?_
          have hv_a2 : vp_in a2 8 := (lg_i (hlg _ hl_a1) ‹¬ a2 < 0› ‹¬ σ (8, 0, 0) a1.toNatClampNeg ≤ a2›)
          have hl_a2 := vi_lt hv_a2
          refine lv_eqi (vi_nI hv_a2) ?_
          refine lv_imul hx hb dM_logged_42 ?_
          refine lv_eqi (pk_mul 4 a2.toNatClampNeg) ?_
          refine lv_iadd hx hb dM_logged_43 ?_
          refine lv_eqi (nI_add (32 * a1.toNatClampNeg) (4 * a2.toNatClampNeg)) ?_
          refine lv_iload_n hx hb dM_logged_44 rfl (lv_at hl 3 rfl) ?_
          have hv_a3 : vp_in a3 4 := (in_vi ‹¬ ms_in a3 0 3 = 0›)
          have hl_a3 := vi_lt hv_a3
          refine lv_eqi (vi_nI hv_a3) ?_
          refine lv_iadd hx hb dM_logged_45 ?_
          refine lv_eqi (nI_add ((32 * a1.toNatClampNeg) + (4 * a2.toNatClampNeg)) a3.toNatClampNeg) ?_
          refine fw_iald (X := X) hx hb hK hW (7, 0, 0) mv7 rfl 0 rfl (((32 * a1.toNatClampNeg) + (4 * a2.toNatClampNeg)) + a3.toNatClampNeg) (nI_clamp (by omega)) (vp_in_nI (by omega) (by decide)) dM_logged_46 ?_
          refine lv_goto (tgt := 51) hx hb dM_logged_47 (by decide) ?_
          exact fw_iret hx hb hr hlocks hK hnb hW hS (by rw [he]) dM_logged_51
def ms_sum_s1 (j : Nat) (rec : Nat → Int32 → Int32) (z3 : Int32) : Int32 :=
  rec (j + 1) z3
def ms_sum_lp (cd : Nat) (a2 : Int32) (σ : fw_S) : Nat → Nat → Int32 → Int32
  | 0, _, _ => 0
  | n + 1, j, x3 => if 520 ≤ j then x3 else if (σ (12, 0, 0) ((520 * cd) + j)) = a2 then ms_sum_s1 j (ms_sum_lp cd a2 σ n) (x3 + (σ (13, 0, 0) ((520 * cd) + j))) else (ms_sum_lp cd a2 σ n) (j + 1) x3
def ms_sum (σ : fw_S) (cd : Nat) (a2 : Int32) : Int32 :=
  ms_sum_lp cd a2 σ (520 + 1) 0 0
set_option maxHeartbeats 4000000 in
set_option maxRecDepth 100000 in
theorem cm_sum_lp {p : Program} {e : Env} {s : State} {m : MethodId} {below : List Frame} {meth : Method} {c : Code} {args : Array Value} (l : Launch) (X : fw_X) (hI : fw_I mV X) (σ : fw_S) (cd : Nat) (hcd : cd < 4) (a2 : Int32)    (out : Int32)
    (hx : p.tables.exec = Jvm.exec) (hb : c.code = bM_sum) (hr : meth.sig.returnType = (some .int)) (hml : c.maxLocals = 5) (hlocks : meth.locks = false) (hown : s.vm.findClass "TapOfficeModel" = some m.cls) (hts : ∀ w ∈ wM_sum, w.before args s = true) (hK : va_K X.1 fw_cl (fw_tys X.2.1) s) (hnb : va_Nw fw_nb s) :
    ∀ (n : Nat) (j : Nat) (x3 : Int32), j ≤ 520 → 520 + 1 ≤ j + n → ∀ (H : Heap) (locs : List Loc), fw_W fw_cl msh mV X σ H → va_S (fw_A mV X) s.heap H locs → ∀ (ls : Array Slot), lv_has ls 5 [(0, .ref (X.2.2 (0, 0, 0))), (1, .int (nI cd)), (2, .int a2), (3, .int x3), (4, .int (nI j))] → out = ms_sum_lp cd a2 σ n j x3 → W p l e (fw_rm 0) s m args below meth c H locs 0 0 (MQ below (va_Qi (fun r u => (r, u) = (out, σ)) (fun u t => fw_O fw_cl msh mV fw_tys X u t) (fw_A mV X)) args s 0 0 (fw_A mV X)) (F0 m 5 ls []) := by
  have hA : ∀ t, mV t → fw_A mV X (X.2.2 t) := fun t h => ⟨t, h, rfl⟩
  have htb := tb_use hts
  intro n
  induction n with
  | zero =>
    intro j x3 h1 h2
    exact absurd h2 (by omega)
  | succ n ih =>
    intro j x3 hj1 hj2 H locs hW hS ls hl he
    rw [ms_sum_lp] at he
    refine lv_iload hx hb dM_sum_5 (lv_at hl 4 rfl) ?_
    refine lv_sipush (v := 520) hx hb dM_sum_7 (by decide) ?_
    refine lv_icmp_ge (tgt := 52) hx hb dM_sum_10 (by decide) (fun c1 => ?_) (fun c1 => ?_)
    · replace c1 := (nI_leI (a := 520) (b := j) (by omega) (by omega)).mp c1
      rw [if_pos c1] at he
      refine lv_iload_n hx hb dM_sum_52 rfl (lv_at hl 3 rfl) ?_
      exact fw_iret hx hb hr hlocks hK hnb hW hS (by rw [he]) dM_sum_53
    · replace c1 := mt (nI_leI (a := 520) (b := j) (by omega) (by omega)).mpr c1
      rw [if_neg c1] at he
      refine lv_aload_n hx hb dM_sum_13 rfl (lv_at hl 0 rfl) ?_
      refine fw_get (X := X) (v := .ref (X.2.2 (12, 0, 0))) hx hb hts hin_M hown hK hW (0, 0, 0) mv0 rfl rfl 13 (by decide) (htb _ m_425 rfl) (fun _ h => h) rfl rfl dM_sum_14 ?_
      refine lv_sipush (v := 520) hx hb dM_sum_17 (by decide) ?_
      refine lv_iload_n hx hb dM_sum_20 rfl (lv_at hl 1 rfl) ?_
      refine lv_imul hx hb dM_sum_21 ?_
      refine lv_eqi (pk_mul 520 cd) ?_
      refine lv_iload hx hb dM_sum_22 (lv_at hl 4 rfl) ?_
      refine lv_iadd hx hb dM_sum_24 ?_
      refine lv_eqi (nI_add (520 * cd) j) ?_
      refine fw_iald (X := X) hx hb hK hW (12, 0, 0) mv12 rfl 0 rfl ((520 * cd) + j) (nI_clamp (by omega)) (vp_in_nI (by omega) (by decide)) dM_sum_25 ?_
      refine lv_iload_n hx hb dM_sum_26 rfl (lv_at hl 2 rfl) ?_
      refine lv_icmp_ne (tgt := 46) hx hb dM_sum_27 (by decide) (fun c2 => ?_) (fun c2 => ?_)
      · rw [if_neg c2] at he
        refine lv_iinc (v := nI (j + 1)) (lv' := [(4, .int (nI (j + 1))), (0, .ref (X.2.2 (0, 0, 0))), (1, .int (nI cd)), (2, .int a2), (3, .int x3)]) hx hb dM_sum_46 hl (k := 4) rfl (by exact nI_1 j) (by decide) rfl (fun ls hl => ?_)
        refine lv_goto (tgt := 5) hx hb dM_sum_49 (by decide) ?_
        exact ih (j + 1) x3 (by omega) (by omega) _ _ hW hS ls (lv_sub hl [1, 2, 3, 4, 0] rfl) he
      · rw [if_pos c2] at he
        refine lv_iload_n hx hb dM_sum_30 rfl (lv_at hl 3 rfl) ?_
        refine lv_aload_n hx hb dM_sum_31 rfl (lv_at hl 0 rfl) ?_
        refine fw_get (X := X) (v := .ref (X.2.2 (13, 0, 0))) hx hb hts hin_M hown hK hW (0, 0, 0) mv0 rfl rfl 14 (by decide) (htb _ m_426 rfl) (fun _ h => h) rfl rfl dM_sum_32 ?_
        refine lv_sipush (v := 520) hx hb dM_sum_35 (by decide) ?_
        refine lv_iload_n hx hb dM_sum_38 rfl (lv_at hl 1 rfl) ?_
        refine lv_imul hx hb dM_sum_39 ?_
        refine lv_eqi (pk_mul 520 cd) ?_
        refine lv_iload hx hb dM_sum_40 (lv_at hl 4 rfl) ?_
        refine lv_iadd hx hb dM_sum_42 ?_
        refine lv_eqi (nI_add (520 * cd) j) ?_
        refine fw_iald (X := X) hx hb hK hW (13, 0, 0) mv13 rfl 0 rfl ((520 * cd) + j) (nI_clamp (by omega)) (vp_in_nI (by omega) (by decide)) dM_sum_43 ?_
        refine lv_iadd hx hb dM_sum_44 ?_
        refine lv_topi (fun z3 e4 => ?_)
        try rw [← e4] at he
        unfold ms_sum_s1 at he
        refine lv_istore_n (lv' := [(3, .int z3), (0, .ref (X.2.2 (0, 0, 0))), (1, .int (nI cd)), (2, .int a2), (4, .int (nI j))]) hx hb dM_sum_45 rfl hl (by decide) rfl (fun ls hl => ?_)
        refine lv_iinc (v := nI (j + 1)) (lv' := [(4, .int (nI (j + 1))), (3, .int z3), (0, .ref (X.2.2 (0, 0, 0))), (1, .int (nI cd)), (2, .int a2)]) hx hb dM_sum_46 hl (k := 4) rfl (by exact nI_1 j) (by decide) rfl (fun ls hl => ?_)
        refine lv_goto (tgt := 5) hx hb dM_sum_49 (by decide) ?_
        exact ih (j + 1) z3 (by omega) (by omega) _ _ hW hS ls (lv_sub hl [2, 3, 4, 1, 0] rfl) he
set_option maxHeartbeats 4000000 in
set_option maxRecDepth 100000 in
theorem cm_sum (l : Launch) (X : fw_X) (hI : fw_I mV X) (σ : fw_S) (cd : Nat) (hcd : cd < 4) (a2 : Int32)  : fw_Mi fw_cl msh mV fw_tys l yM_sum wM_sum (fw_rm 0) X σ [.ref (X.2.2 (0, 0, 0)), .int (nI cd), .int a2] ((ms_sum σ cd a2, σ)) := by
  obtain ⟨out, he⟩ : ∃ z : Int32, z = ms_sum σ cd a2 := ⟨_, rfl⟩
  rw [← he]
  refine fw_Mi_of (cc := bM_sum) (maxL := 5) (ret := (some .int)) (by decide) rfl (Nat.le_of_ble_eq_true rfl) ?_
  intro p e s m below meth c ls hx hb hr hml hlocks hown hts hK hnb hW hl
  have hS : va_S (fw_A mV X) s.heap s.heap [] := va_S.rf
  have hA : ∀ t, mV t → fw_A mV X (X.2.2 t) := fun t h => ⟨t, h, rfl⟩
  have htb := tb_use hts
  have hl : lv_has ls 5 [(0, .ref (X.2.2 (0, 0, 0))), (1, .int (nI cd)), (2, .int a2)] := hl
  have hown : s.vm.findClass "TapOfficeModel" = some m.cls := hown
  unfold ms_sum at he
  refine lv_iconst (v := 0) hx hb dM_sum_0 (by decide) ?_
  refine lv_istore_n (lv' := [(3, .int 0), (0, .ref (X.2.2 (0, 0, 0))), (1, .int (nI cd)), (2, .int a2)]) hx hb dM_sum_1 rfl hl (by decide) rfl (fun ls hl => ?_)
  refine lv_iconst (v := 0) hx hb dM_sum_2 (by decide) ?_
  refine lv_istore (lv' := [(4, .int 0), (3, .int 0), (0, .ref (X.2.2 (0, 0, 0))), (1, .int (nI cd)), (2, .int a2)]) hx hb dM_sum_3 hl (by decide) rfl (fun ls hl => ?_)
  exact cm_sum_lp l X hI σ cd hcd a2   out hx hb hr hml hlocks hown hts hK hnb (520 + 1) 0 0 (by omega) (by omega) _ _ hW hS ls (lv_sub hl [2, 3, 4, 1, 0] rfl) he
def ms_known_lp (cd : Nat) (σ : fw_S) : Nat → Nat → Int32 → Int32
  | 0, _, _ => 0
  | n + 1, j, x2 => if 520 ≤ j then x2 else if (σ (12, 0, 0) ((520 * cd) + j)) ≤ 0 then (ms_known_lp cd σ n) (j + 1) x2 else (ms_known_lp cd σ n) (j + 1) (x2 + 1)
def ms_known (σ : fw_S) (cd : Nat) : Int32 :=
  ms_known_lp cd σ (520 + 1) 0 0
set_option maxHeartbeats 4000000 in
set_option maxRecDepth 100000 in
theorem cm_known_lp {p : Program} {e : Env} {s : State} {m : MethodId} {below : List Frame} {meth : Method} {c : Code} {args : Array Value} (l : Launch) (X : fw_X) (hI : fw_I mV X) (σ : fw_S) (cd : Nat) (hcd : cd < 4)    (out : Int32)
    (hx : p.tables.exec = Jvm.exec) (hb : c.code = bM_known) (hr : meth.sig.returnType = (some .int)) (hml : c.maxLocals = 4) (hlocks : meth.locks = false) (hown : s.vm.findClass "TapOfficeModel" = some m.cls) (hts : ∀ w ∈ wM_known, w.before args s = true) (hK : va_K X.1 fw_cl (fw_tys X.2.1) s) (hnb : va_Nw fw_nb s) :
    ∀ (n : Nat) (j : Nat) (x2 : Int32), j ≤ 520 → 520 + 1 ≤ j + n → ∀ (H : Heap) (locs : List Loc), fw_W fw_cl msh mV X σ H → va_S (fw_A mV X) s.heap H locs → ∀ (ls : Array Slot), lv_has ls 4 [(0, .ref (X.2.2 (0, 0, 0))), (1, .int (nI cd)), (2, .int x2), (3, .int (nI j))] → out = ms_known_lp cd σ n j x2 → W p l e (fw_rm 0) s m args below meth c H locs 0 0 (MQ below (va_Qi (fun r u => (r, u) = (out, σ)) (fun u t => fw_O fw_cl msh mV fw_tys X u t) (fw_A mV X)) args s 0 0 (fw_A mV X)) (F0 m 4 ls []) := by
  have hA : ∀ t, mV t → fw_A mV X (X.2.2 t) := fun t h => ⟨t, h, rfl⟩
  have htb := tb_use hts
  intro n
  induction n with
  | zero =>
    intro j x2 h1 h2
    exact absurd h2 (by omega)
  | succ n ih =>
    intro j x2 hj1 hj2 H locs hW hS ls hl he
    rw [ms_known_lp] at he
    refine lv_iload_n hx hb dM_known_4 rfl (lv_at hl 3 rfl) ?_
    refine lv_sipush (v := 520) hx hb dM_known_5 (by decide) ?_
    refine lv_icmp_ge (tgt := 35) hx hb dM_known_8 (by decide) (fun c1 => ?_) (fun c1 => ?_)
    · replace c1 := (nI_leI (a := 520) (b := j) (by omega) (by omega)).mp c1
      rw [if_pos c1] at he
      refine lv_iload_n hx hb dM_known_35 rfl (lv_at hl 2 rfl) ?_
      exact fw_iret hx hb hr hlocks hK hnb hW hS (by rw [he]) dM_known_36
    · replace c1 := mt (nI_leI (a := 520) (b := j) (by omega) (by omega)).mpr c1
      rw [if_neg c1] at he
      refine lv_aload_n hx hb dM_known_11 rfl (lv_at hl 0 rfl) ?_
      refine fw_get (X := X) (v := .ref (X.2.2 (12, 0, 0))) hx hb hts hin_M hown hK hW (0, 0, 0) mv0 rfl rfl 13 (by decide) (htb _ m_425 rfl) (fun _ h => h) rfl rfl dM_known_12 ?_
      refine lv_sipush (v := 520) hx hb dM_known_15 (by decide) ?_
      refine lv_iload_n hx hb dM_known_18 rfl (lv_at hl 1 rfl) ?_
      refine lv_imul hx hb dM_known_19 ?_
      refine lv_eqi (pk_mul 520 cd) ?_
      refine lv_iload_n hx hb dM_known_20 rfl (lv_at hl 3 rfl) ?_
      refine lv_iadd hx hb dM_known_21 ?_
      refine lv_eqi (nI_add (520 * cd) j) ?_
      refine fw_iald (X := X) hx hb hK hW (12, 0, 0) mv12 rfl 0 rfl ((520 * cd) + j) (nI_clamp (by omega)) (vp_in_nI (by omega) (by decide)) dM_known_22 ?_
      refine lv_if_le (tgt := 29) hx hb dM_known_23 (by decide) (fun c2 => ?_) (fun c2 => ?_)
      · rw [if_pos c2] at he
        refine lv_iinc (v := nI (j + 1)) (lv' := [(3, .int (nI (j + 1))), (0, .ref (X.2.2 (0, 0, 0))), (1, .int (nI cd)), (2, .int x2)]) hx hb dM_known_29 hl (k := 3) rfl (by exact nI_1 j) (by decide) rfl (fun ls hl => ?_)
        refine lv_goto (tgt := 4) hx hb dM_known_32 (by decide) ?_
        exact ih (j + 1) x2 (by omega) (by omega) _ _ hW hS ls (lv_sub hl [1, 2, 3, 0] rfl) he
      · rw [if_neg c2] at he
        refine lv_iinc (v := x2 + 1) (lv' := [(2, .int (x2 + 1)), (0, .ref (X.2.2 (0, 0, 0))), (1, .int (nI cd)), (3, .int (nI j))]) hx hb dM_known_26 hl (k := 2) rfl (by rfl) (by decide) rfl (fun ls hl => ?_)
        refine lv_iinc (v := nI (j + 1)) (lv' := [(3, .int (nI (j + 1))), (2, .int (x2 + 1)), (0, .ref (X.2.2 (0, 0, 0))), (1, .int (nI cd))]) hx hb dM_known_29 hl (k := 3) rfl (by exact nI_1 j) (by decide) rfl (fun ls hl => ?_)
        refine lv_goto (tgt := 4) hx hb dM_known_32 (by decide) ?_
        exact ih (j + 1) (x2 + 1) (by omega) (by omega) _ _ hW hS ls (lv_sub hl [2, 3, 1, 0] rfl) he
set_option maxHeartbeats 4000000 in
set_option maxRecDepth 100000 in
theorem cm_known (l : Launch) (X : fw_X) (hI : fw_I mV X) (σ : fw_S) (cd : Nat) (hcd : cd < 4)  : fw_Mi fw_cl msh mV fw_tys l yM_known wM_known (fw_rm 0) X σ [.ref (X.2.2 (0, 0, 0)), .int (nI cd)] ((ms_known σ cd, σ)) := by
  obtain ⟨out, he⟩ : ∃ z : Int32, z = ms_known σ cd := ⟨_, rfl⟩
  rw [← he]
  refine fw_Mi_of (cc := bM_known) (maxL := 4) (ret := (some .int)) (by decide) rfl (Nat.le_of_ble_eq_true rfl) ?_
  intro p e s m below meth c ls hx hb hr hml hlocks hown hts hK hnb hW hl
  have hS : va_S (fw_A mV X) s.heap s.heap [] := va_S.rf
  have hA : ∀ t, mV t → fw_A mV X (X.2.2 t) := fun t h => ⟨t, h, rfl⟩
  have htb := tb_use hts
  have hl : lv_has ls 4 [(0, .ref (X.2.2 (0, 0, 0))), (1, .int (nI cd))] := hl
  have hown : s.vm.findClass "TapOfficeModel" = some m.cls := hown
  unfold ms_known at he
  refine lv_iconst (v := 0) hx hb dM_known_0 (by decide) ?_
  refine lv_istore_n (lv' := [(2, .int 0), (0, .ref (X.2.2 (0, 0, 0))), (1, .int (nI cd))]) hx hb dM_known_1 rfl hl (by decide) rfl (fun ls hl => ?_)
  refine lv_iconst (v := 0) hx hb dM_known_2 (by decide) ?_
  refine lv_istore_n (lv' := [(3, .int 0), (2, .int 0), (0, .ref (X.2.2 (0, 0, 0))), (1, .int (nI cd))]) hx hb dM_known_3 rfl hl (by decide) rfl (fun ls hl => ?_)
  exact cm_known_lp l X hI σ cd hcd   out hx hb hr hml hlocks hown hts hK hnb (520 + 1) 0 0 (by omega) (by omega) _ _ hW hS ls (lv_sub hl [2, 3, 1, 0] rfl) he
def ms_greatest_lp (cd : Nat) (σ : fw_S) : Nat → Nat → Int32 → Int32
  | 0, _, _ => 0
  | n + 1, j, x2 => if 520 ≤ j then x2 else if (σ (12, 0, 0) ((520 * cd) + j)) ≤ 0 then (ms_greatest_lp cd σ n) (j + 1) x2 else (ms_greatest_lp cd σ n) (j + 1) (nI j)
def ms_greatest (σ : fw_S) (cd : Nat) : Int32 :=
  ms_greatest_lp cd σ (520 + 1) 0 0
set_option maxHeartbeats 4000000 in
set_option maxRecDepth 100000 in
theorem cm_greatest_lp {p : Program} {e : Env} {s : State} {m : MethodId} {below : List Frame} {meth : Method} {c : Code} {args : Array Value} (l : Launch) (X : fw_X) (hI : fw_I mV X) (σ : fw_S) (cd : Nat) (hcd : cd < 4)    (out : Int32)
    (hx : p.tables.exec = Jvm.exec) (hb : c.code = bM_greatest) (hr : meth.sig.returnType = (some .int)) (hml : c.maxLocals = 4) (hlocks : meth.locks = false) (hown : s.vm.findClass "TapOfficeModel" = some m.cls) (hts : ∀ w ∈ wM_greatest, w.before args s = true) (hK : va_K X.1 fw_cl (fw_tys X.2.1) s) (hnb : va_Nw fw_nb s) :
    ∀ (n : Nat) (j : Nat) (x2 : Int32), j ≤ 520 → 520 + 1 ≤ j + n → ∀ (H : Heap) (locs : List Loc), fw_W fw_cl msh mV X σ H → va_S (fw_A mV X) s.heap H locs → ∀ (ls : Array Slot), lv_has ls 4 [(0, .ref (X.2.2 (0, 0, 0))), (1, .int (nI cd)), (2, .int x2), (3, .int (nI j))] → out = ms_greatest_lp cd σ n j x2 → W p l e (fw_rm 0) s m args below meth c H locs 0 0 (MQ below (va_Qi (fun r u => (r, u) = (out, σ)) (fun u t => fw_O fw_cl msh mV fw_tys X u t) (fw_A mV X)) args s 0 0 (fw_A mV X)) (F0 m 4 ls []) := by
  have hA : ∀ t, mV t → fw_A mV X (X.2.2 t) := fun t h => ⟨t, h, rfl⟩
  have htb := tb_use hts
  intro n
  induction n with
  | zero =>
    intro j x2 h1 h2
    exact absurd h2 (by omega)
  | succ n ih =>
    intro j x2 hj1 hj2 H locs hW hS ls hl he
    rw [ms_greatest_lp] at he
    refine lv_iload_n hx hb dM_greatest_4 rfl (lv_at hl 3 rfl) ?_
    refine lv_sipush (v := 520) hx hb dM_greatest_5 (by decide) ?_
    refine lv_icmp_ge (tgt := 34) hx hb dM_greatest_8 (by decide) (fun c1 => ?_) (fun c1 => ?_)
    · replace c1 := (nI_leI (a := 520) (b := j) (by omega) (by omega)).mp c1
      rw [if_pos c1] at he
      refine lv_iload_n hx hb dM_greatest_34 rfl (lv_at hl 2 rfl) ?_
      exact fw_iret hx hb hr hlocks hK hnb hW hS (by rw [he]) dM_greatest_35
    · replace c1 := mt (nI_leI (a := 520) (b := j) (by omega) (by omega)).mpr c1
      rw [if_neg c1] at he
      refine lv_aload_n hx hb dM_greatest_11 rfl (lv_at hl 0 rfl) ?_
      refine fw_get (X := X) (v := .ref (X.2.2 (12, 0, 0))) hx hb hts hin_M hown hK hW (0, 0, 0) mv0 rfl rfl 13 (by decide) (htb _ m_425 rfl) (fun _ h => h) rfl rfl dM_greatest_12 ?_
      refine lv_sipush (v := 520) hx hb dM_greatest_15 (by decide) ?_
      refine lv_iload_n hx hb dM_greatest_18 rfl (lv_at hl 1 rfl) ?_
      refine lv_imul hx hb dM_greatest_19 ?_
      refine lv_eqi (pk_mul 520 cd) ?_
      refine lv_iload_n hx hb dM_greatest_20 rfl (lv_at hl 3 rfl) ?_
      refine lv_iadd hx hb dM_greatest_21 ?_
      refine lv_eqi (nI_add (520 * cd) j) ?_
      refine fw_iald (X := X) hx hb hK hW (12, 0, 0) mv12 rfl 0 rfl ((520 * cd) + j) (nI_clamp (by omega)) (vp_in_nI (by omega) (by decide)) dM_greatest_22 ?_
      refine lv_if_le (tgt := 28) hx hb dM_greatest_23 (by decide) (fun c2 => ?_) (fun c2 => ?_)
      · rw [if_pos c2] at he
        refine lv_iinc (v := nI (j + 1)) (lv' := [(3, .int (nI (j + 1))), (0, .ref (X.2.2 (0, 0, 0))), (1, .int (nI cd)), (2, .int x2)]) hx hb dM_greatest_28 hl (k := 3) rfl (by exact nI_1 j) (by decide) rfl (fun ls hl => ?_)
        refine lv_goto (tgt := 4) hx hb dM_greatest_31 (by decide) ?_
        exact ih (j + 1) x2 (by omega) (by omega) _ _ hW hS ls (lv_sub hl [1, 2, 3, 0] rfl) he
      · rw [if_neg c2] at he
        refine lv_iload_n hx hb dM_greatest_26 rfl (lv_at hl 3 rfl) ?_
        refine lv_istore_n (lv' := [(2, .int (nI j)), (0, .ref (X.2.2 (0, 0, 0))), (1, .int (nI cd)), (3, .int (nI j))]) hx hb dM_greatest_27 rfl hl (by decide) rfl (fun ls hl => ?_)
        refine lv_iinc (v := nI (j + 1)) (lv' := [(3, .int (nI (j + 1))), (2, .int (nI j)), (0, .ref (X.2.2 (0, 0, 0))), (1, .int (nI cd))]) hx hb dM_greatest_28 hl (k := 3) rfl (by exact nI_1 j) (by decide) rfl (fun ls hl => ?_)
        refine lv_goto (tgt := 4) hx hb dM_greatest_31 (by decide) ?_
        exact ih (j + 1) (nI j) (by omega) (by omega) _ _ hW hS ls (lv_sub hl [2, 3, 1, 0] rfl) he
set_option maxHeartbeats 4000000 in
set_option maxRecDepth 100000 in
theorem cm_greatest (l : Launch) (X : fw_X) (hI : fw_I mV X) (σ : fw_S) (cd : Nat) (hcd : cd < 4)  : fw_Mi fw_cl msh mV fw_tys l yM_greatest wM_greatest (fw_rm 0) X σ [.ref (X.2.2 (0, 0, 0)), .int (nI cd)] ((ms_greatest σ cd, σ)) := by
  obtain ⟨out, he⟩ : ∃ z : Int32, z = ms_greatest σ cd := ⟨_, rfl⟩
  rw [← he]
  refine fw_Mi_of (cc := bM_greatest) (maxL := 4) (ret := (some .int)) (by decide) rfl (Nat.le_of_ble_eq_true rfl) ?_
  intro p e s m below meth c ls hx hb hr hml hlocks hown hts hK hnb hW hl
  have hS : va_S (fw_A mV X) s.heap s.heap [] := va_S.rf
  have hA : ∀ t, mV t → fw_A mV X (X.2.2 t) := fun t h => ⟨t, h, rfl⟩
  have htb := tb_use hts
  have hl : lv_has ls 4 [(0, .ref (X.2.2 (0, 0, 0))), (1, .int (nI cd))] := hl
  have hown : s.vm.findClass "TapOfficeModel" = some m.cls := hown
  unfold ms_greatest at he
  refine lv_iconst (v := 0) hx hb dM_greatest_0 (by decide) ?_
  refine lv_istore_n (lv' := [(2, .int 0), (0, .ref (X.2.2 (0, 0, 0))), (1, .int (nI cd))]) hx hb dM_greatest_1 rfl hl (by decide) rfl (fun ls hl => ?_)
  refine lv_iconst (v := 0) hx hb dM_greatest_2 (by decide) ?_
  refine lv_istore_n (lv' := [(3, .int 0), (2, .int 0), (0, .ref (X.2.2 (0, 0, 0))), (1, .int (nI cd))]) hx hb dM_greatest_3 rfl hl (by decide) rfl (fun ls hl => ?_)
  exact cm_greatest_lp l X hI σ cd hcd   out hx hb hr hml hlocks hown hts hK hnb (520 + 1) 0 0 (by omega) (by omega) _ _ hW hS ls (lv_sub hl [2, 3, 1, 0] rfl) he
def ms_lost_s6 (j : Nat) (x2 : Int32) (rec : Nat → Int32 → Int32 → Int32 → Int32) (z16 : Int32) : Int32 :=
  rec (j + 1) x2 (nI j) z16
def ms_lost_s8 (j : Nat) (rec : Nat → Int32 → Int32 → Int32 → Int32) (z18 : Int32) (z20 : Int32) : Int32 :=
  rec (j + 1) z18 (nI j) z20
def ms_lost_s7 (cd : Nat) (σ : fw_S) (j : Nat) (rec : Nat → Int32 → Int32 → Int32 → Int32) (z18 : Int32) : Int32 :=
  ms_lost_s8 j rec z18 (σ (14, 0, 0) ((520 * cd) + j))
def ms_lost_s5 (cd : Nat) (σ : fw_S) (j : Nat) (x2 : Int32) (x3 : Int32) (x4 : Int32) (rec : Nat → Int32 → Int32 → Int32 → Int32) (z13 : Int32) : Int32 :=
  if (nI j) = (x3 + 1) then ms_lost_s6 j x2 rec (σ (14, 0, 0) ((520 * cd) + j)) else ms_lost_s7 cd σ j rec (x2 + (x4 - z13))
def ms_lost_s2 (j : Nat) (x2 : Int32) (rec : Nat → Int32 → Int32 → Int32 → Int32) (z7 : Int32) : Int32 :=
  rec (j + 1) x2 (nI j) z7
def ms_lost_s4 (j : Nat) (rec : Nat → Int32 → Int32 → Int32 → Int32) (z9 : Int32) (z11 : Int32) : Int32 :=
  rec (j + 1) z9 (nI j) z11
def ms_lost_s3 (cd : Nat) (σ : fw_S) (j : Nat) (rec : Nat → Int32 → Int32 → Int32 → Int32) (z9 : Int32) : Int32 :=
  ms_lost_s4 j rec z9 (σ (14, 0, 0) ((520 * cd) + j))
def ms_lost_s1 (cd : Nat) (σ : fw_S) (j : Nat) (x2 : Int32) (x3 : Int32) (x4 : Int32) (rec : Nat → Int32 → Int32 → Int32 → Int32) (z4 : Int32) : Int32 :=
  if (nI j) = (x3 + 1) then ms_lost_s2 j x2 rec (σ (14, 0, 0) ((520 * cd) + j)) else ms_lost_s3 cd σ j rec (x2 + (x4 - z4))
def ms_lost_lp (cd : Nat) (σ : fw_S) : Nat → Nat → Int32 → Int32 → Int32 → Int32
  | 0, _, _, _, _ => 0
  | n + 1, j, x2, x3, x4 => if 520 ≤ j then x2 else if (σ (12, 0, 0) ((520 * cd) + j)) = 0 then (ms_lost_lp cd σ n) (j + 1) x2 x3 x4 else if (σ (12, 0, 0) ((520 * cd) + j)) = 1 then ms_lost_s5 cd σ j x2 x3 x4 (ms_lost_lp cd σ n) ((σ (14, 0, 0) ((520 * cd) + j)) + (σ (13, 0, 0) ((520 * cd) + j))) else ms_lost_s1 cd σ j x2 x3 x4 (ms_lost_lp cd σ n) ((σ (14, 0, 0) ((520 * cd) + j)) - (σ (13, 0, 0) ((520 * cd) + j)))
def ms_lost (σ : fw_S) (cd : Nat) : Int32 :=
  ms_lost_lp cd σ (520 + 1) 1 0 0 0
set_option maxHeartbeats 4000000 in
set_option maxRecDepth 100000 in
theorem cm_lost_lp {p : Program} {e : Env} {s : State} {m : MethodId} {below : List Frame} {meth : Method} {c : Code} {args : Array Value} (l : Launch) (X : fw_X) (hI : fw_I mV X) (σ : fw_S) (cd : Nat) (hcd : cd < 4)    (out : Int32)
    (hx : p.tables.exec = Jvm.exec) (hb : c.code = bM_lost) (hr : meth.sig.returnType = (some .int)) (hml : c.maxLocals = 8) (hlocks : meth.locks = false) (hown : s.vm.findClass "TapOfficeModel" = some m.cls) (hts : ∀ w ∈ wM_lost, w.before args s = true) (hK : va_K X.1 fw_cl (fw_tys X.2.1) s) (hnb : va_Nw fw_nb s) :
    ∀ (n : Nat) (j : Nat) (x2 x3 x4 : Int32), j ≤ 520 → 520 + 1 ≤ j + n → ∀ (H : Heap) (locs : List Loc), fw_W fw_cl msh mV X σ H → va_S (fw_A mV X) s.heap H locs → ∀ (ls : Array Slot), lv_has ls 8 [(0, .ref (X.2.2 (0, 0, 0))), (1, .int (nI cd)), (2, .int x2), (3, .int x3), (4, .int x4), (5, .int (nI j))] → out = ms_lost_lp cd σ n j x2 x3 x4 → W p l e (fw_rm 0) s m args below meth c H locs 0 0 (MQ below (va_Qi (fun r u => (r, u) = (out, σ)) (fun u t => fw_O fw_cl msh mV fw_tys X u t) (fw_A mV X)) args s 0 0 (fw_A mV X)) (F0 m 10 ls []) := by
  have hA : ∀ t, mV t → fw_A mV X (X.2.2 t) := fun t h => ⟨t, h, rfl⟩
  have htb := tb_use hts
  intro n
  induction n with
  | zero =>
    intro j x2 x3 x4 h1 h2
    exact absurd h2 (by omega)
  | succ n ih =>
    intro j x2 x3 x4 hj1 hj2 H locs hW hS ls hl he
    rw [ms_lost_lp] at he
    refine lv_iload hx hb dM_lost_10 (lv_at hl 5 rfl) ?_
    refine lv_sipush (v := 520) hx hb dM_lost_12 (by decide) ?_
    refine lv_icmp_ge (tgt := 121) hx hb dM_lost_15 (by decide) (fun c1 => ?_) (fun c1 => ?_)
    · replace c1 := (nI_leI (a := 520) (b := j) (by omega) (by omega)).mp c1
      rw [if_pos c1] at he
      refine lv_iload_n hx hb dM_lost_121 rfl (lv_at hl 2 rfl) ?_
      exact fw_iret hx hb hr hlocks hK hnb hW hS (by rw [he]) dM_lost_122
    · replace c1 := mt (nI_leI (a := 520) (b := j) (by omega) (by omega)).mpr c1
      rw [if_neg c1] at he
      refine lv_sipush (v := 520) hx hb dM_lost_18 (by decide) ?_
      refine lv_iload_n hx hb dM_lost_21 rfl (lv_at hl 1 rfl) ?_
      refine lv_imul hx hb dM_lost_22 ?_
      refine lv_eqi (pk_mul 520 cd) ?_
      refine lv_iload hx hb dM_lost_23 (lv_at hl 5 rfl) ?_
      refine lv_iadd hx hb dM_lost_25 ?_
      refine lv_eqi (nI_add (520 * cd) j) ?_
      refine lv_istore (lv' := [(6, .int (nI ((520 * cd) + j))), (0, .ref (X.2.2 (0, 0, 0))), (1, .int (nI cd)), (2, .int x2), (3, .int x3), (4, .int x4), (5, .int (nI j))]) hx hb dM_lost_26 hl (by decide) rfl (fun ls hl => ?_)
      refine lv_aload_n hx hb dM_lost_28 rfl (lv_at hl 1 rfl) ?_
      refine fw_get (X := X) (v := .ref (X.2.2 (12, 0, 0))) hx hb hts hin_M hown hK hW (0, 0, 0) mv0 rfl rfl 13 (by decide) (htb _ m_425 rfl) (fun _ h => h) rfl rfl dM_lost_29 ?_
      refine lv_iload hx hb dM_lost_32 (lv_at hl 0 rfl) ?_
      refine fw_iald (X := X) hx hb hK hW (12, 0, 0) mv12 rfl 0 rfl ((520 * cd) + j) (nI_clamp (by omega)) (vp_in_nI (by omega) (by decide)) dM_lost_34 ?_
      refine lv_if_ne (tgt := 41) hx hb dM_lost_35 (by decide) (fun c2 => ?_) (fun c2 => ?_)
      · rw [if_neg c2] at he
        refine lv_aload_n hx hb dM_lost_41 rfl (lv_at hl 1 rfl) ?_
        refine fw_get (X := X) (v := .ref (X.2.2 (12, 0, 0))) hx hb hts hin_M hown hK hW (0, 0, 0) mv0 rfl rfl 13 (by decide) (htb _ m_425 rfl) (fun _ h => h) rfl rfl dM_lost_42 ?_
        refine lv_iload hx hb dM_lost_45 (lv_at hl 0 rfl) ?_
        refine fw_iald (X := X) hx hb hK hW (12, 0, 0) mv12 rfl 0 rfl ((520 * cd) + j) (nI_clamp (by omega)) (vp_in_nI (by omega) (by decide)) dM_lost_47 ?_
        refine lv_iconst (v := 1) hx hb dM_lost_48 (by decide) ?_
        refine lv_icmp_ne (tgt := 70) hx hb dM_lost_49 (by decide) (fun c3 => ?_) (fun c3 => ?_)
        · rw [if_neg c3] at he
          refine lv_aload_n hx hb dM_lost_70 rfl (lv_at hl 1 rfl) ?_
          refine fw_get (X := X) (v := .ref (X.2.2 (14, 0, 0))) hx hb hts hin_M hown hK hW (0, 0, 0) mv0 rfl rfl 15 (by decide) (htb _ m_427 rfl) (fun _ h => h) rfl rfl dM_lost_71 ?_
          refine lv_iload hx hb dM_lost_74 (lv_at hl 0 rfl) ?_
          refine fw_iald (X := X) hx hb hK hW (14, 0, 0) mv14 rfl 0 rfl ((520 * cd) + j) (nI_clamp (by omega)) (vp_in_nI (by omega) (by decide)) dM_lost_76 ?_
          refine lv_aload_n hx hb dM_lost_77 rfl (lv_at hl 1 rfl) ?_
          refine fw_get (X := X) (v := .ref (X.2.2 (13, 0, 0))) hx hb hts hin_M hown hK hW (0, 0, 0) mv0 rfl rfl 14 (by decide) (htb _ m_426 rfl) (fun _ h => h) rfl rfl dM_lost_78 ?_
          refine lv_iload hx hb dM_lost_81 (lv_at hl 0 rfl) ?_
          refine fw_iald (X := X) hx hb hK hW (13, 0, 0) mv13 rfl 0 rfl ((520 * cd) + j) (nI_clamp (by omega)) (vp_in_nI (by omega) (by decide)) dM_lost_83 ?_
          refine lv_isub hx hb dM_lost_84 ?_
          refine lv_topi (fun z4 e5 => ?_)
          try rw [← e5] at he
          unfold ms_lost_s1 at he
          refine lv_istore (lv' := [(7, .int z4), (6, .int (nI ((520 * cd) + j))), (0, .ref (X.2.2 (0, 0, 0))), (1, .int (nI cd)), (2, .int x2), (3, .int x3), (4, .int x4), (5, .int (nI j))]) hx hb dM_lost_85 hl (by decide) rfl (fun ls hl => ?_)
          refine lv_iload hx hb dM_lost_87 (lv_at hl 7 rfl) ?_
          refine lv_iload_n hx hb dM_lost_89 rfl (lv_at hl 5 rfl) ?_
          refine lv_iconst (v := 1) hx hb dM_lost_90 (by decide) ?_
          refine lv_iadd hx hb dM_lost_91 ?_
          refine lv_icmp_eq (tgt := 103) hx hb dM_lost_92 (by decide) (fun c6 => ?_) (fun c6 => ?_)
          · rw [if_pos c6] at he
            refine lv_iload hx hb dM_lost_103 (lv_at hl 7 rfl) ?_
            refine lv_istore_n (lv' := [(3, .int (nI j)), (7, .int z4), (6, .int (nI ((520 * cd) + j))), (0, .ref (X.2.2 (0, 0, 0))), (1, .int (nI cd)), (2, .int x2), (4, .int x4), (5, .int (nI j))]) hx hb dM_lost_105 rfl hl (by decide) rfl (fun ls hl => ?_)
            refine lv_aload_n hx hb dM_lost_106 rfl (lv_at hl 3 rfl) ?_
            refine fw_get (X := X) (v := .ref (X.2.2 (14, 0, 0))) hx hb hts hin_M hown hK hW (0, 0, 0) mv0 rfl rfl 15 (by decide) (htb _ m_427 rfl) (fun _ h => h) rfl rfl dM_lost_107 ?_
            refine lv_iload hx hb dM_lost_110 (lv_at hl 2 rfl) ?_
            refine fw_iald (X := X) hx hb hK hW (14, 0, 0) mv14 rfl 0 rfl ((520 * cd) + j) (nI_clamp (by omega)) (vp_in_nI (by omega) (by decide)) dM_lost_112 ?_
            refine lv_topi (fun z7 e8 => ?_)
            try rw [← e8] at he
            unfold ms_lost_s2 at he
            refine lv_istore (lv' := [(4, .int z7), (3, .int (nI j)), (7, .int z4), (6, .int (nI ((520 * cd) + j))), (0, .ref (X.2.2 (0, 0, 0))), (1, .int (nI cd)), (2, .int x2), (5, .int (nI j))]) hx hb dM_lost_113 hl (by decide) rfl (fun ls hl => ?_)
            refine lv_iinc (v := nI (j + 1)) (lv' := [(5, .int (nI (j + 1))), (4, .int z7), (3, .int (nI j)), (7, .int z4), (6, .int (nI ((520 * cd) + j))), (0, .ref (X.2.2 (0, 0, 0))), (1, .int (nI cd)), (2, .int x2)]) hx hb dM_lost_115 hl (k := 7) rfl (by exact nI_1 j) (by decide) rfl (fun ls hl => ?_)
            refine lv_goto (tgt := 10) hx hb dM_lost_118 (by decide) ?_
            exact ih (j + 1) x2 (nI j) z7 (by omega) (by omega) _ _ hW hS ls (lv_sub hl [5, 6, 7, 2, 1, 0] rfl) he
          · rw [if_neg c6] at he
            refine lv_iload_n hx hb dM_lost_95 rfl (lv_at hl 4 rfl) ?_
            refine lv_iload hx hb dM_lost_96 (lv_at hl 6 rfl) ?_
            refine lv_iload hx hb dM_lost_98 (lv_at hl 0 rfl) ?_
            refine lv_isub hx hb dM_lost_100 ?_
            refine lv_iadd hx hb dM_lost_101 ?_
            refine lv_topi (fun z9 e10 => ?_)
            try rw [← e10] at he
            unfold ms_lost_s3 at he
            refine lv_istore_n (lv' := [(2, .int z9), (7, .int z4), (6, .int (nI ((520 * cd) + j))), (0, .ref (X.2.2 (0, 0, 0))), (1, .int (nI cd)), (3, .int x3), (4, .int x4), (5, .int (nI j))]) hx hb dM_lost_102 rfl hl (by decide) rfl (fun ls hl => ?_)
            refine lv_iload hx hb dM_lost_103 (lv_at hl 7 rfl) ?_
            refine lv_istore_n (lv' := [(3, .int (nI j)), (2, .int z9), (7, .int z4), (6, .int (nI ((520 * cd) + j))), (0, .ref (X.2.2 (0, 0, 0))), (1, .int (nI cd)), (4, .int x4), (5, .int (nI j))]) hx hb dM_lost_105 rfl hl (by decide) rfl (fun ls hl => ?_)
            refine lv_aload_n hx hb dM_lost_106 rfl (lv_at hl 4 rfl) ?_
            refine fw_get (X := X) (v := .ref (X.2.2 (14, 0, 0))) hx hb hts hin_M hown hK hW (0, 0, 0) mv0 rfl rfl 15 (by decide) (htb _ m_427 rfl) (fun _ h => h) rfl rfl dM_lost_107 ?_
            refine lv_iload hx hb dM_lost_110 (lv_at hl 3 rfl) ?_
            refine fw_iald (X := X) hx hb hK hW (14, 0, 0) mv14 rfl 0 rfl ((520 * cd) + j) (nI_clamp (by omega)) (vp_in_nI (by omega) (by decide)) dM_lost_112 ?_
            refine lv_topi (fun z11 e12 => ?_)
            try rw [← e12] at he
            unfold ms_lost_s4 at he
            refine lv_istore (lv' := [(4, .int z11), (3, .int (nI j)), (2, .int z9), (7, .int z4), (6, .int (nI ((520 * cd) + j))), (0, .ref (X.2.2 (0, 0, 0))), (1, .int (nI cd)), (5, .int (nI j))]) hx hb dM_lost_113 hl (by decide) rfl (fun ls hl => ?_)
            refine lv_iinc (v := nI (j + 1)) (lv' := [(5, .int (nI (j + 1))), (4, .int z11), (3, .int (nI j)), (2, .int z9), (7, .int z4), (6, .int (nI ((520 * cd) + j))), (0, .ref (X.2.2 (0, 0, 0))), (1, .int (nI cd))]) hx hb dM_lost_115 hl (k := 7) rfl (by exact nI_1 j) (by decide) rfl (fun ls hl => ?_)
            refine lv_goto (tgt := 10) hx hb dM_lost_118 (by decide) ?_
            exact ih (j + 1) z9 (nI j) z11 (by omega) (by omega) _ _ hW hS ls (lv_sub hl [6, 7, 3, 2, 1, 0] rfl) he
        · rw [if_pos c3] at he
          refine lv_aload_n hx hb dM_lost_52 rfl (lv_at hl 1 rfl) ?_
          refine fw_get (X := X) (v := .ref (X.2.2 (14, 0, 0))) hx hb hts hin_M hown hK hW (0, 0, 0) mv0 rfl rfl 15 (by decide) (htb _ m_427 rfl) (fun _ h => h) rfl rfl dM_lost_53 ?_
          refine lv_iload hx hb dM_lost_56 (lv_at hl 0 rfl) ?_
          refine fw_iald (X := X) hx hb hK hW (14, 0, 0) mv14 rfl 0 rfl ((520 * cd) + j) (nI_clamp (by omega)) (vp_in_nI (by omega) (by decide)) dM_lost_58 ?_
          refine lv_aload_n hx hb dM_lost_59 rfl (lv_at hl 1 rfl) ?_
          refine fw_get (X := X) (v := .ref (X.2.2 (13, 0, 0))) hx hb hts hin_M hown hK hW (0, 0, 0) mv0 rfl rfl 14 (by decide) (htb _ m_426 rfl) (fun _ h => h) rfl rfl dM_lost_60 ?_
          refine lv_iload hx hb dM_lost_63 (lv_at hl 0 rfl) ?_
          refine fw_iald (X := X) hx hb hK hW (13, 0, 0) mv13 rfl 0 rfl ((520 * cd) + j) (nI_clamp (by omega)) (vp_in_nI (by omega) (by decide)) dM_lost_65 ?_
          refine lv_iadd hx hb dM_lost_66 ?_
          refine lv_goto (tgt := 85) hx hb dM_lost_67 (by decide) ?_
          refine lv_topi (fun z13 e14 => ?_)
          try rw [← e14] at he
          unfold ms_lost_s5 at he
          refine lv_istore (lv' := [(7, .int z13), (6, .int (nI ((520 * cd) + j))), (0, .ref (X.2.2 (0, 0, 0))), (1, .int (nI cd)), (2, .int x2), (3, .int x3), (4, .int x4), (5, .int (nI j))]) hx hb dM_lost_85 hl (by decide) rfl (fun ls hl => ?_)
          refine lv_iload hx hb dM_lost_87 (lv_at hl 7 rfl) ?_
          refine lv_iload_n hx hb dM_lost_89 rfl (lv_at hl 5 rfl) ?_
          refine lv_iconst (v := 1) hx hb dM_lost_90 (by decide) ?_
          refine lv_iadd hx hb dM_lost_91 ?_
          refine lv_icmp_eq (tgt := 103) hx hb dM_lost_92 (by decide) (fun c15 => ?_) (fun c15 => ?_)
          · rw [if_pos c15] at he
            refine lv_iload hx hb dM_lost_103 (lv_at hl 7 rfl) ?_
            refine lv_istore_n (lv' := [(3, .int (nI j)), (7, .int z13), (6, .int (nI ((520 * cd) + j))), (0, .ref (X.2.2 (0, 0, 0))), (1, .int (nI cd)), (2, .int x2), (4, .int x4), (5, .int (nI j))]) hx hb dM_lost_105 rfl hl (by decide) rfl (fun ls hl => ?_)
            refine lv_aload_n hx hb dM_lost_106 rfl (lv_at hl 3 rfl) ?_
            refine fw_get (X := X) (v := .ref (X.2.2 (14, 0, 0))) hx hb hts hin_M hown hK hW (0, 0, 0) mv0 rfl rfl 15 (by decide) (htb _ m_427 rfl) (fun _ h => h) rfl rfl dM_lost_107 ?_
            refine lv_iload hx hb dM_lost_110 (lv_at hl 2 rfl) ?_
            refine fw_iald (X := X) hx hb hK hW (14, 0, 0) mv14 rfl 0 rfl ((520 * cd) + j) (nI_clamp (by omega)) (vp_in_nI (by omega) (by decide)) dM_lost_112 ?_
            refine lv_topi (fun z16 e17 => ?_)
            try rw [← e17] at he
            unfold ms_lost_s6 at he
            refine lv_istore (lv' := [(4, .int z16), (3, .int (nI j)), (7, .int z13), (6, .int (nI ((520 * cd) + j))), (0, .ref (X.2.2 (0, 0, 0))), (1, .int (nI cd)), (2, .int x2), (5, .int (nI j))]) hx hb dM_lost_113 hl (by decide) rfl (fun ls hl => ?_)
            refine lv_iinc (v := nI (j + 1)) (lv' := [(5, .int (nI (j + 1))), (4, .int z16), (3, .int (nI j)), (7, .int z13), (6, .int (nI ((520 * cd) + j))), (0, .ref (X.2.2 (0, 0, 0))), (1, .int (nI cd)), (2, .int x2)]) hx hb dM_lost_115 hl (k := 7) rfl (by exact nI_1 j) (by decide) rfl (fun ls hl => ?_)
            refine lv_goto (tgt := 10) hx hb dM_lost_118 (by decide) ?_
            exact ih (j + 1) x2 (nI j) z16 (by omega) (by omega) _ _ hW hS ls (lv_sub hl [5, 6, 7, 2, 1, 0] rfl) he
          · rw [if_neg c15] at he
            refine lv_iload_n hx hb dM_lost_95 rfl (lv_at hl 4 rfl) ?_
            refine lv_iload hx hb dM_lost_96 (lv_at hl 6 rfl) ?_
            refine lv_iload hx hb dM_lost_98 (lv_at hl 0 rfl) ?_
            refine lv_isub hx hb dM_lost_100 ?_
            refine lv_iadd hx hb dM_lost_101 ?_
            refine lv_topi (fun z18 e19 => ?_)
            try rw [← e19] at he
            unfold ms_lost_s7 at he
            refine lv_istore_n (lv' := [(2, .int z18), (7, .int z13), (6, .int (nI ((520 * cd) + j))), (0, .ref (X.2.2 (0, 0, 0))), (1, .int (nI cd)), (3, .int x3), (4, .int x4), (5, .int (nI j))]) hx hb dM_lost_102 rfl hl (by decide) rfl (fun ls hl => ?_)
            refine lv_iload hx hb dM_lost_103 (lv_at hl 7 rfl) ?_
            refine lv_istore_n (lv' := [(3, .int (nI j)), (2, .int z18), (7, .int z13), (6, .int (nI ((520 * cd) + j))), (0, .ref (X.2.2 (0, 0, 0))), (1, .int (nI cd)), (4, .int x4), (5, .int (nI j))]) hx hb dM_lost_105 rfl hl (by decide) rfl (fun ls hl => ?_)
            refine lv_aload_n hx hb dM_lost_106 rfl (lv_at hl 4 rfl) ?_
            refine fw_get (X := X) (v := .ref (X.2.2 (14, 0, 0))) hx hb hts hin_M hown hK hW (0, 0, 0) mv0 rfl rfl 15 (by decide) (htb _ m_427 rfl) (fun _ h => h) rfl rfl dM_lost_107 ?_
            refine lv_iload hx hb dM_lost_110 (lv_at hl 3 rfl) ?_
            refine fw_iald (X := X) hx hb hK hW (14, 0, 0) mv14 rfl 0 rfl ((520 * cd) + j) (nI_clamp (by omega)) (vp_in_nI (by omega) (by decide)) dM_lost_112 ?_
            refine lv_topi (fun z20 e21 => ?_)
            try rw [← e21] at he
            unfold ms_lost_s8 at he
            refine lv_istore (lv' := [(4, .int z20), (3, .int (nI j)), (2, .int z18), (7, .int z13), (6, .int (nI ((520 * cd) + j))), (0, .ref (X.2.2 (0, 0, 0))), (1, .int (nI cd)), (5, .int (nI j))]) hx hb dM_lost_113 hl (by decide) rfl (fun ls hl => ?_)
            refine lv_iinc (v := nI (j + 1)) (lv' := [(5, .int (nI (j + 1))), (4, .int z20), (3, .int (nI j)), (2, .int z18), (7, .int z13), (6, .int (nI ((520 * cd) + j))), (0, .ref (X.2.2 (0, 0, 0))), (1, .int (nI cd))]) hx hb dM_lost_115 hl (k := 7) rfl (by exact nI_1 j) (by decide) rfl (fun ls hl => ?_)
            refine lv_goto (tgt := 10) hx hb dM_lost_118 (by decide) ?_
            exact ih (j + 1) z18 (nI j) z20 (by omega) (by omega) _ _ hW hS ls (lv_sub hl [6, 7, 3, 2, 1, 0] rfl) he
      · rw [if_pos c2] at he
        refine lv_goto (tgt := 115) hx hb dM_lost_38 (by decide) ?_
        refine lv_iinc (v := nI (j + 1)) (lv' := [(5, .int (nI (j + 1))), (6, .int (nI ((520 * cd) + j))), (0, .ref (X.2.2 (0, 0, 0))), (1, .int (nI cd)), (2, .int x2), (3, .int x3), (4, .int x4)]) hx hb dM_lost_115 hl (k := 6) rfl (by exact nI_1 j) (by decide) rfl (fun ls hl => ?_)
        refine lv_goto (tgt := 10) hx hb dM_lost_118 (by decide) ?_
        exact ih (j + 1) x2 x3 x4 (by omega) (by omega) _ _ hW hS ls (lv_sub hl [2, 3, 4, 5, 6, 0] rfl) he
set_option maxHeartbeats 4000000 in
set_option maxRecDepth 100000 in
theorem cm_lost (l : Launch) (X : fw_X) (hI : fw_I mV X) (σ : fw_S) (cd : Nat) (hcd : cd < 4)  : fw_Mi fw_cl msh mV fw_tys l yM_lost wM_lost (fw_rm 0) X σ [.ref (X.2.2 (0, 0, 0)), .int (nI cd)] ((ms_lost σ cd, σ)) := by
  obtain ⟨out, he⟩ : ∃ z : Int32, z = ms_lost σ cd := ⟨_, rfl⟩
  rw [← he]
  refine fw_Mi_of (cc := bM_lost) (maxL := 8) (ret := (some .int)) (by decide) rfl (Nat.le_of_ble_eq_true rfl) ?_
  intro p e s m below meth c ls hx hb hr hml hlocks hown hts hK hnb hW hl
  have hS : va_S (fw_A mV X) s.heap s.heap [] := va_S.rf
  have hA : ∀ t, mV t → fw_A mV X (X.2.2 t) := fun t h => ⟨t, h, rfl⟩
  have htb := tb_use hts
  have hl : lv_has ls 8 [(0, .ref (X.2.2 (0, 0, 0))), (1, .int (nI cd))] := hl
  have hown : s.vm.findClass "TapOfficeModel" = some m.cls := hown
  unfold ms_lost at he
  refine lv_iconst (v := 0) hx hb dM_lost_0 (by decide) ?_
  refine lv_istore_n (lv' := [(2, .int 0), (0, .ref (X.2.2 (0, 0, 0))), (1, .int (nI cd))]) hx hb dM_lost_1 rfl hl (by decide) rfl (fun ls hl => ?_)
  refine lv_iconst (v := 0) hx hb dM_lost_2 (by decide) ?_
  refine lv_istore_n (lv' := [(3, .int 0), (2, .int 0), (0, .ref (X.2.2 (0, 0, 0))), (1, .int (nI cd))]) hx hb dM_lost_3 rfl hl (by decide) rfl (fun ls hl => ?_)
  refine lv_iconst (v := 0) hx hb dM_lost_4 (by decide) ?_
  refine lv_istore (lv' := [(4, .int 0), (3, .int 0), (2, .int 0), (0, .ref (X.2.2 (0, 0, 0))), (1, .int (nI cd))]) hx hb dM_lost_5 hl (by decide) rfl (fun ls hl => ?_)
  refine lv_iconst (v := 1) hx hb dM_lost_7 (by decide) ?_
  refine lv_istore (lv' := [(5, .int 1), (4, .int 0), (3, .int 0), (2, .int 0), (0, .ref (X.2.2 (0, 0, 0))), (1, .int (nI cd))]) hx hb dM_lost_8 hl (by decide) rfl (fun ls hl => ?_)
  exact cm_lost_lp l X hI σ cd hcd   out hx hb hr hml hlocks hown hts hK hnb (520 + 1) 1 0 0 0 (by omega) (by omega) _ _ hW hS ls (lv_sub hl [4, 5, 3, 2, 1, 0] rfl) he
def ms_office (σ : fw_S) (a1 : Int32) (a2 : Int32) : Int32 :=
  if (ms_in a1 0 3) = 0 then (-1) else if a2 = 0 then (ms_known σ a1.toNatClampNeg) else if a2 = 1 then (ms_greatest σ a1.toNatClampNeg) else if a2 = 2 then ((ms_greatest σ a1.toNatClampNeg) - (ms_known σ a1.toNatClampNeg)) else if a2 = 3 then (ms_lost σ a1.toNatClampNeg) else if a2 = 4 then (ms_sum σ a1.toNatClampNeg 1) else if a2 = 5 then (ms_sum σ a1.toNatClampNeg 2) else (-1)
set_option maxHeartbeats 4000000 in
set_option maxRecDepth 100000 in
theorem cm_office (l : Launch) (X : fw_X) (hI : fw_I mV X) (σ : fw_S) (a1 : Int32) (a2 : Int32)  : fw_Mi fw_cl msh mV fw_tys l yM_office wM_office (fw_rm 2) X σ [.ref (X.2.2 (0, 0, 0)), .int a1, .int a2] ((ms_office σ a1 a2, σ)) := by
  obtain ⟨out, he⟩ : ∃ z : Int32, z = ms_office σ a1 a2 := ⟨_, rfl⟩
  rw [← he]
  refine fw_Mi_of (cc := bM_office) (maxL := 3) (ret := (some .int)) (by decide) rfl (Nat.le_of_ble_eq_true rfl) ?_
  intro p e s m below meth c ls hx hb hr hml hlocks hown hts hK hnb hW hl
  have hS : va_S (fw_A mV X) s.heap s.heap [] := va_S.rf
  have hA : ∀ t, mV t → fw_A mV X (X.2.2 t) := fun t h => ⟨t, h, rfl⟩
  have htb := tb_use hts
  have hl : lv_has ls 3 [(0, .ref (X.2.2 (0, 0, 0))), (1, .int a1), (2, .int a2)] := hl
  have hown : s.vm.findClass "TapOfficeModel" = some m.cls := hown
  unfold ms_office at he
  refine lv_iload_n hx hb dM_office_0 rfl (lv_at hl 1 rfl) ?_
  refine lv_iconst (v := 0) hx hb dM_office_1 (by decide) ?_
  refine lv_iconst (v := 3) hx hb dM_office_2 (by decide) ?_
  refine fw_kp (va_runS (As := [.int a1, .int 0, .int 3]) (rest := []) ⟨hx, hb, hml, hown, hts⟩ (cm_in l X hI σ a1 0 3 ) (va_cwS 3 hts (tb_S m_467 m_465 m_466 m_31) rfl rfl rfl (by decide +kernel) ⟨Nat.le_of_ble_eq_true rfl, Nat.le_of_ble_eq_true rfl⟩) (fw_preS (X := X) hK hnb hW [.int a1, .int 0, .int 3]) rfl rfl hl.1 rfl (lv_room (Nat.le_of_ble_eq_true rfl)) dM_office_3 ⟨Nat.zero_le _, Nat.zero_le _⟩) hS (fun H locs hW hS => ?_)
  refine lv_if_ne (tgt := 11) hx hb dM_office_6 (by decide) (fun c1 => ?_) (fun c1 => ?_)
  · rw [if_neg c1] at he
    refine lv_iload_n hx hb dM_office_11 rfl (lv_at hl 2 rfl) ?_
    by_cases c3 : a2 = 0
    · rw [if_pos c3] at he
      refine lv_tableIn (tgt := 52) hx hb dM_office_12 (by rw [c3]; decide) (by rw [c3]; decide) (by rw [c3]; rfl) (by decide) ?_
      refine lv_aload_n hx hb dM_office_52 rfl (lv_at hl 0 rfl) ?_
      refine lv_iload_n hx hb dM_office_53 rfl (lv_at hl 1 rfl) ?_
      have hv_a1 : vp_in a1 4 := (in_vi ‹¬ ms_in a1 0 3 = 0›)
      have hl_a1 := vi_lt hv_a1
      refine lv_eqi (vi_nI hv_a1) ?_
      refine fw_kp (va_runV (As := [.int (nI a1.toNatClampNeg)]) (rest := []) ⟨hx, hb, hml, hown, hts⟩ (cm_known l X hI σ a1.toNatClampNeg (by omega) ) (cwV 1 hts (tb_V m_559 m_556 m_558 m_20 m_31) rfl rfl rfl (by decide +kernel) ⟨Nat.le_of_ble_eq_true rfl, Nat.le_of_ble_eq_true rfl⟩) (fw_preV (X := X) hK hnb hW (0, 0, 0) mv0 rfl rfl [.int (nI a1.toNatClampNeg)]) rfl rfl hl.1 rfl (lv_room (Nat.le_of_ble_eq_true rfl)) dM_office_54 ⟨Nat.zero_le _, Nat.zero_le _⟩) hS (fun H locs hW hS => ?_)
      exact fw_iret hx hb hr hlocks hK hnb hW hS (by rw [he]) dM_office_57
    · rw [if_neg c3] at he
      by_cases c4 : a2 = 1
      · rw [if_pos c4] at he
        refine lv_tableIn (tgt := 58) hx hb dM_office_12 (by rw [c4]; decide) (by rw [c4]; decide) (by rw [c4]; rfl) (by decide) ?_
        refine lv_aload_n hx hb dM_office_58 rfl (lv_at hl 0 rfl) ?_
        refine lv_iload_n hx hb dM_office_59 rfl (lv_at hl 1 rfl) ?_
        have hv_a1 : vp_in a1 4 := (in_vi ‹¬ ms_in a1 0 3 = 0›)
        have hl_a1 := vi_lt hv_a1
        refine lv_eqi (vi_nI hv_a1) ?_
        refine fw_kp (va_runV (As := [.int (nI a1.toNatClampNeg)]) (rest := []) ⟨hx, hb, hml, hown, hts⟩ (cm_greatest l X hI σ a1.toNatClampNeg (by omega) ) (cwV 1 hts (tb_V m_563 m_560 m_562 m_21 m_31) rfl rfl rfl (by decide +kernel) ⟨Nat.le_of_ble_eq_true rfl, Nat.le_of_ble_eq_true rfl⟩) (fw_preV (X := X) hK hnb hW (0, 0, 0) mv0 rfl rfl [.int (nI a1.toNatClampNeg)]) rfl rfl hl.1 rfl (lv_room (Nat.le_of_ble_eq_true rfl)) dM_office_60 ⟨Nat.zero_le _, Nat.zero_le _⟩) hS (fun H locs hW hS => ?_)
        exact fw_iret hx hb hr hlocks hK hnb hW hS (by rw [he]) dM_office_63
      · rw [if_neg c4] at he
        by_cases c5 : a2 = 2
        · rw [if_pos c5] at he
          refine lv_tableIn (tgt := 64) hx hb dM_office_12 (by rw [c5]; decide) (by rw [c5]; decide) (by rw [c5]; rfl) (by decide) ?_
          refine lv_aload_n hx hb dM_office_64 rfl (lv_at hl 0 rfl) ?_
          refine lv_iload_n hx hb dM_office_65 rfl (lv_at hl 1 rfl) ?_
          have hv_a1 : vp_in a1 4 := (in_vi ‹¬ ms_in a1 0 3 = 0›)
          have hl_a1 := vi_lt hv_a1
          refine lv_eqi (vi_nI hv_a1) ?_
          refine fw_kp (va_runV (As := [.int (nI a1.toNatClampNeg)]) (rest := []) ⟨hx, hb, hml, hown, hts⟩ (cm_greatest l X hI σ a1.toNatClampNeg (by omega) ) (cwV 1 hts (tb_V m_563 m_560 m_562 m_21 m_31) rfl rfl rfl (by decide +kernel) ⟨Nat.le_of_ble_eq_true rfl, Nat.le_of_ble_eq_true rfl⟩) (fw_preV (X := X) hK hnb hW (0, 0, 0) mv0 rfl rfl [.int (nI a1.toNatClampNeg)]) rfl rfl hl.1 rfl (lv_room (Nat.le_of_ble_eq_true rfl)) dM_office_66 ⟨Nat.zero_le _, Nat.zero_le _⟩) hS (fun H locs hW hS => ?_)
          refine lv_aload_n hx hb dM_office_69 rfl (lv_at hl 0 rfl) ?_
          refine lv_iload_n hx hb dM_office_70 rfl (lv_at hl 1 rfl) ?_
          refine lv_eqi (vi_nI hv_a1) ?_
          refine fw_kp (va_runV (As := [.int (nI a1.toNatClampNeg)]) (rest := [.int (ms_greatest σ a1.toNatClampNeg)]) ⟨hx, hb, hml, hown, hts⟩ (cm_known l X hI σ a1.toNatClampNeg (by omega) ) (cwV 1 hts (tb_V m_559 m_556 m_558 m_20 m_31) rfl rfl rfl (by decide +kernel) ⟨Nat.le_of_ble_eq_true rfl, Nat.le_of_ble_eq_true rfl⟩) (fw_preV (X := X) hK hnb hW (0, 0, 0) mv0 rfl rfl [.int (nI a1.toNatClampNeg)]) rfl rfl hl.1 rfl (lv_room (Nat.le_of_ble_eq_true rfl)) dM_office_71 ⟨Nat.zero_le _, Nat.zero_le _⟩) hS (fun H locs hW hS => ?_)
          refine lv_isub hx hb dM_office_74 ?_
          exact fw_iret hx hb hr hlocks hK hnb hW hS (by rw [he]) dM_office_75
        · rw [if_neg c5] at he
          by_cases c6 : a2 = 3
          · rw [if_pos c6] at he
            refine lv_tableIn (tgt := 76) hx hb dM_office_12 (by rw [c6]; decide) (by rw [c6]; decide) (by rw [c6]; rfl) (by decide) ?_
            refine lv_aload_n hx hb dM_office_76 rfl (lv_at hl 0 rfl) ?_
            refine lv_iload_n hx hb dM_office_77 rfl (lv_at hl 1 rfl) ?_
            have hv_a1 : vp_in a1 4 := (in_vi ‹¬ ms_in a1 0 3 = 0›)
            have hl_a1 := vi_lt hv_a1
            refine lv_eqi (vi_nI hv_a1) ?_
            refine fw_kp (va_runV (As := [.int (nI a1.toNatClampNeg)]) (rest := []) ⟨hx, hb, hml, hown, hts⟩ (cm_lost l X hI σ a1.toNatClampNeg (by omega) ) (cwV 1 hts (tb_V m_567 m_564 m_566 m_22 m_31) rfl rfl rfl (by decide +kernel) ⟨Nat.le_of_ble_eq_true rfl, Nat.le_of_ble_eq_true rfl⟩) (fw_preV (X := X) hK hnb hW (0, 0, 0) mv0 rfl rfl [.int (nI a1.toNatClampNeg)]) rfl rfl hl.1 rfl (lv_room (Nat.le_of_ble_eq_true rfl)) dM_office_78 ⟨Nat.zero_le _, Nat.zero_le _⟩) hS (fun H locs hW hS => ?_)
            exact fw_iret hx hb hr hlocks hK hnb hW hS (by rw [he]) dM_office_81
          · rw [if_neg c6] at he
            by_cases c7 : a2 = 4
            · rw [if_pos c7] at he
              refine lv_tableIn (tgt := 82) hx hb dM_office_12 (by rw [c7]; decide) (by rw [c7]; decide) (by rw [c7]; rfl) (by decide) ?_
              refine lv_aload_n hx hb dM_office_82 rfl (lv_at hl 0 rfl) ?_
              refine lv_iload_n hx hb dM_office_83 rfl (lv_at hl 1 rfl) ?_
              have hv_a1 : vp_in a1 4 := (in_vi ‹¬ ms_in a1 0 3 = 0›)
              have hl_a1 := vi_lt hv_a1
              refine lv_eqi (vi_nI hv_a1) ?_
              refine lv_iconst (v := 1) hx hb dM_office_84 (by decide) ?_
              refine fw_kp (va_runV (As := [.int (nI a1.toNatClampNeg), .int 1]) (rest := []) ⟨hx, hb, hml, hown, hts⟩ (cm_sum l X hI σ a1.toNatClampNeg (by omega) 1 ) (cwV 2 hts (tb_V m_571 m_568 m_570 m_23 m_31) rfl rfl rfl (by decide +kernel) ⟨Nat.le_of_ble_eq_true rfl, Nat.le_of_ble_eq_true rfl⟩) (fw_preV (X := X) hK hnb hW (0, 0, 0) mv0 rfl rfl [.int (nI a1.toNatClampNeg), .int 1]) rfl rfl hl.1 rfl (lv_room (Nat.le_of_ble_eq_true rfl)) dM_office_85 ⟨Nat.zero_le _, Nat.zero_le _⟩) hS (fun H locs hW hS => ?_)
              exact fw_iret hx hb hr hlocks hK hnb hW hS (by rw [he]) dM_office_88
            · rw [if_neg c7] at he
              by_cases c8 : a2 = 5
              · rw [if_pos c8] at he
                refine lv_tableIn (tgt := 89) hx hb dM_office_12 (by rw [c8]; decide) (by rw [c8]; decide) (by rw [c8]; rfl) (by decide) ?_
                refine lv_aload_n hx hb dM_office_89 rfl (lv_at hl 0 rfl) ?_
                refine lv_iload_n hx hb dM_office_90 rfl (lv_at hl 1 rfl) ?_
                have hv_a1 : vp_in a1 4 := (in_vi ‹¬ ms_in a1 0 3 = 0›)
                have hl_a1 := vi_lt hv_a1
                refine lv_eqi (vi_nI hv_a1) ?_
                refine lv_iconst (v := 2) hx hb dM_office_91 (by decide) ?_
                refine fw_kp (va_runV (As := [.int (nI a1.toNatClampNeg), .int 2]) (rest := []) ⟨hx, hb, hml, hown, hts⟩ (cm_sum l X hI σ a1.toNatClampNeg (by omega) 2 ) (cwV 2 hts (tb_V m_571 m_568 m_570 m_23 m_31) rfl rfl rfl (by decide +kernel) ⟨Nat.le_of_ble_eq_true rfl, Nat.le_of_ble_eq_true rfl⟩) (fw_preV (X := X) hK hnb hW (0, 0, 0) mv0 rfl rfl [.int (nI a1.toNatClampNeg), .int 2]) rfl rfl hl.1 rfl (lv_room (Nat.le_of_ble_eq_true rfl)) dM_office_92 ⟨Nat.zero_le _, Nat.zero_le _⟩) hS (fun H locs hW hS => ?_)
                exact fw_iret hx hb hr hlocks hK hnb hW hS (by rw [he]) dM_office_95
              · rw [if_neg c8] at he
                refine lv_tableOut (tgt := 96) hx hb dM_office_12 (sw_out6 c3 c4 c5 c6 c7 c8) (by decide) ?_
                refine lv_iconst (v := (-1)) hx hb dM_office_96 (by decide) ?_
                exact fw_iret hx hb hr hlocks hK hnb hW hS (by rw [he]) dM_office_97
  · rw [if_pos c1] at he
    refine lv_iconst (v := (-1)) hx hb dM_office_9 (by decide) ?_
    exact fw_iret hx hb hr hlocks hK hnb hW hS (by rw [he]) dM_office_10
def ms_income (σ : fw_S) (a1 : Int32) : Int32 :=
  if (ms_in a1 0 3) = 0 then (-1) else (σ (11, 0, 0) a1.toNatClampNeg)
set_option maxHeartbeats 4000000 in
set_option maxRecDepth 100000 in
theorem cm_income (l : Launch) (X : fw_X) (hI : fw_I mV X) (σ : fw_S) (a1 : Int32)  : fw_Mi fw_cl msh mV fw_tys l yM_income wM_income (fw_rm 1) X σ [.ref (X.2.2 (0, 0, 0)), .int a1] ((ms_income σ a1, σ)) := by
  obtain ⟨out, he⟩ : ∃ z : Int32, z = ms_income σ a1 := ⟨_, rfl⟩
  rw [← he]
  refine fw_Mi_of (cc := bM_income) (maxL := 2) (ret := (some .int)) (by decide) rfl (Nat.le_of_ble_eq_true rfl) ?_
  intro p e s m below meth c ls hx hb hr hml hlocks hown hts hK hnb hW hl
  have hS : va_S (fw_A mV X) s.heap s.heap [] := va_S.rf
  have hA : ∀ t, mV t → fw_A mV X (X.2.2 t) := fun t h => ⟨t, h, rfl⟩
  have htb := tb_use hts
  have hl : lv_has ls 2 [(0, .ref (X.2.2 (0, 0, 0))), (1, .int a1)] := hl
  have hown : s.vm.findClass "TapOfficeModel" = some m.cls := hown
  unfold ms_income at he
  refine lv_iload_n hx hb dM_income_0 rfl (lv_at hl 1 rfl) ?_
  refine lv_iconst (v := 0) hx hb dM_income_1 (by decide) ?_
  refine lv_iconst (v := 3) hx hb dM_income_2 (by decide) ?_
  refine fw_kp (va_runS (As := [.int a1, .int 0, .int 3]) (rest := []) ⟨hx, hb, hml, hown, hts⟩ (cm_in l X hI σ a1 0 3 ) (va_cwS 3 hts (tb_S m_467 m_465 m_466 m_31) rfl rfl rfl (by decide +kernel) ⟨Nat.le_of_ble_eq_true rfl, Nat.le_of_ble_eq_true rfl⟩) (fw_preS (X := X) hK hnb hW [.int a1, .int 0, .int 3]) rfl rfl hl.1 rfl (lv_room (Nat.le_of_ble_eq_true rfl)) dM_income_3 ⟨Nat.zero_le _, Nat.zero_le _⟩) hS (fun H locs hW hS => ?_)
  refine lv_if_eq (tgt := 18) hx hb dM_income_6 (by decide) (fun c1 => ?_) (fun c1 => ?_)
  · rw [if_pos c1] at he
    refine lv_iconst (v := (-1)) hx hb dM_income_18 (by decide) ?_
    exact fw_iret hx hb hr hlocks hK hnb hW hS (by rw [he]) dM_income_19
  · rw [if_neg c1] at he
    refine lv_aload_n hx hb dM_income_9 rfl (lv_at hl 0 rfl) ?_
    refine fw_get (X := X) (v := .ref (X.2.2 (11, 0, 0))) hx hb hts hin_M hown hK hW (0, 0, 0) mv0 rfl rfl 11 (by decide) (htb _ m_423 rfl) (fun _ h => h) rfl rfl dM_income_10 ?_
    refine lv_iload_n hx hb dM_income_13 rfl (lv_at hl 1 rfl) ?_
    have hv_a1 : vp_in a1 4 := (in_vi ‹¬ ms_in a1 0 3 = 0›)
    have hl_a1 := vi_lt hv_a1
    refine lv_eqi (vi_nI hv_a1) ?_
    refine fw_iald (X := X) hx hb hK hW (11, 0, 0) mv11 rfl 0 rfl a1.toNatClampNeg (nI_clamp (by omega)) (vp_in_nI (by omega) (by decide)) dM_income_14 ?_
    refine lv_goto (tgt := 19) hx hb dM_income_15 (by decide) ?_
    exact fw_iret hx hb hr hlocks hK hnb hW hS (by rw [he]) dM_income_19
def ms_count_s1 (σ : fw_S) (j : Nat) (x3 : Int32) (rec : Nat → Int32 → Int32 → Int32) (z6 : Int32) : Int32 :=
  if (σ (10, 0, 0) j) = 0 then rec (j + 1) z6 x3 else rec (j + 1) z6 (x3 + 1)
def ms_count_lp (a1 : Int32) (σ : fw_S) : Nat → Nat → Int32 → Int32 → Int32
  | 0, _, _, _ => 0
  | n + 1, j, x2, x3 => if 4 ≤ j then if a1 = 0 then (σ (0, 0, 0) 2) else if a1 = 1 then x2 else if a1 = 2 then (σ (0, 0, 0) 12) else if a1 = 3 then x3 else (-1) else ms_count_s1 σ j x3 (ms_count_lp a1 σ n) (x2 + (σ (8, 0, 0) j))
def ms_count (σ : fw_S) (a1 : Int32) : Int32 :=
  ms_count_lp a1 σ (4 + 1) 0 0 0
set_option maxHeartbeats 4000000 in
set_option maxRecDepth 100000 in
theorem cm_count_lp {p : Program} {e : Env} {s : State} {m : MethodId} {below : List Frame} {meth : Method} {c : Code} {args : Array Value} (l : Launch) (X : fw_X) (hI : fw_I mV X) (σ : fw_S) (a1 : Int32)    (out : Int32)
    (hx : p.tables.exec = Jvm.exec) (hb : c.code = bM_count) (hr : meth.sig.returnType = (some .int)) (hml : c.maxLocals = 5) (hlocks : meth.locks = false) (hown : s.vm.findClass "TapOfficeModel" = some m.cls) (hts : ∀ w ∈ wM_count, w.before args s = true) (hK : va_K X.1 fw_cl (fw_tys X.2.1) s) (hnb : va_Nw fw_nb s) :
    ∀ (n : Nat) (j : Nat) (x2 x3 : Int32), j ≤ 4 → 4 + 1 ≤ j + n → ∀ (H : Heap) (locs : List Loc), fw_W fw_cl msh mV X σ H → va_S (fw_A mV X) s.heap H locs → ∀ (ls : Array Slot), lv_has ls 5 [(0, .ref (X.2.2 (0, 0, 0))), (1, .int a1), (2, .int x2), (3, .int x3), (4, .int (nI j))] → out = ms_count_lp a1 σ n j x2 x3 → W p l e (fw_rm 1) s m args below meth c H locs 0 0 (MQ below (va_Qi (fun r u => (r, u) = (out, σ)) (fun u t => fw_O fw_cl msh mV fw_tys X u t) (fw_A mV X)) args s 0 0 (fw_A mV X)) (F0 m 7 ls []) := by
  have hA : ∀ t, mV t → fw_A mV X (X.2.2 t) := fun t h => ⟨t, h, rfl⟩
  have htb := tb_use hts
  intro n
  induction n with
  | zero =>
    intro j x2 x3 h1 h2
    exact absurd h2 (by omega)
  | succ n ih =>
    intro j x2 x3 hj1 hj2 H locs hW hS ls hl he
    rw [ms_count_lp] at he
    refine lv_iload hx hb dM_count_7 (lv_at hl 4 rfl) ?_
    refine lv_iconst (v := 4) hx hb dM_count_9 (by decide) ?_
    refine lv_icmp_ge (tgt := 42) hx hb dM_count_10 (by decide) (fun c1 => ?_) (fun c1 => ?_)
    · replace c1 := (nI_leI (a := 4) (b := j) (by omega) (by omega)).mp c1
      rw [if_pos c1] at he
      refine lv_iload_n hx hb dM_count_42 rfl (lv_at hl 1 rfl) ?_
      refine lv_if_ne (tgt := 53) hx hb dM_count_43 (by decide) (fun c2 => ?_) (fun c2 => ?_)
      · rw [if_neg c2] at he
        refine lv_iload_n hx hb dM_count_53 rfl (lv_at hl 1 rfl) ?_
        refine lv_iconst (v := 1) hx hb dM_count_54 (by decide) ?_
        refine lv_icmp_ne (tgt := 62) hx hb dM_count_55 (by decide) (fun c3 => ?_) (fun c3 => ?_)
        · rw [if_neg c3] at he
          refine lv_iload_n hx hb dM_count_62 rfl (lv_at hl 1 rfl) ?_
          refine lv_iconst (v := 2) hx hb dM_count_63 (by decide) ?_
          refine lv_icmp_ne (tgt := 74) hx hb dM_count_64 (by decide) (fun c4 => ?_) (fun c4 => ?_)
          · rw [if_neg c4] at he
            refine lv_iload_n hx hb dM_count_74 rfl (lv_at hl 1 rfl) ?_
            refine lv_iconst (v := 3) hx hb dM_count_75 (by decide) ?_
            refine lv_icmp_ne (tgt := 83) hx hb dM_count_76 (by decide) (fun c5 => ?_) (fun c5 => ?_)
            · rw [if_neg c5] at he
              refine lv_iconst (v := (-1)) hx hb dM_count_83 (by decide) ?_
              exact fw_iret hx hb hr hlocks hK hnb hW hS (by rw [he]) dM_count_84
            · rw [if_pos c5] at he
              refine lv_iload_n hx hb dM_count_79 rfl (lv_at hl 3 rfl) ?_
              refine lv_goto (tgt := 84) hx hb dM_count_80 (by decide) ?_
              exact fw_iret hx hb hr hlocks hK hnb hW hS (by rw [he]) dM_count_84
          · rw [if_pos c4] at he
            refine lv_aload_n hx hb dM_count_67 rfl (lv_at hl 0 rfl) ?_
            refine fw_get (X := X) (v := .int (σ (0, 0, 0) 12)) hx hb hts hin_M hown hK hW (0, 0, 0) mv0 rfl rfl 12 (by decide) (htb _ m_424 rfl) (fun _ h => h) rfl rfl dM_count_68 ?_
            refine lv_goto (tgt := 84) hx hb dM_count_71 (by decide) ?_
            exact fw_iret hx hb hr hlocks hK hnb hW hS (by rw [he]) dM_count_84
        · rw [if_pos c3] at he
          refine lv_iload_n hx hb dM_count_58 rfl (lv_at hl 2 rfl) ?_
          refine lv_goto (tgt := 84) hx hb dM_count_59 (by decide) ?_
          exact fw_iret hx hb hr hlocks hK hnb hW hS (by rw [he]) dM_count_84
      · rw [if_pos c2] at he
        refine lv_aload_n hx hb dM_count_46 rfl (lv_at hl 0 rfl) ?_
        refine fw_get (X := X) (v := .int (σ (0, 0, 0) 2)) hx hb hts hin_M hown hK hW (0, 0, 0) mv0 rfl rfl 2 (by decide) (htb _ m_414 rfl) (fun _ h => h) rfl rfl dM_count_47 ?_
        refine lv_goto (tgt := 84) hx hb dM_count_50 (by decide) ?_
        exact fw_iret hx hb hr hlocks hK hnb hW hS (by rw [he]) dM_count_84
    · replace c1 := mt (nI_leI (a := 4) (b := j) (by omega) (by omega)).mpr c1
      rw [if_neg c1] at he
      refine lv_iload_n hx hb dM_count_13 rfl (lv_at hl 2 rfl) ?_
      refine lv_aload_n hx hb dM_count_14 rfl (lv_at hl 0 rfl) ?_
      refine fw_get (X := X) (v := .ref (X.2.2 (8, 0, 0))) hx hb hts hin_M hown hK hW (0, 0, 0) mv0 rfl rfl 8 (by decide) (htb _ m_420 rfl) (fun _ h => h) rfl rfl dM_count_15 ?_
      refine lv_iload hx hb dM_count_18 (lv_at hl 4 rfl) ?_
      refine fw_iald (X := X) hx hb hK hW (8, 0, 0) mv8 rfl 0 rfl j (nI_clamp (by omega)) (vp_in_nI (by omega) (by decide)) dM_count_20 ?_
      refine lv_iadd hx hb dM_count_21 ?_
      refine lv_topi (fun z6 e7 => ?_)
      try rw [← e7] at he
      unfold ms_count_s1 at he
      refine lv_istore_n (lv' := [(2, .int z6), (0, .ref (X.2.2 (0, 0, 0))), (1, .int a1), (3, .int x3), (4, .int (nI j))]) hx hb dM_count_22 rfl hl (by decide) rfl (fun ls hl => ?_)
      refine lv_aload_n hx hb dM_count_23 rfl (lv_at hl 1 rfl) ?_
      refine fw_get (X := X) (v := .ref (X.2.2 (10, 0, 0))) hx hb hts hin_M hown hK hW (0, 0, 0) mv0 rfl rfl 10 (by decide) (htb _ m_422 rfl) (fun _ h => h) rfl rfl dM_count_24 ?_
      refine lv_iload hx hb dM_count_27 (lv_at hl 4 rfl) ?_
      refine fw_zald (X := X) hx hb hK hW (10, 0, 0) mv10 rfl 5 rfl j (nI_clamp (by omega)) (vp_in_nI (by omega) (by decide)) dM_count_29 ?_
      refine lv_if_eq (tgt := 36) hx hb dM_count_30 (by decide) (fun c8 => ?_) (fun c8 => ?_)
      · rw [if_pos c8] at he
        refine lv_iinc (v := nI (j + 1)) (lv' := [(4, .int (nI (j + 1))), (2, .int z6), (0, .ref (X.2.2 (0, 0, 0))), (1, .int a1), (3, .int x3)]) hx hb dM_count_36 hl (k := 4) rfl (by exact nI_1 j) (by decide) rfl (fun ls hl => ?_)
        refine lv_goto (tgt := 7) hx hb dM_count_39 (by decide) ?_
        exact ih (j + 1) z6 x3 (by omega) (by omega) _ _ hW hS ls (lv_sub hl [2, 3, 1, 4, 0] rfl) he
      · rw [if_neg c8] at he
        refine lv_iinc (v := x3 + 1) (lv' := [(3, .int (x3 + 1)), (2, .int z6), (0, .ref (X.2.2 (0, 0, 0))), (1, .int a1), (4, .int (nI j))]) hx hb dM_count_33 hl (k := 3) rfl (by rfl) (by decide) rfl (fun ls hl => ?_)
        refine lv_iinc (v := nI (j + 1)) (lv' := [(4, .int (nI (j + 1))), (3, .int (x3 + 1)), (2, .int z6), (0, .ref (X.2.2 (0, 0, 0))), (1, .int a1)]) hx hb dM_count_36 hl (k := 4) rfl (by exact nI_1 j) (by decide) rfl (fun ls hl => ?_)
        refine lv_goto (tgt := 7) hx hb dM_count_39 (by decide) ?_
        exact ih (j + 1) z6 (x3 + 1) (by omega) (by omega) _ _ hW hS ls (lv_sub hl [3, 4, 2, 1, 0] rfl) he
set_option maxHeartbeats 4000000 in
set_option maxRecDepth 100000 in
theorem cm_count (l : Launch) (X : fw_X) (hI : fw_I mV X) (σ : fw_S) (a1 : Int32)  : fw_Mi fw_cl msh mV fw_tys l yM_count wM_count (fw_rm 1) X σ [.ref (X.2.2 (0, 0, 0)), .int a1] ((ms_count σ a1, σ)) := by
  obtain ⟨out, he⟩ : ∃ z : Int32, z = ms_count σ a1 := ⟨_, rfl⟩
  rw [← he]
  refine fw_Mi_of (cc := bM_count) (maxL := 5) (ret := (some .int)) (by decide) rfl (Nat.le_of_ble_eq_true rfl) ?_
  intro p e s m below meth c ls hx hb hr hml hlocks hown hts hK hnb hW hl
  have hS : va_S (fw_A mV X) s.heap s.heap [] := va_S.rf
  have hA : ∀ t, mV t → fw_A mV X (X.2.2 t) := fun t h => ⟨t, h, rfl⟩
  have htb := tb_use hts
  have hl : lv_has ls 5 [(0, .ref (X.2.2 (0, 0, 0))), (1, .int a1)] := hl
  have hown : s.vm.findClass "TapOfficeModel" = some m.cls := hown
  unfold ms_count at he
  refine lv_iconst (v := 0) hx hb dM_count_0 (by decide) ?_
  refine lv_istore_n (lv' := [(2, .int 0), (0, .ref (X.2.2 (0, 0, 0))), (1, .int a1)]) hx hb dM_count_1 rfl hl (by decide) rfl (fun ls hl => ?_)
  refine lv_iconst (v := 0) hx hb dM_count_2 (by decide) ?_
  refine lv_istore_n (lv' := [(3, .int 0), (2, .int 0), (0, .ref (X.2.2 (0, 0, 0))), (1, .int a1)]) hx hb dM_count_3 rfl hl (by decide) rfl (fun ls hl => ?_)
  refine lv_iconst (v := 0) hx hb dM_count_4 (by decide) ?_
  refine lv_istore (lv' := [(4, .int 0), (3, .int 0), (2, .int 0), (0, .ref (X.2.2 (0, 0, 0))), (1, .int a1)]) hx hb dM_count_5 hl (by decide) rfl (fun ls hl => ?_)
  exact cm_count_lp l X hI σ a1   out hx hb hr hml hlocks hown hts hK hnb (4 + 1) 0 0 0 (by omega) (by omega) _ _ hW hS ls (lv_sub hl [3, 4, 2, 1, 0] rfl) he

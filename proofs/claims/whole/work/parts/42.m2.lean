def ms_enter_s2 (σ7 : fw_S) : Int32 × fw_S :=
  (0, σ7)
def ms_enter_s1 (σ5 : fw_S) : Int32 × fw_S :=
  ms_enter_s2 (fw_st σ5 (4, 0, 0) 2 (σ5 (0, 0, 0) 2))
def ms_enter_s6 (σ15 : fw_S) : Int32 × fw_S :=
  (0, σ15)
def ms_enter_s5 (σ13 : fw_S) : Int32 × fw_S :=
  ms_enter_s6 (fw_st σ13 (4, 0, 0) 2 (σ13 (0, 0, 0) 2))
def ms_enter_s4 (zo : Nat) (σ11 : fw_S) : Int32 × fw_S :=
  ms_enter_s5 (fw_st σ11 (4, 0, 0) 1 (nI zo))
def ms_enter_s3 (zo : Nat) (σ9 : fw_S) : Int32 × fw_S :=
  ms_enter_s4 zo (fw_st σ9 (4, 0, 0) 4 0)
def ms_enter_s11 (z19 : Int32) (σ28 : fw_S) : Int32 × fw_S :=
  (z19, σ28)
def ms_enter_s10 (z19 : Int32) (σ26 : fw_S) : Int32 × fw_S :=
  ms_enter_s11 z19 (fw_st σ26 (4, 0, 0) 2 (σ26 (0, 0, 0) 2))
def ms_enter_s9 (zo : Nat) (z19 : Int32) (σ24 : fw_S) : Int32 × fw_S :=
  ms_enter_s10 z19 (fw_st σ24 (4, 0, 0) 1 (nI zo))
def ms_enter_s8 (zo : Nat) (z19 : Int32) (σ22 : fw_S) : Int32 × fw_S :=
  ms_enter_s9 zo z19 (fw_st σ22 (4, 0, 0) 4 0)
def ms_enter_s7 (zo : Nat) (σ : fw_S) (z19 : Int32) : Int32 × fw_S :=
  ms_enter_s8 zo z19 (fw_st σ (4, 0, 0) 3 (nI zo))
def ms_enter (σ : fw_S) (cd : Nat) (zo : Nat) : Int32 × fw_S :=
  if (σ (4, 0, 0) 1) < 0 then if (σ (0, 0, 0) 2) ≤ ((σ (4, 0, 0) 5) + 30) then ms_enter_s1 (fw_st σ (4, 0, 0) 1 (nI zo)) else ms_enter_s3 zo (fw_st σ (4, 0, 0) 3 (nI zo)) else ms_enter_s7 zo σ (ms_capped σ (ms_price σ (ms_full σ ((σ (4, 0, 0) 1).toNatClampNeg)) (σ (4, 0, 0) 2)) cd)
set_option maxHeartbeats 4000000 in
set_option maxRecDepth 100000 in
theorem cm_enter (l : Launch) (X : fw_X) (hI : fw_I mV X) (σ : fw_S) (cd : Nat) (hcd : cd < 4) (zo : Nat) (hzo : zo < 6) (hz1 : σ (4, 0, 0) 1 < 0 ∨ vp_in (σ (4, 0, 0) 1) 6) : fw_Mi fw_cl msh mV fw_tys l yM_enter wM_enter (fw_rm 3) X σ [.ref (X.2.2 (0, 0, 0)), .int (nI cd), .int (nI zo)] (ms_enter σ cd zo) := by
  obtain ⟨out, he⟩ : ∃ z : Int32 × fw_S, z = ms_enter σ cd zo := ⟨_, rfl⟩
  rw [← he]
  refine fw_Mi_of (cc := bM_enter) (maxL := 5) (ret := (some .int)) (by decide) rfl (Nat.le_of_ble_eq_true rfl) ?_
  intro p e s m below meth c ls hx hb hr hml hlocks hown hts hK hnb hW hl
  have hS : va_S (fw_A mV X) s.heap s.heap [] := va_S.rf
  have hA : ∀ t, mV t → fw_A mV X (X.2.2 t) := fun t h => ⟨t, h, rfl⟩
  have htb := tb_use hts
  have hl : lv_has ls 5 [(0, .ref (X.2.2 (0, 0, 0))), (1, .int (nI cd)), (2, .int (nI zo))] := hl
  have hown : s.vm.findClass "TapOfficeModel" = some m.cls := hown
  unfold ms_enter at he
  refine lv_aload_n hx hb dM_enter_0 rfl (lv_at hl 0 rfl) ?_
  refine fw_get (X := X) (v := .ref (X.2.2 (4, 0, 0))) hx hb hts hin_M hown hK hW (0, 0, 0) mv0 rfl rfl 4 (by decide) (htb _ m_416 rfl) (fun _ h => h) rfl rfl dM_enter_1 ?_
  refine lv_iconst (v := 1) hx hb dM_enter_4 (by decide) ?_
  refine fw_iald (X := X) hx hb hK hW (4, 0, 0) mv4 rfl 0 rfl 1 (by decide) (by unfold vp_in; decide) dM_enter_5 ?_
  refine lv_if_lt (tgt := 13) hx hb dM_enter_6 (by decide) (fun c1 => ?_) (fun c1 => ?_)
  · rw [if_pos c1] at he
    refine lv_iconst (v := 0) hx hb dM_enter_13 (by decide) ?_
    refine lv_istore_n (lv' := [(3, .int 0), (0, .ref (X.2.2 (0, 0, 0))), (1, .int (nI cd)), (2, .int (nI zo))]) hx hb dM_enter_14 rfl hl (by decide) rfl (fun ls hl => ?_)
    refine lv_iload_n hx hb dM_enter_15 rfl (lv_at hl 0 rfl) ?_
    refine lv_if_eq (tgt := 47) hx hb dM_enter_16 (by decide) (fun c2 => ?_) (fun c2 => ?_)
    rotate_left
    · exact absurd c2 (by decide)
    refine lv_iconst (v := 0) hx hb dM_enter_47 (by decide) ?_
    refine lv_istore (lv' := [(4, .int 0), (3, .int 0), (0, .ref (X.2.2 (0, 0, 0))), (1, .int (nI cd)), (2, .int (nI zo))]) hx hb dM_enter_48 hl (by decide) rfl (fun ls hl => ?_)
    refine lv_iload_n hx hb dM_enter_50 rfl (lv_at hl 1 rfl) ?_
    refine lv_if_ne (tgt := 70) hx hb dM_enter_51 (by decide) (fun c3 => ?_) (fun c3 => ?_)
    · exact absurd c3 (by decide)
    refine lv_aload_n hx hb dM_enter_54 rfl (lv_at hl 2 rfl) ?_
    refine fw_get (X := X) (v := .int (σ (0, 0, 0) 2)) hx hb hts hin_M hown hK hW (0, 0, 0) mv0 rfl rfl 2 (by decide) (htb _ m_414 rfl) (fun _ h => h) rfl rfl dM_enter_55 ?_
    refine lv_aload_n hx hb dM_enter_58 rfl (lv_at hl 2 rfl) ?_
    refine fw_get (X := X) (v := .ref (X.2.2 (4, 0, 0))) hx hb hts hin_M hown hK hW (0, 0, 0) mv0 rfl rfl 4 (by decide) (htb _ m_416 rfl) (fun _ h => h) rfl rfl dM_enter_59 ?_
    refine lv_iconst (v := 5) hx hb dM_enter_62 (by decide) ?_
    refine fw_iald (X := X) hx hb hK hW (4, 0, 0) mv4 rfl 0 rfl 5 (by decide) (by unfold vp_in; decide) dM_enter_63 ?_
    refine lv_bipush (v := 30) hx hb dM_enter_64 (by decide) ?_
    refine lv_iadd hx hb dM_enter_66 ?_
    refine lv_icmp_le (tgt := 84) hx hb dM_enter_67 (by decide) (fun c4 => ?_) (fun c4 => ?_)
    · rw [if_pos c4] at he
      refine lv_aload_n hx hb dM_enter_84 rfl (lv_at hl 2 rfl) ?_
      refine fw_get (X := X) (v := .ref (X.2.2 (4, 0, 0))) hx hb hts hin_M hown hK hW (0, 0, 0) mv0 rfl rfl 4 (by decide) (htb _ m_416 rfl) (fun _ h => h) rfl rfl dM_enter_85 ?_
      refine lv_iconst (v := 1) hx hb dM_enter_88 (by decide) ?_
      refine lv_iload_n hx hb dM_enter_89 rfl (lv_at hl 4 rfl) ?_
      refine fw_iast (X := X) hx hb hK hW hI hA hS (4, 0, 0) mv4 rfl 0 rfl 1 (by decide) (by unfold vp_in; decide) dM_enter_90 (fun H locs hW hS => ?_)
      obtain ⟨σ5, e6⟩ : ∃ z : fw_S, z = fw_st σ (4, 0, 0) 1 (nI zo) := ⟨_, rfl⟩
      rw [← e6] at hW
      try rw [← e6] at he
      unfold ms_enter_s1 at he
      refine lv_aload_n hx hb dM_enter_91 rfl (lv_at hl 2 rfl) ?_
      refine fw_get (X := X) (v := .ref (X.2.2 (4, 0, 0))) hx hb hts hin_M hown hK hW (0, 0, 0) mv0 rfl rfl 4 (by decide) (htb _ m_416 rfl) (fun _ h => h) rfl rfl dM_enter_92 ?_
      refine lv_iconst (v := 2) hx hb dM_enter_95 (by decide) ?_
      refine lv_aload_n hx hb dM_enter_96 rfl (lv_at hl 2 rfl) ?_
      refine fw_get (X := X) (v := .int (σ5 (0, 0, 0) 2)) hx hb hts hin_M hown hK hW (0, 0, 0) mv0 rfl rfl 2 (by decide) (htb _ m_414 rfl) (fun _ h => h) rfl rfl dM_enter_97 ?_
      refine fw_iast (X := X) hx hb hK hW hI hA hS (4, 0, 0) mv4 rfl 0 rfl 2 (by decide) (by unfold vp_in; decide) dM_enter_100 (fun H locs hW hS => ?_)
      obtain ⟨σ7, e8⟩ : ∃ z : fw_S, z = fw_st σ5 (4, 0, 0) 2 (σ5 (0, 0, 0) 2) := ⟨_, rfl⟩
      rw [← e8] at hW
      try rw [← e8] at he
      unfold ms_enter_s2 at he
      refine lv_iload hx hb dM_enter_101 (lv_at hl 0 rfl) ?_
      exact fw_iret hx hb hr hlocks hK hnb hW hS he dM_enter_103
    · rw [if_neg c4] at he
      refine lv_aload_n hx hb dM_enter_70 rfl (lv_at hl 2 rfl) ?_
      refine fw_get (X := X) (v := .ref (X.2.2 (4, 0, 0))) hx hb hts hin_M hown hK hW (0, 0, 0) mv0 rfl rfl 4 (by decide) (htb _ m_416 rfl) (fun _ h => h) rfl rfl dM_enter_71 ?_
      refine lv_iconst (v := 3) hx hb dM_enter_74 (by decide) ?_
      refine lv_iload_n hx hb dM_enter_75 rfl (lv_at hl 4 rfl) ?_
      refine fw_iast (X := X) hx hb hK hW hI hA hS (4, 0, 0) mv4 rfl 0 rfl 3 (by decide) (by unfold vp_in; decide) dM_enter_76 (fun H locs hW hS => ?_)
      obtain ⟨σ9, e10⟩ : ∃ z : fw_S, z = fw_st σ (4, 0, 0) 3 (nI zo) := ⟨_, rfl⟩
      rw [← e10] at hW
      try rw [← e10] at he
      unfold ms_enter_s3 at he
      refine lv_aload_n hx hb dM_enter_77 rfl (lv_at hl 2 rfl) ?_
      refine fw_get (X := X) (v := .ref (X.2.2 (4, 0, 0))) hx hb hts hin_M hown hK hW (0, 0, 0) mv0 rfl rfl 4 (by decide) (htb _ m_416 rfl) (fun _ h => h) rfl rfl dM_enter_78 ?_
      refine lv_iconst (v := 4) hx hb dM_enter_81 (by decide) ?_
      refine lv_iconst (v := 0) hx hb dM_enter_82 (by decide) ?_
      refine fw_iast (X := X) hx hb hK hW hI hA hS (4, 0, 0) mv4 rfl 0 rfl 4 (by decide) (by unfold vp_in; decide) dM_enter_83 (fun H locs hW hS => ?_)
      obtain ⟨σ11, e12⟩ : ∃ z : fw_S, z = fw_st σ9 (4, 0, 0) 4 0 := ⟨_, rfl⟩
      rw [← e12] at hW
      try rw [← e12] at he
      unfold ms_enter_s4 at he
      refine lv_aload_n hx hb dM_enter_84 rfl (lv_at hl 2 rfl) ?_
      refine fw_get (X := X) (v := .ref (X.2.2 (4, 0, 0))) hx hb hts hin_M hown hK hW (0, 0, 0) mv0 rfl rfl 4 (by decide) (htb _ m_416 rfl) (fun _ h => h) rfl rfl dM_enter_85 ?_
      refine lv_iconst (v := 1) hx hb dM_enter_88 (by decide) ?_
      refine lv_iload_n hx hb dM_enter_89 rfl (lv_at hl 4 rfl) ?_
      refine fw_iast (X := X) hx hb hK hW hI hA hS (4, 0, 0) mv4 rfl 0 rfl 1 (by decide) (by unfold vp_in; decide) dM_enter_90 (fun H locs hW hS => ?_)
      obtain ⟨σ13, e14⟩ : ∃ z : fw_S, z = fw_st σ11 (4, 0, 0) 1 (nI zo) := ⟨_, rfl⟩
      rw [← e14] at hW
      try rw [← e14] at he
      unfold ms_enter_s5 at he
      refine lv_aload_n hx hb dM_enter_91 rfl (lv_at hl 2 rfl) ?_
      refine fw_get (X := X) (v := .ref (X.2.2 (4, 0, 0))) hx hb hts hin_M hown hK hW (0, 0, 0) mv0 rfl rfl 4 (by decide) (htb _ m_416 rfl) (fun _ h => h) rfl rfl dM_enter_92 ?_
      refine lv_iconst (v := 2) hx hb dM_enter_95 (by decide) ?_
      refine lv_aload_n hx hb dM_enter_96 rfl (lv_at hl 2 rfl) ?_
      refine fw_get (X := X) (v := .int (σ13 (0, 0, 0) 2)) hx hb hts hin_M hown hK hW (0, 0, 0) mv0 rfl rfl 2 (by decide) (htb _ m_414 rfl) (fun _ h => h) rfl rfl dM_enter_97 ?_
      refine fw_iast (X := X) hx hb hK hW hI hA hS (4, 0, 0) mv4 rfl 0 rfl 2 (by decide) (by unfold vp_in; decide) dM_enter_100 (fun H locs hW hS => ?_)
      obtain ⟨σ15, e16⟩ : ∃ z : fw_S, z = fw_st σ13 (4, 0, 0) 2 (σ13 (0, 0, 0) 2) := ⟨_, rfl⟩
      rw [← e16] at hW
      try rw [← e16] at he
      unfold ms_enter_s6 at he
      refine lv_iload hx hb dM_enter_101 (lv_at hl 0 rfl) ?_
      exact fw_iret hx hb hr hlocks hK hnb hW hS he dM_enter_103
  · rw [if_neg c1] at he
    refine lv_iconst (v := 1) hx hb dM_enter_9 (by decide) ?_
    refine lv_goto (tgt := 14) hx hb dM_enter_10 (by decide) ?_
    refine lv_istore_n (lv' := [(3, .int 1), (0, .ref (X.2.2 (0, 0, 0))), (1, .int (nI cd)), (2, .int (nI zo))]) hx hb dM_enter_14 rfl hl (by decide) rfl (fun ls hl => ?_)
    refine lv_iload_n hx hb dM_enter_15 rfl (lv_at hl 0 rfl) ?_
    refine lv_if_eq (tgt := 47) hx hb dM_enter_16 (by decide) (fun c17 => ?_) (fun c17 => ?_)
    · exact absurd c17 (by decide)
    refine lv_aload_n hx hb dM_enter_19 rfl (lv_at hl 1 rfl) ?_
    refine lv_aload_n hx hb dM_enter_20 rfl (lv_at hl 1 rfl) ?_
    refine lv_aload_n hx hb dM_enter_21 rfl (lv_at hl 1 rfl) ?_
    refine lv_aload_n hx hb dM_enter_22 rfl (lv_at hl 1 rfl) ?_
    refine fw_get (X := X) (v := .ref (X.2.2 (4, 0, 0))) hx hb hts hin_M hown hK hW (0, 0, 0) mv0 rfl rfl 4 (by decide) (htb _ m_416 rfl) (fun _ h => h) rfl rfl dM_enter_23 ?_
    refine lv_iconst (v := 1) hx hb dM_enter_26 (by decide) ?_
    refine fw_iald (X := X) hx hb hK hW (4, 0, 0) mv4 rfl 0 rfl 1 (by decide) (by unfold vp_in; decide) dM_enter_27 ?_
    have hv18 : vp_in (σ (4, 0, 0) 1) 6 := hz1.resolve_left ‹¬ σ (4, 0, 0) 1 < 0›
    have hv18l := vi_lt hv18
    refine lv_eqi (vi_nI hv18) ?_
    refine fw_kp (va_runV (As := [.int (nI ((σ (4, 0, 0) 1).toNatClampNeg))]) (rest := [.ref (X.2.2 (0, 0, 0)), .ref (X.2.2 (0, 0, 0))]) ⟨hx, hb, hml, hown, hts⟩ (cm_full l X hI σ ((σ (4, 0, 0) 1).toNatClampNeg) (by omega) ) (cwV 1 hts (tb_V m_503 m_500 m_502 m_13 m_31) rfl rfl rfl (by decide +kernel) ⟨Nat.le_of_ble_eq_true rfl, Nat.le_of_ble_eq_true rfl⟩) (fw_preV (X := X) hK hnb hW (0, 0, 0) mv0 rfl rfl [.int (nI ((σ (4, 0, 0) 1).toNatClampNeg))]) rfl rfl hl.1 rfl (lv_room (Nat.le_of_ble_eq_true rfl)) dM_enter_28 ⟨Nat.zero_le _, Nat.zero_le _⟩) hS (fun H locs hW hS => ?_)
    refine lv_aload_n hx hb dM_enter_31 rfl (lv_at hl 1 rfl) ?_
    refine fw_get (X := X) (v := .ref (X.2.2 (4, 0, 0))) hx hb hts hin_M hown hK hW (0, 0, 0) mv0 rfl rfl 4 (by decide) (htb _ m_416 rfl) (fun _ h => h) rfl rfl dM_enter_32 ?_
    refine lv_iconst (v := 2) hx hb dM_enter_35 (by decide) ?_
    refine fw_iald (X := X) hx hb hK hW (4, 0, 0) mv4 rfl 0 rfl 2 (by decide) (by unfold vp_in; decide) dM_enter_36 ?_
    refine fw_kp (va_runV (As := [.int (ms_full σ ((σ (4, 0, 0) 1).toNatClampNeg)), .int (σ (4, 0, 0) 2)]) (rest := [.ref (X.2.2 (0, 0, 0))]) ⟨hx, hb, hml, hown, hts⟩ (cm_price l X hI σ (ms_full σ ((σ (4, 0, 0) 1).toNatClampNeg)) (σ (4, 0, 0) 2) ) (cwV 2 hts (tb_V m_507 m_504 m_506 m_14 m_31) rfl rfl rfl (by decide +kernel) ⟨Nat.le_of_ble_eq_true rfl, Nat.le_of_ble_eq_true rfl⟩) (fw_preV (X := X) hK hnb hW (0, 0, 0) mv0 rfl rfl [.int (ms_full σ ((σ (4, 0, 0) 1).toNatClampNeg)), .int (σ (4, 0, 0) 2)]) rfl rfl hl.1 rfl (lv_room (Nat.le_of_ble_eq_true rfl)) dM_enter_37 ⟨Nat.zero_le _, Nat.zero_le _⟩) hS (fun H locs hW hS => ?_)
    refine lv_iload_n hx hb dM_enter_40 rfl (lv_at hl 2 rfl) ?_
    refine fw_kp (va_runV (As := [.int (ms_price σ (ms_full σ ((σ (4, 0, 0) 1).toNatClampNeg)) (σ (4, 0, 0) 2)), .int (nI cd)]) (rest := []) ⟨hx, hb, hml, hown, hts⟩ (cm_capped l X hI σ (ms_price σ (ms_full σ ((σ (4, 0, 0) 1).toNatClampNeg)) (σ (4, 0, 0) 2)) cd (by omega) ) (cwV 2 hts (tb_V m_511 m_508 m_510 m_15 m_31) rfl rfl rfl (by decide +kernel) ⟨Nat.le_of_ble_eq_true rfl, Nat.le_of_ble_eq_true rfl⟩) (fw_preV (X := X) hK hnb hW (0, 0, 0) mv0 rfl rfl [.int (ms_price σ (ms_full σ ((σ (4, 0, 0) 1).toNatClampNeg)) (σ (4, 0, 0) 2)), .int (nI cd)]) rfl rfl hl.1 rfl (lv_room (Nat.le_of_ble_eq_true rfl)) dM_enter_41 ⟨Nat.zero_le _, Nat.zero_le _⟩) hS (fun H locs hW hS => ?_)
    refine lv_goto (tgt := 48) hx hb dM_enter_44 (by decide) ?_
    refine lv_topi (fun z19 e20 => ?_)
    try rw [← e20] at he
    unfold ms_enter_s7 at he
    refine lv_istore (lv' := [(4, .int z19), (3, .int 1), (0, .ref (X.2.2 (0, 0, 0))), (1, .int (nI cd)), (2, .int (nI zo))]) hx hb dM_enter_48 hl (by decide) rfl (fun ls hl => ?_)
    refine lv_iload_n hx hb dM_enter_50 rfl (lv_at hl 1 rfl) ?_
    refine lv_if_ne (tgt := 70) hx hb dM_enter_51 (by decide) (fun c21 => ?_) (fun c21 => ?_)
    rotate_left
    · exact absurd c21 (by decide)
    refine lv_aload_n hx hb dM_enter_70 rfl (lv_at hl 2 rfl) ?_
    refine fw_get (X := X) (v := .ref (X.2.2 (4, 0, 0))) hx hb hts hin_M hown hK hW (0, 0, 0) mv0 rfl rfl 4 (by decide) (htb _ m_416 rfl) (fun _ h => h) rfl rfl dM_enter_71 ?_
    refine lv_iconst (v := 3) hx hb dM_enter_74 (by decide) ?_
    refine lv_iload_n hx hb dM_enter_75 rfl (lv_at hl 4 rfl) ?_
    refine fw_iast (X := X) hx hb hK hW hI hA hS (4, 0, 0) mv4 rfl 0 rfl 3 (by decide) (by unfold vp_in; decide) dM_enter_76 (fun H locs hW hS => ?_)
    obtain ⟨σ22, e23⟩ : ∃ z : fw_S, z = fw_st σ (4, 0, 0) 3 (nI zo) := ⟨_, rfl⟩
    rw [← e23] at hW
    try rw [← e23] at he
    unfold ms_enter_s8 at he
    refine lv_aload_n hx hb dM_enter_77 rfl (lv_at hl 2 rfl) ?_
    refine fw_get (X := X) (v := .ref (X.2.2 (4, 0, 0))) hx hb hts hin_M hown hK hW (0, 0, 0) mv0 rfl rfl 4 (by decide) (htb _ m_416 rfl) (fun _ h => h) rfl rfl dM_enter_78 ?_
    refine lv_iconst (v := 4) hx hb dM_enter_81 (by decide) ?_
    refine lv_iconst (v := 0) hx hb dM_enter_82 (by decide) ?_
    refine fw_iast (X := X) hx hb hK hW hI hA hS (4, 0, 0) mv4 rfl 0 rfl 4 (by decide) (by unfold vp_in; decide) dM_enter_83 (fun H locs hW hS => ?_)
    obtain ⟨σ24, e25⟩ : ∃ z : fw_S, z = fw_st σ22 (4, 0, 0) 4 0 := ⟨_, rfl⟩
    rw [← e25] at hW
    try rw [← e25] at he
    unfold ms_enter_s9 at he
    refine lv_aload_n hx hb dM_enter_84 rfl (lv_at hl 2 rfl) ?_
    refine fw_get (X := X) (v := .ref (X.2.2 (4, 0, 0))) hx hb hts hin_M hown hK hW (0, 0, 0) mv0 rfl rfl 4 (by decide) (htb _ m_416 rfl) (fun _ h => h) rfl rfl dM_enter_85 ?_
    refine lv_iconst (v := 1) hx hb dM_enter_88 (by decide) ?_
    refine lv_iload_n hx hb dM_enter_89 rfl (lv_at hl 4 rfl) ?_
    refine fw_iast (X := X) hx hb hK hW hI hA hS (4, 0, 0) mv4 rfl 0 rfl 1 (by decide) (by unfold vp_in; decide) dM_enter_90 (fun H locs hW hS => ?_)
    obtain ⟨σ26, e27⟩ : ∃ z : fw_S, z = fw_st σ24 (4, 0, 0) 1 (nI zo) := ⟨_, rfl⟩
    rw [← e27] at hW
    try rw [← e27] at he
    unfold ms_enter_s10 at he
    refine lv_aload_n hx hb dM_enter_91 rfl (lv_at hl 2 rfl) ?_
    refine fw_get (X := X) (v := .ref (X.2.2 (4, 0, 0))) hx hb hts hin_M hown hK hW (0, 0, 0) mv0 rfl rfl 4 (by decide) (htb _ m_416 rfl) (fun _ h => h) rfl rfl dM_enter_92 ?_
    refine lv_iconst (v := 2) hx hb dM_enter_95 (by decide) ?_
    refine lv_aload_n hx hb dM_enter_96 rfl (lv_at hl 2 rfl) ?_
    refine fw_get (X := X) (v := .int (σ26 (0, 0, 0) 2)) hx hb hts hin_M hown hK hW (0, 0, 0) mv0 rfl rfl 2 (by decide) (htb _ m_414 rfl) (fun _ h => h) rfl rfl dM_enter_97 ?_
    refine fw_iast (X := X) hx hb hK hW hI hA hS (4, 0, 0) mv4 rfl 0 rfl 2 (by decide) (by unfold vp_in; decide) dM_enter_100 (fun H locs hW hS => ?_)
    obtain ⟨σ28, e29⟩ : ∃ z : fw_S, z = fw_st σ26 (4, 0, 0) 2 (σ26 (0, 0, 0) 2) := ⟨_, rfl⟩
    rw [← e29] at hW
    try rw [← e29] at he
    unfold ms_enter_s11 at he
    refine lv_iload hx hb dM_enter_101 (lv_at hl 0 rfl) ?_
    exact fw_iret hx hb hr hlocks hK hnb hW hS he dM_enter_103
def ms_leave_s5 (z7 : Int32) (σ13 : fw_S) : Int32 × fw_S :=
  (z7, σ13)
def ms_leave_s4 (z7 : Int32) (σ11 : fw_S) : Int32 × fw_S :=
  ms_leave_s5 z7 (fw_st σ11 (4, 0, 0) 1 (-1))
def ms_leave_s3 (z7 : Int32) (σ9 : fw_S) : Int32 × fw_S :=
  ms_leave_s4 z7 (fw_st σ9 (4, 0, 0) 5 (σ9 (0, 0, 0) 2))
def ms_leave_s2 (σ : fw_S) (z7 : Int32) : Int32 × fw_S :=
  ms_leave_s3 z7 (fw_st σ (4, 0, 0) 4 ((σ (4, 0, 0) 4) + z7))
def ms_leave_s9 (z15 : Int32) (σ21 : fw_S) : Int32 × fw_S :=
  (z15, σ21)
def ms_leave_s8 (z15 : Int32) (σ19 : fw_S) : Int32 × fw_S :=
  ms_leave_s9 z15 (fw_st σ19 (4, 0, 0) 1 (-1))
def ms_leave_s7 (z15 : Int32) (σ17 : fw_S) : Int32 × fw_S :=
  ms_leave_s8 z15 (fw_st σ17 (4, 0, 0) 5 (σ17 (0, 0, 0) 2))
def ms_leave_s6 (σ : fw_S) (z15 : Int32) : Int32 × fw_S :=
  ms_leave_s7 z15 (fw_st σ (4, 0, 0) 4 ((σ (4, 0, 0) 4) + z15))
def ms_leave_s1 (cd : Nat) (σ : fw_S) (z4 : Int32) : Int32 × fw_S :=
  if 0 ≤ z4 then ms_leave_s2 σ (ms_capped σ z4 cd) else ms_leave_s6 σ (ms_capped σ 0 cd)
def ms_leave_s13 (z24 : Int32) (σ30 : fw_S) : Int32 × fw_S :=
  (z24, σ30)
def ms_leave_s12 (z24 : Int32) (σ28 : fw_S) : Int32 × fw_S :=
  ms_leave_s13 z24 (fw_st σ28 (4, 0, 0) 1 (-1))
def ms_leave_s11 (z24 : Int32) (σ26 : fw_S) : Int32 × fw_S :=
  ms_leave_s12 z24 (fw_st σ26 (4, 0, 0) 5 (-1000))
def ms_leave_s10 (σ : fw_S) (z24 : Int32) : Int32 × fw_S :=
  ms_leave_s11 z24 (fw_st σ (4, 0, 0) 4 0)
def ms_leave_s17 (z32 : Int32) (σ38 : fw_S) : Int32 × fw_S :=
  (z32, σ38)
def ms_leave_s16 (z32 : Int32) (σ36 : fw_S) : Int32 × fw_S :=
  ms_leave_s17 z32 (fw_st σ36 (4, 0, 0) 1 (-1))
def ms_leave_s15 (z32 : Int32) (σ34 : fw_S) : Int32 × fw_S :=
  ms_leave_s16 z32 (fw_st σ34 (4, 0, 0) 5 (-1000))
def ms_leave_s14 (σ : fw_S) (z32 : Int32) : Int32 × fw_S :=
  ms_leave_s15 z32 (fw_st σ (4, 0, 0) 4 0)
def ms_leave (σ : fw_S) (cd : Nat) (zo : Nat) : Int32 × fw_S :=
  if 0 ≤ (σ (4, 0, 0) 1) then if (σ (0, 0, 0) 2) ≤ ((σ (4, 0, 0) 2) + 180) then ms_leave_s1 cd σ ((ms_price σ (σ (1, 0, 0) ((6 * ((σ (4, 0, 0) 3).toNatClampNeg)) + zo)) (σ (4, 0, 0) 2)) - (σ (4, 0, 0) 4)) else ms_leave_s10 σ (ms_capped σ (ms_price σ (ms_full σ ((σ (4, 0, 0) 1).toNatClampNeg)) (σ (4, 0, 0) 2)) cd) else ms_leave_s14 σ (ms_capped σ (ms_price σ (ms_full σ zo) (σ (0, 0, 0) 2)) cd)
set_option maxHeartbeats 4000000 in
set_option maxRecDepth 100000 in
theorem cm_leave (l : Launch) (X : fw_X) (hI : fw_I mV X) (σ : fw_S) (cd : Nat) (hcd : cd < 4) (zo : Nat) (hzo : zo < 6) (hz1 : σ (4, 0, 0) 1 < 0 ∨ vp_in (σ (4, 0, 0) 1) 6) (hz3 : vp_in (σ (4, 0, 0) 3) 6) : fw_Mi fw_cl msh mV fw_tys l yM_leave wM_leave (fw_rm 3) X σ [.ref (X.2.2 (0, 0, 0)), .int (nI cd), .int (nI zo)] (ms_leave σ cd zo) := by
  obtain ⟨out, he⟩ : ∃ z : Int32 × fw_S, z = ms_leave σ cd zo := ⟨_, rfl⟩
  rw [← he]
  refine fw_Mi_of (cc := bM_leave) (maxL := 5) (ret := (some .int)) (by decide) rfl (Nat.le_of_ble_eq_true rfl) ?_
  intro p e s m below meth c ls hx hb hr hml hlocks hown hts hK hnb hW hl
  have hS : va_S (fw_A mV X) s.heap s.heap [] := va_S.rf
  have hA : ∀ t, mV t → fw_A mV X (X.2.2 t) := fun t h => ⟨t, h, rfl⟩
  have htb := tb_use hts
  have hl : lv_has ls 5 [(0, .ref (X.2.2 (0, 0, 0))), (1, .int (nI cd)), (2, .int (nI zo))] := hl
  have hown : s.vm.findClass "TapOfficeModel" = some m.cls := hown
  unfold ms_leave at he
  refine lv_aload_n hx hb dM_leave_0 rfl (lv_at hl 0 rfl) ?_
  refine fw_get (X := X) (v := .ref (X.2.2 (4, 0, 0))) hx hb hts hin_M hown hK hW (0, 0, 0) mv0 rfl rfl 4 (by decide) (htb _ m_416 rfl) (fun _ h => h) rfl rfl dM_leave_1 ?_
  refine lv_iconst (v := 1) hx hb dM_leave_4 (by decide) ?_
  refine fw_iald (X := X) hx hb hK hW (4, 0, 0) mv4 rfl 0 rfl 1 (by decide) (by unfold vp_in; decide) dM_leave_5 ?_
  refine lv_if_ge (tgt := 47) hx hb dM_leave_6 (by decide) (fun c1 => ?_) (fun c1 => ?_)
  · rw [if_pos c1] at he
    refine lv_aload_n hx hb dM_leave_47 rfl (lv_at hl 0 rfl) ?_
    refine fw_get (X := X) (v := .int (σ (0, 0, 0) 2)) hx hb hts hin_M hown hK hW (0, 0, 0) mv0 rfl rfl 2 (by decide) (htb _ m_414 rfl) (fun _ h => h) rfl rfl dM_leave_48 ?_
    refine lv_aload_n hx hb dM_leave_51 rfl (lv_at hl 0 rfl) ?_
    refine fw_get (X := X) (v := .ref (X.2.2 (4, 0, 0))) hx hb hts hin_M hown hK hW (0, 0, 0) mv0 rfl rfl 4 (by decide) (htb _ m_416 rfl) (fun _ h => h) rfl rfl dM_leave_52 ?_
    refine lv_iconst (v := 2) hx hb dM_leave_55 (by decide) ?_
    refine fw_iald (X := X) hx hb hK hW (4, 0, 0) mv4 rfl 0 rfl 2 (by decide) (by unfold vp_in; decide) dM_leave_56 ?_
    refine lv_sipush (v := 180) hx hb dM_leave_57 (by decide) ?_
    refine lv_iadd hx hb dM_leave_60 ?_
    refine lv_icmp_le (tgt := 109) hx hb dM_leave_61 (by decide) (fun c2 => ?_) (fun c2 => ?_)
    · rw [if_pos c2] at he
      refine lv_aload_n hx hb dM_leave_109 rfl (lv_at hl 0 rfl) ?_
      refine lv_aload_n hx hb dM_leave_110 rfl (lv_at hl 0 rfl) ?_
      refine fw_get (X := X) (v := .ref (X.2.2 (1, 0, 0))) hx hb hts hin_M hown hK hW (0, 0, 0) mv0 rfl rfl 0 (by decide) (htb _ m_412 rfl) (fun _ h => h) rfl rfl dM_leave_111 ?_
      refine lv_bipush (v := 6) hx hb dM_leave_114 (by decide) ?_
      refine lv_aload_n hx hb dM_leave_116 rfl (lv_at hl 0 rfl) ?_
      refine fw_get (X := X) (v := .ref (X.2.2 (4, 0, 0))) hx hb hts hin_M hown hK hW (0, 0, 0) mv0 rfl rfl 4 (by decide) (htb _ m_416 rfl) (fun _ h => h) rfl rfl dM_leave_117 ?_
      refine lv_iconst (v := 3) hx hb dM_leave_120 (by decide) ?_
      refine fw_iald (X := X) hx hb hK hW (4, 0, 0) mv4 rfl 0 rfl 3 (by decide) (by unfold vp_in; decide) dM_leave_121 ?_
      have hv3 : vp_in (σ (4, 0, 0) 3) 6 := hz3
      have hv3l := vi_lt hv3
      refine lv_eqi (vi_nI hv3) ?_
      refine lv_imul hx hb dM_leave_122 ?_
      refine lv_eqi (pk_mul 6 ((σ (4, 0, 0) 3).toNatClampNeg)) ?_
      refine lv_iload_n hx hb dM_leave_123 rfl (lv_at hl 2 rfl) ?_
      refine lv_iadd hx hb dM_leave_124 ?_
      refine lv_eqi (nI_add (6 * ((σ (4, 0, 0) 3).toNatClampNeg)) zo) ?_
      refine fw_iald (X := X) hx hb hK hW (1, 0, 0) mv1 rfl 0 rfl ((6 * ((σ (4, 0, 0) 3).toNatClampNeg)) + zo) (nI_clamp (by omega)) (vp_in_nI (by omega) (by decide)) dM_leave_125 ?_
      refine lv_aload_n hx hb dM_leave_126 rfl (lv_at hl 0 rfl) ?_
      refine fw_get (X := X) (v := .ref (X.2.2 (4, 0, 0))) hx hb hts hin_M hown hK hW (0, 0, 0) mv0 rfl rfl 4 (by decide) (htb _ m_416 rfl) (fun _ h => h) rfl rfl dM_leave_127 ?_
      refine lv_iconst (v := 2) hx hb dM_leave_130 (by decide) ?_
      refine fw_iald (X := X) hx hb hK hW (4, 0, 0) mv4 rfl 0 rfl 2 (by decide) (by unfold vp_in; decide) dM_leave_131 ?_
      refine fw_kp (va_runV (As := [.int (σ (1, 0, 0) ((6 * ((σ (4, 0, 0) 3).toNatClampNeg)) + zo)), .int (σ (4, 0, 0) 2)]) (rest := []) ⟨hx, hb, hml, hown, hts⟩ (cm_price l X hI σ (σ (1, 0, 0) ((6 * ((σ (4, 0, 0) 3).toNatClampNeg)) + zo)) (σ (4, 0, 0) 2) ) (cwV 2 hts (tb_V m_507 m_504 m_506 m_14 m_31) rfl rfl rfl (by decide +kernel) ⟨Nat.le_of_ble_eq_true rfl, Nat.le_of_ble_eq_true rfl⟩) (fw_preV (X := X) hK hnb hW (0, 0, 0) mv0 rfl rfl [.int (σ (1, 0, 0) ((6 * ((σ (4, 0, 0) 3).toNatClampNeg)) + zo)), .int (σ (4, 0, 0) 2)]) rfl rfl hl.1 rfl (lv_room (Nat.le_of_ble_eq_true rfl)) dM_leave_132 ⟨Nat.zero_le _, Nat.zero_le _⟩) hS (fun H locs hW hS => ?_)
      refine lv_aload_n hx hb dM_leave_135 rfl (lv_at hl 0 rfl) ?_
      refine fw_get (X := X) (v := .ref (X.2.2 (4, 0, 0))) hx hb hts hin_M hown hK hW (0, 0, 0) mv0 rfl rfl 4 (by decide) (htb _ m_416 rfl) (fun _ h => h) rfl rfl dM_leave_136 ?_
      refine lv_iconst (v := 4) hx hb dM_leave_139 (by decide) ?_
      refine fw_iald (X := X) hx hb hK hW (4, 0, 0) mv4 rfl 0 rfl 4 (by decide) (by unfold vp_in; decide) dM_leave_140 ?_
      refine lv_isub hx hb dM_leave_141 ?_
      refine lv_topi (fun z4 e5 => ?_)
      try rw [← e5] at he
      unfold ms_leave_s1 at he
      refine lv_istore (lv' := [(4, .int z4), (0, .ref (X.2.2 (0, 0, 0))), (1, .int (nI cd)), (2, .int (nI zo))]) hx hb dM_leave_142 hl (by decide) rfl (fun ls hl => ?_)
      refine lv_aload_n hx hb dM_leave_144 rfl (lv_at hl 1 rfl) ?_
      refine lv_iload hx hb dM_leave_145 (lv_at hl 0 rfl) ?_
      refine lv_if_ge (tgt := 154) hx hb dM_leave_147 (by decide) (fun c6 => ?_) (fun c6 => ?_)
      · rw [if_pos c6] at he
        refine lv_iload hx hb dM_leave_154 (lv_at hl 0 rfl) ?_
        refine lv_iload_n hx hb dM_leave_156 rfl (lv_at hl 2 rfl) ?_
        refine fw_kp (va_runV (As := [.int z4, .int (nI cd)]) (rest := []) ⟨hx, hb, hml, hown, hts⟩ (cm_capped l X hI σ z4 cd (by omega) ) (cwV 2 hts (tb_V m_511 m_508 m_510 m_15 m_31) rfl rfl rfl (by decide +kernel) ⟨Nat.le_of_ble_eq_true rfl, Nat.le_of_ble_eq_true rfl⟩) (fw_preV (X := X) hK hnb hW (0, 0, 0) mv0 rfl rfl [.int z4, .int (nI cd)]) rfl rfl hl.1 rfl (lv_room (Nat.le_of_ble_eq_true rfl)) dM_leave_157 ⟨Nat.zero_le _, Nat.zero_le _⟩) hS (fun H locs hW hS => ?_)
        refine lv_topi (fun z7 e8 => ?_)
        try rw [← e8] at he
        unfold ms_leave_s2 at he
        refine lv_istore_n (lv' := [(3, .int z7), (4, .int z4), (0, .ref (X.2.2 (0, 0, 0))), (1, .int (nI cd)), (2, .int (nI zo))]) hx hb dM_leave_160 rfl hl (by decide) rfl (fun ls hl => ?_)
        refine lv_aload_n hx hb dM_leave_161 rfl (lv_at hl 2 rfl) ?_
        refine fw_get (X := X) (v := .ref (X.2.2 (4, 0, 0))) hx hb hts hin_M hown hK hW (0, 0, 0) mv0 rfl rfl 4 (by decide) (htb _ m_416 rfl) (fun _ h => h) rfl rfl dM_leave_162 ?_
        refine lv_iconst (v := 4) hx hb dM_leave_165 (by decide) ?_
        refine lv_dup2_11 hx hb dM_leave_166 rfl rfl ?_
        refine fw_iald (X := X) hx hb hK hW (4, 0, 0) mv4 rfl 0 rfl 4 (by decide) (by unfold vp_in; decide) dM_leave_167 ?_
        refine lv_iload_n hx hb dM_leave_168 rfl (lv_at hl 0 rfl) ?_
        refine lv_iadd hx hb dM_leave_169 ?_
        refine fw_iast (X := X) hx hb hK hW hI hA hS (4, 0, 0) mv4 rfl 0 rfl 4 (by decide) (by unfold vp_in; decide) dM_leave_170 (fun H locs hW hS => ?_)
        obtain ⟨σ9, e10⟩ : ∃ z : fw_S, z = fw_st σ (4, 0, 0) 4 ((σ (4, 0, 0) 4) + z7) := ⟨_, rfl⟩
        rw [← e10] at hW
        try rw [← e10] at he
        unfold ms_leave_s3 at he
        refine lv_aload_n hx hb dM_leave_171 rfl (lv_at hl 2 rfl) ?_
        refine fw_get (X := X) (v := .ref (X.2.2 (4, 0, 0))) hx hb hts hin_M hown hK hW (0, 0, 0) mv0 rfl rfl 4 (by decide) (htb _ m_416 rfl) (fun _ h => h) rfl rfl dM_leave_172 ?_
        refine lv_iconst (v := 5) hx hb dM_leave_175 (by decide) ?_
        refine lv_aload_n hx hb dM_leave_176 rfl (lv_at hl 2 rfl) ?_
        refine fw_get (X := X) (v := .int (σ9 (0, 0, 0) 2)) hx hb hts hin_M hown hK hW (0, 0, 0) mv0 rfl rfl 2 (by decide) (htb _ m_414 rfl) (fun _ h => h) rfl rfl dM_leave_177 ?_
        refine fw_iast (X := X) hx hb hK hW hI hA hS (4, 0, 0) mv4 rfl 0 rfl 5 (by decide) (by unfold vp_in; decide) dM_leave_180 (fun H locs hW hS => ?_)
        obtain ⟨σ11, e12⟩ : ∃ z : fw_S, z = fw_st σ9 (4, 0, 0) 5 (σ9 (0, 0, 0) 2) := ⟨_, rfl⟩
        rw [← e12] at hW
        try rw [← e12] at he
        unfold ms_leave_s4 at he
        refine lv_aload_n hx hb dM_leave_181 rfl (lv_at hl 2 rfl) ?_
        refine fw_get (X := X) (v := .ref (X.2.2 (4, 0, 0))) hx hb hts hin_M hown hK hW (0, 0, 0) mv0 rfl rfl 4 (by decide) (htb _ m_416 rfl) (fun _ h => h) rfl rfl dM_leave_182 ?_
        refine lv_iconst (v := 1) hx hb dM_leave_185 (by decide) ?_
        refine lv_iconst (v := (-1)) hx hb dM_leave_186 (by decide) ?_
        refine fw_iast (X := X) hx hb hK hW hI hA hS (4, 0, 0) mv4 rfl 0 rfl 1 (by decide) (by unfold vp_in; decide) dM_leave_187 (fun H locs hW hS => ?_)
        obtain ⟨σ13, e14⟩ : ∃ z : fw_S, z = fw_st σ11 (4, 0, 0) 1 (-1) := ⟨_, rfl⟩
        rw [← e14] at hW
        try rw [← e14] at he
        unfold ms_leave_s5 at he
        refine lv_iload_n hx hb dM_leave_188 rfl (lv_at hl 0 rfl) ?_
        exact fw_iret hx hb hr hlocks hK hnb hW hS he dM_leave_189
      · rw [if_neg c6] at he
        refine lv_iconst (v := 0) hx hb dM_leave_150 (by decide) ?_
        refine lv_goto (tgt := 156) hx hb dM_leave_151 (by decide) ?_
        refine lv_iload_n hx hb dM_leave_156 rfl (lv_at hl 2 rfl) ?_
        refine fw_kp (va_runV (As := [.int 0, .int (nI cd)]) (rest := []) ⟨hx, hb, hml, hown, hts⟩ (cm_capped l X hI σ 0 cd (by omega) ) (cwV 2 hts (tb_V m_511 m_508 m_510 m_15 m_31) rfl rfl rfl (by decide +kernel) ⟨Nat.le_of_ble_eq_true rfl, Nat.le_of_ble_eq_true rfl⟩) (fw_preV (X := X) hK hnb hW (0, 0, 0) mv0 rfl rfl [.int 0, .int (nI cd)]) rfl rfl hl.1 rfl (lv_room (Nat.le_of_ble_eq_true rfl)) dM_leave_157 ⟨Nat.zero_le _, Nat.zero_le _⟩) hS (fun H locs hW hS => ?_)
        refine lv_topi (fun z15 e16 => ?_)
        try rw [← e16] at he
        unfold ms_leave_s6 at he
        refine lv_istore_n (lv' := [(3, .int z15), (4, .int z4), (0, .ref (X.2.2 (0, 0, 0))), (1, .int (nI cd)), (2, .int (nI zo))]) hx hb dM_leave_160 rfl hl (by decide) rfl (fun ls hl => ?_)
        refine lv_aload_n hx hb dM_leave_161 rfl (lv_at hl 2 rfl) ?_
        refine fw_get (X := X) (v := .ref (X.2.2 (4, 0, 0))) hx hb hts hin_M hown hK hW (0, 0, 0) mv0 rfl rfl 4 (by decide) (htb _ m_416 rfl) (fun _ h => h) rfl rfl dM_leave_162 ?_
        refine lv_iconst (v := 4) hx hb dM_leave_165 (by decide) ?_
        refine lv_dup2_11 hx hb dM_leave_166 rfl rfl ?_
        refine fw_iald (X := X) hx hb hK hW (4, 0, 0) mv4 rfl 0 rfl 4 (by decide) (by unfold vp_in; decide) dM_leave_167 ?_
        refine lv_iload_n hx hb dM_leave_168 rfl (lv_at hl 0 rfl) ?_
        refine lv_iadd hx hb dM_leave_169 ?_
        refine fw_iast (X := X) hx hb hK hW hI hA hS (4, 0, 0) mv4 rfl 0 rfl 4 (by decide) (by unfold vp_in; decide) dM_leave_170 (fun H locs hW hS => ?_)
        obtain ⟨σ17, e18⟩ : ∃ z : fw_S, z = fw_st σ (4, 0, 0) 4 ((σ (4, 0, 0) 4) + z15) := ⟨_, rfl⟩
        rw [← e18] at hW
        try rw [← e18] at he
        unfold ms_leave_s7 at he
        refine lv_aload_n hx hb dM_leave_171 rfl (lv_at hl 2 rfl) ?_
        refine fw_get (X := X) (v := .ref (X.2.2 (4, 0, 0))) hx hb hts hin_M hown hK hW (0, 0, 0) mv0 rfl rfl 4 (by decide) (htb _ m_416 rfl) (fun _ h => h) rfl rfl dM_leave_172 ?_
        refine lv_iconst (v := 5) hx hb dM_leave_175 (by decide) ?_
        refine lv_aload_n hx hb dM_leave_176 rfl (lv_at hl 2 rfl) ?_
        refine fw_get (X := X) (v := .int (σ17 (0, 0, 0) 2)) hx hb hts hin_M hown hK hW (0, 0, 0) mv0 rfl rfl 2 (by decide) (htb _ m_414 rfl) (fun _ h => h) rfl rfl dM_leave_177 ?_
        refine fw_iast (X := X) hx hb hK hW hI hA hS (4, 0, 0) mv4 rfl 0 rfl 5 (by decide) (by unfold vp_in; decide) dM_leave_180 (fun H locs hW hS => ?_)
        obtain ⟨σ19, e20⟩ : ∃ z : fw_S, z = fw_st σ17 (4, 0, 0) 5 (σ17 (0, 0, 0) 2) := ⟨_, rfl⟩
        rw [← e20] at hW
        try rw [← e20] at he
        unfold ms_leave_s8 at he
        refine lv_aload_n hx hb dM_leave_181 rfl (lv_at hl 2 rfl) ?_
        refine fw_get (X := X) (v := .ref (X.2.2 (4, 0, 0))) hx hb hts hin_M hown hK hW (0, 0, 0) mv0 rfl rfl 4 (by decide) (htb _ m_416 rfl) (fun _ h => h) rfl rfl dM_leave_182 ?_
        refine lv_iconst (v := 1) hx hb dM_leave_185 (by decide) ?_
        refine lv_iconst (v := (-1)) hx hb dM_leave_186 (by decide) ?_
        refine fw_iast (X := X) hx hb hK hW hI hA hS (4, 0, 0) mv4 rfl 0 rfl 1 (by decide) (by unfold vp_in; decide) dM_leave_187 (fun H locs hW hS => ?_)
        obtain ⟨σ21, e22⟩ : ∃ z : fw_S, z = fw_st σ19 (4, 0, 0) 1 (-1) := ⟨_, rfl⟩
        rw [← e22] at hW
        try rw [← e22] at he
        unfold ms_leave_s9 at he
        refine lv_iload_n hx hb dM_leave_188 rfl (lv_at hl 0 rfl) ?_
        exact fw_iret hx hb hr hlocks hK hnb hW hS he dM_leave_189
    · rw [if_neg c2] at he
      refine lv_aload_n hx hb dM_leave_64 rfl (lv_at hl 0 rfl) ?_
      refine lv_aload_n hx hb dM_leave_65 rfl (lv_at hl 0 rfl) ?_
      refine lv_aload_n hx hb dM_leave_66 rfl (lv_at hl 0 rfl) ?_
      refine lv_aload_n hx hb dM_leave_67 rfl (lv_at hl 0 rfl) ?_
      refine fw_get (X := X) (v := .ref (X.2.2 (4, 0, 0))) hx hb hts hin_M hown hK hW (0, 0, 0) mv0 rfl rfl 4 (by decide) (htb _ m_416 rfl) (fun _ h => h) rfl rfl dM_leave_68 ?_
      refine lv_iconst (v := 1) hx hb dM_leave_71 (by decide) ?_
      refine fw_iald (X := X) hx hb hK hW (4, 0, 0) mv4 rfl 0 rfl 1 (by decide) (by unfold vp_in; decide) dM_leave_72 ?_
      have hv23 : vp_in (σ (4, 0, 0) 1) 6 := hz1.resolve_left (Int32.not_lt.mpr ‹0 ≤ σ (4, 0, 0) 1›)
      have hv23l := vi_lt hv23
      refine lv_eqi (vi_nI hv23) ?_
      refine fw_kp (va_runV (As := [.int (nI ((σ (4, 0, 0) 1).toNatClampNeg))]) (rest := [.ref (X.2.2 (0, 0, 0)), .ref (X.2.2 (0, 0, 0))]) ⟨hx, hb, hml, hown, hts⟩ (cm_full l X hI σ ((σ (4, 0, 0) 1).toNatClampNeg) (by omega) ) (cwV 1 hts (tb_V m_503 m_500 m_502 m_13 m_31) rfl rfl rfl (by decide +kernel) ⟨Nat.le_of_ble_eq_true rfl, Nat.le_of_ble_eq_true rfl⟩) (fw_preV (X := X) hK hnb hW (0, 0, 0) mv0 rfl rfl [.int (nI ((σ (4, 0, 0) 1).toNatClampNeg))]) rfl rfl hl.1 rfl (lv_room (Nat.le_of_ble_eq_true rfl)) dM_leave_73 ⟨Nat.zero_le _, Nat.zero_le _⟩) hS (fun H locs hW hS => ?_)
      refine lv_aload_n hx hb dM_leave_76 rfl (lv_at hl 0 rfl) ?_
      refine fw_get (X := X) (v := .ref (X.2.2 (4, 0, 0))) hx hb hts hin_M hown hK hW (0, 0, 0) mv0 rfl rfl 4 (by decide) (htb _ m_416 rfl) (fun _ h => h) rfl rfl dM_leave_77 ?_
      refine lv_iconst (v := 2) hx hb dM_leave_80 (by decide) ?_
      refine fw_iald (X := X) hx hb hK hW (4, 0, 0) mv4 rfl 0 rfl 2 (by decide) (by unfold vp_in; decide) dM_leave_81 ?_
      refine fw_kp (va_runV (As := [.int (ms_full σ ((σ (4, 0, 0) 1).toNatClampNeg)), .int (σ (4, 0, 0) 2)]) (rest := [.ref (X.2.2 (0, 0, 0))]) ⟨hx, hb, hml, hown, hts⟩ (cm_price l X hI σ (ms_full σ ((σ (4, 0, 0) 1).toNatClampNeg)) (σ (4, 0, 0) 2) ) (cwV 2 hts (tb_V m_507 m_504 m_506 m_14 m_31) rfl rfl rfl (by decide +kernel) ⟨Nat.le_of_ble_eq_true rfl, Nat.le_of_ble_eq_true rfl⟩) (fw_preV (X := X) hK hnb hW (0, 0, 0) mv0 rfl rfl [.int (ms_full σ ((σ (4, 0, 0) 1).toNatClampNeg)), .int (σ (4, 0, 0) 2)]) rfl rfl hl.1 rfl (lv_room (Nat.le_of_ble_eq_true rfl)) dM_leave_82 ⟨Nat.zero_le _, Nat.zero_le _⟩) hS (fun H locs hW hS => ?_)
      refine lv_iload_n hx hb dM_leave_85 rfl (lv_at hl 1 rfl) ?_
      refine fw_kp (va_runV (As := [.int (ms_price σ (ms_full σ ((σ (4, 0, 0) 1).toNatClampNeg)) (σ (4, 0, 0) 2)), .int (nI cd)]) (rest := []) ⟨hx, hb, hml, hown, hts⟩ (cm_capped l X hI σ (ms_price σ (ms_full σ ((σ (4, 0, 0) 1).toNatClampNeg)) (σ (4, 0, 0) 2)) cd (by omega) ) (cwV 2 hts (tb_V m_511 m_508 m_510 m_15 m_31) rfl rfl rfl (by decide +kernel) ⟨Nat.le_of_ble_eq_true rfl, Nat.le_of_ble_eq_true rfl⟩) (fw_preV (X := X) hK hnb hW (0, 0, 0) mv0 rfl rfl [.int (ms_price σ (ms_full σ ((σ (4, 0, 0) 1).toNatClampNeg)) (σ (4, 0, 0) 2)), .int (nI cd)]) rfl rfl hl.1 rfl (lv_room (Nat.le_of_ble_eq_true rfl)) dM_leave_86 ⟨Nat.zero_le _, Nat.zero_le _⟩) hS (fun H locs hW hS => ?_)
      refine lv_topi (fun z24 e25 => ?_)
      try rw [← e25] at he
      unfold ms_leave_s10 at he
      refine lv_istore_n (lv' := [(3, .int z24), (0, .ref (X.2.2 (0, 0, 0))), (1, .int (nI cd)), (2, .int (nI zo))]) hx hb dM_leave_89 rfl hl (by decide) rfl (fun ls hl => ?_)
      refine lv_aload_n hx hb dM_leave_90 rfl (lv_at hl 1 rfl) ?_
      refine fw_get (X := X) (v := .ref (X.2.2 (4, 0, 0))) hx hb hts hin_M hown hK hW (0, 0, 0) mv0 rfl rfl 4 (by decide) (htb _ m_416 rfl) (fun _ h => h) rfl rfl dM_leave_91 ?_
      refine lv_iconst (v := 4) hx hb dM_leave_94 (by decide) ?_
      refine lv_iconst (v := 0) hx hb dM_leave_95 (by decide) ?_
      refine fw_iast (X := X) hx hb hK hW hI hA hS (4, 0, 0) mv4 rfl 0 rfl 4 (by decide) (by unfold vp_in; decide) dM_leave_96 (fun H locs hW hS => ?_)
      obtain ⟨σ26, e27⟩ : ∃ z : fw_S, z = fw_st σ (4, 0, 0) 4 0 := ⟨_, rfl⟩
      rw [← e27] at hW
      try rw [← e27] at he
      unfold ms_leave_s11 at he
      refine lv_aload_n hx hb dM_leave_97 rfl (lv_at hl 1 rfl) ?_
      refine fw_get (X := X) (v := .ref (X.2.2 (4, 0, 0))) hx hb hts hin_M hown hK hW (0, 0, 0) mv0 rfl rfl 4 (by decide) (htb _ m_416 rfl) (fun _ h => h) rfl rfl dM_leave_98 ?_
      refine lv_iconst (v := 5) hx hb dM_leave_101 (by decide) ?_
      refine lv_sipush (v := (-1000)) hx hb dM_leave_102 (by decide) ?_
      refine fw_iast (X := X) hx hb hK hW hI hA hS (4, 0, 0) mv4 rfl 0 rfl 5 (by decide) (by unfold vp_in; decide) dM_leave_105 (fun H locs hW hS => ?_)
      obtain ⟨σ28, e29⟩ : ∃ z : fw_S, z = fw_st σ26 (4, 0, 0) 5 (-1000) := ⟨_, rfl⟩
      rw [← e29] at hW
      try rw [← e29] at he
      unfold ms_leave_s12 at he
      refine lv_goto (tgt := 181) hx hb dM_leave_106 (by decide) ?_
      refine lv_aload_n hx hb dM_leave_181 rfl (lv_at hl 1 rfl) ?_
      refine fw_get (X := X) (v := .ref (X.2.2 (4, 0, 0))) hx hb hts hin_M hown hK hW (0, 0, 0) mv0 rfl rfl 4 (by decide) (htb _ m_416 rfl) (fun _ h => h) rfl rfl dM_leave_182 ?_
      refine lv_iconst (v := 1) hx hb dM_leave_185 (by decide) ?_
      refine lv_iconst (v := (-1)) hx hb dM_leave_186 (by decide) ?_
      refine fw_iast (X := X) hx hb hK hW hI hA hS (4, 0, 0) mv4 rfl 0 rfl 1 (by decide) (by unfold vp_in; decide) dM_leave_187 (fun H locs hW hS => ?_)
      obtain ⟨σ30, e31⟩ : ∃ z : fw_S, z = fw_st σ28 (4, 0, 0) 1 (-1) := ⟨_, rfl⟩
      rw [← e31] at hW
      try rw [← e31] at he
      unfold ms_leave_s13 at he
      refine lv_iload_n hx hb dM_leave_188 rfl (lv_at hl 0 rfl) ?_
      exact fw_iret hx hb hr hlocks hK hnb hW hS he dM_leave_189
  · rw [if_neg c1] at he
    refine lv_aload_n hx hb dM_leave_9 rfl (lv_at hl 0 rfl) ?_
    refine lv_aload_n hx hb dM_leave_10 rfl (lv_at hl 0 rfl) ?_
    refine lv_aload_n hx hb dM_leave_11 rfl (lv_at hl 0 rfl) ?_
    refine lv_iload_n hx hb dM_leave_12 rfl (lv_at hl 2 rfl) ?_
    refine fw_kp (va_runV (As := [.int (nI zo)]) (rest := [.ref (X.2.2 (0, 0, 0)), .ref (X.2.2 (0, 0, 0))]) ⟨hx, hb, hml, hown, hts⟩ (cm_full l X hI σ zo (by omega) ) (cwV 1 hts (tb_V m_503 m_500 m_502 m_13 m_31) rfl rfl rfl (by decide +kernel) ⟨Nat.le_of_ble_eq_true rfl, Nat.le_of_ble_eq_true rfl⟩) (fw_preV (X := X) hK hnb hW (0, 0, 0) mv0 rfl rfl [.int (nI zo)]) rfl rfl hl.1 rfl (lv_room (Nat.le_of_ble_eq_true rfl)) dM_leave_13 ⟨Nat.zero_le _, Nat.zero_le _⟩) hS (fun H locs hW hS => ?_)
    refine lv_aload_n hx hb dM_leave_16 rfl (lv_at hl 0 rfl) ?_
    refine fw_get (X := X) (v := .int (σ (0, 0, 0) 2)) hx hb hts hin_M hown hK hW (0, 0, 0) mv0 rfl rfl 2 (by decide) (htb _ m_414 rfl) (fun _ h => h) rfl rfl dM_leave_17 ?_
    refine fw_kp (va_runV (As := [.int (ms_full σ zo), .int (σ (0, 0, 0) 2)]) (rest := [.ref (X.2.2 (0, 0, 0))]) ⟨hx, hb, hml, hown, hts⟩ (cm_price l X hI σ (ms_full σ zo) (σ (0, 0, 0) 2) ) (cwV 2 hts (tb_V m_507 m_504 m_506 m_14 m_31) rfl rfl rfl (by decide +kernel) ⟨Nat.le_of_ble_eq_true rfl, Nat.le_of_ble_eq_true rfl⟩) (fw_preV (X := X) hK hnb hW (0, 0, 0) mv0 rfl rfl [.int (ms_full σ zo), .int (σ (0, 0, 0) 2)]) rfl rfl hl.1 rfl (lv_room (Nat.le_of_ble_eq_true rfl)) dM_leave_20 ⟨Nat.zero_le _, Nat.zero_le _⟩) hS (fun H locs hW hS => ?_)
    refine lv_iload_n hx hb dM_leave_23 rfl (lv_at hl 1 rfl) ?_
    refine fw_kp (va_runV (As := [.int (ms_price σ (ms_full σ zo) (σ (0, 0, 0) 2)), .int (nI cd)]) (rest := []) ⟨hx, hb, hml, hown, hts⟩ (cm_capped l X hI σ (ms_price σ (ms_full σ zo) (σ (0, 0, 0) 2)) cd (by omega) ) (cwV 2 hts (tb_V m_511 m_508 m_510 m_15 m_31) rfl rfl rfl (by decide +kernel) ⟨Nat.le_of_ble_eq_true rfl, Nat.le_of_ble_eq_true rfl⟩) (fw_preV (X := X) hK hnb hW (0, 0, 0) mv0 rfl rfl [.int (ms_price σ (ms_full σ zo) (σ (0, 0, 0) 2)), .int (nI cd)]) rfl rfl hl.1 rfl (lv_room (Nat.le_of_ble_eq_true rfl)) dM_leave_24 ⟨Nat.zero_le _, Nat.zero_le _⟩) hS (fun H locs hW hS => ?_)
    refine lv_topi (fun z32 e33 => ?_)
    try rw [← e33] at he
    unfold ms_leave_s14 at he
    refine lv_istore_n (lv' := [(3, .int z32), (0, .ref (X.2.2 (0, 0, 0))), (1, .int (nI cd)), (2, .int (nI zo))]) hx hb dM_leave_27 rfl hl (by decide) rfl (fun ls hl => ?_)
    refine lv_aload_n hx hb dM_leave_28 rfl (lv_at hl 1 rfl) ?_
    refine fw_get (X := X) (v := .ref (X.2.2 (4, 0, 0))) hx hb hts hin_M hown hK hW (0, 0, 0) mv0 rfl rfl 4 (by decide) (htb _ m_416 rfl) (fun _ h => h) rfl rfl dM_leave_29 ?_
    refine lv_iconst (v := 4) hx hb dM_leave_32 (by decide) ?_
    refine lv_iconst (v := 0) hx hb dM_leave_33 (by decide) ?_
    refine fw_iast (X := X) hx hb hK hW hI hA hS (4, 0, 0) mv4 rfl 0 rfl 4 (by decide) (by unfold vp_in; decide) dM_leave_34 (fun H locs hW hS => ?_)
    obtain ⟨σ34, e35⟩ : ∃ z : fw_S, z = fw_st σ (4, 0, 0) 4 0 := ⟨_, rfl⟩
    rw [← e35] at hW
    try rw [← e35] at he
    unfold ms_leave_s15 at he
    refine lv_aload_n hx hb dM_leave_35 rfl (lv_at hl 1 rfl) ?_
    refine fw_get (X := X) (v := .ref (X.2.2 (4, 0, 0))) hx hb hts hin_M hown hK hW (0, 0, 0) mv0 rfl rfl 4 (by decide) (htb _ m_416 rfl) (fun _ h => h) rfl rfl dM_leave_36 ?_
    refine lv_iconst (v := 5) hx hb dM_leave_39 (by decide) ?_
    refine lv_sipush (v := (-1000)) hx hb dM_leave_40 (by decide) ?_
    refine fw_iast (X := X) hx hb hK hW hI hA hS (4, 0, 0) mv4 rfl 0 rfl 5 (by decide) (by unfold vp_in; decide) dM_leave_43 (fun H locs hW hS => ?_)
    obtain ⟨σ36, e37⟩ : ∃ z : fw_S, z = fw_st σ34 (4, 0, 0) 5 (-1000) := ⟨_, rfl⟩
    rw [← e37] at hW
    try rw [← e37] at he
    unfold ms_leave_s16 at he
    refine lv_goto (tgt := 181) hx hb dM_leave_44 (by decide) ?_
    refine lv_aload_n hx hb dM_leave_181 rfl (lv_at hl 1 rfl) ?_
    refine fw_get (X := X) (v := .ref (X.2.2 (4, 0, 0))) hx hb hts hin_M hown hK hW (0, 0, 0) mv0 rfl rfl 4 (by decide) (htb _ m_416 rfl) (fun _ h => h) rfl rfl dM_leave_182 ?_
    refine lv_iconst (v := 1) hx hb dM_leave_185 (by decide) ?_
    refine lv_iconst (v := (-1)) hx hb dM_leave_186 (by decide) ?_
    refine fw_iast (X := X) hx hb hK hW hI hA hS (4, 0, 0) mv4 rfl 0 rfl 1 (by decide) (by unfold vp_in; decide) dM_leave_187 (fun H locs hW hS => ?_)
    obtain ⟨σ38, e39⟩ : ∃ z : fw_S, z = fw_st σ36 (4, 0, 0) 1 (-1) := ⟨_, rfl⟩
    rw [← e39] at hW
    try rw [← e39] at he
    unfold ms_leave_s17 at he
    refine lv_iload_n hx hb dM_leave_188 rfl (lv_at hl 0 rfl) ?_
    exact fw_iret hx hb hr hlocks hK hnb hW hS he dM_leave_189
def ms_enterOffice_s3 (σ5 : fw_S) : fw_S :=
  σ5
def ms_enterOffice_s2 (cd : Nat) (k : Nat) (a5 : Int32) (σ3 : fw_S) : fw_S :=
  ms_enterOffice_s3 (fw_st σ3 (14, 0, 0) ((520 * cd) + k) a5)
def ms_enterOffice_s1 (cd : Nat) (k : Nat) (a4 : Int32) (a5 : Int32) (σ1 : fw_S) : fw_S :=
  ms_enterOffice_s2 cd k a5 (fw_st σ1 (13, 0, 0) ((520 * cd) + k) a4)
def ms_enterOffice (σ : fw_S) (cd : Nat) (k : Nat) (a3 : Int32) (a4 : Int32) (a5 : Int32) : fw_S :=
  ms_enterOffice_s1 cd k a4 a5 (fw_st σ (12, 0, 0) ((520 * cd) + k) a3)
set_option maxHeartbeats 4000000 in
set_option maxRecDepth 100000 in
theorem cm_enterOffice (l : Launch) (X : fw_X) (hI : fw_I mV X) (σ : fw_S) (cd : Nat) (hcd : cd < 4) (k : Nat) (hk : k < 520) (a3 : Int32) (a4 : Int32) (a5 : Int32)  : fw_Mv fw_cl msh mV fw_tys l yM_enterOffice wM_enterOffice (fw_rm 0) X σ [.ref (X.2.2 (0, 0, 0)), .int (nI cd), .int (nI k), .int a3, .int a4, .int a5] (ms_enterOffice σ cd k a3 a4 a5) := by
  obtain ⟨out, he⟩ : ∃ z : fw_S, z = ms_enterOffice σ cd k a3 a4 a5 := ⟨_, rfl⟩
  rw [← he]
  refine fw_Mv_of (cc := bM_enterOffice) (maxL := 6) (ret := none) (by decide) rfl (Nat.le_of_ble_eq_true rfl) ?_
  intro p e s m below meth c ls hx hb hr hml hlocks hown hts hK hnb hW hl
  have hS : va_S (fw_A mV X) s.heap s.heap [] := va_S.rf
  have hA : ∀ t, mV t → fw_A mV X (X.2.2 t) := fun t h => ⟨t, h, rfl⟩
  have htb := tb_use hts
  have hl : lv_has ls 6 [(0, .ref (X.2.2 (0, 0, 0))), (1, .int (nI cd)), (2, .int (nI k)), (3, .int a3), (4, .int a4), (5, .int a5)] := hl
  have hown : s.vm.findClass "TapOfficeModel" = some m.cls := hown
  unfold ms_enterOffice at he
  refine lv_aload_n hx hb dM_enterOffice_0 rfl (lv_at hl 0 rfl) ?_
  refine fw_get (X := X) (v := .ref (X.2.2 (12, 0, 0))) hx hb hts hin_M hown hK hW (0, 0, 0) mv0 rfl rfl 13 (by decide) (htb _ m_425 rfl) (fun _ h => h) rfl rfl dM_enterOffice_1 ?_
  refine lv_sipush (v := 520) hx hb dM_enterOffice_4 (by decide) ?_
  refine lv_iload_n hx hb dM_enterOffice_7 rfl (lv_at hl 1 rfl) ?_
  refine lv_imul hx hb dM_enterOffice_8 ?_
  refine lv_eqi (pk_mul 520 cd) ?_
  refine lv_iload_n hx hb dM_enterOffice_9 rfl (lv_at hl 2 rfl) ?_
  refine lv_iadd hx hb dM_enterOffice_10 ?_
  refine lv_eqi (nI_add (520 * cd) k) ?_
  refine lv_iload_n hx hb dM_enterOffice_11 rfl (lv_at hl 3 rfl) ?_
  refine fw_iast (X := X) hx hb hK hW hI hA hS (12, 0, 0) mv12 rfl 0 rfl ((520 * cd) + k) (nI_clamp (by omega)) (vp_in_nI (by omega) (by decide)) dM_enterOffice_12 (fun H locs hW hS => ?_)
  obtain ⟨σ1, e2⟩ : ∃ z : fw_S, z = fw_st σ (12, 0, 0) ((520 * cd) + k) a3 := ⟨_, rfl⟩
  rw [← e2] at hW
  try rw [← e2] at he
  unfold ms_enterOffice_s1 at he
  refine lv_aload_n hx hb dM_enterOffice_13 rfl (lv_at hl 0 rfl) ?_
  refine fw_get (X := X) (v := .ref (X.2.2 (13, 0, 0))) hx hb hts hin_M hown hK hW (0, 0, 0) mv0 rfl rfl 14 (by decide) (htb _ m_426 rfl) (fun _ h => h) rfl rfl dM_enterOffice_14 ?_
  refine lv_sipush (v := 520) hx hb dM_enterOffice_17 (by decide) ?_
  refine lv_iload_n hx hb dM_enterOffice_20 rfl (lv_at hl 1 rfl) ?_
  refine lv_imul hx hb dM_enterOffice_21 ?_
  refine lv_eqi (pk_mul 520 cd) ?_
  refine lv_iload_n hx hb dM_enterOffice_22 rfl (lv_at hl 2 rfl) ?_
  refine lv_iadd hx hb dM_enterOffice_23 ?_
  refine lv_eqi (nI_add (520 * cd) k) ?_
  refine lv_iload hx hb dM_enterOffice_24 (lv_at hl 4 rfl) ?_
  refine fw_iast (X := X) hx hb hK hW hI hA hS (13, 0, 0) mv13 rfl 0 rfl ((520 * cd) + k) (nI_clamp (by omega)) (vp_in_nI (by omega) (by decide)) dM_enterOffice_26 (fun H locs hW hS => ?_)
  obtain ⟨σ3, e4⟩ : ∃ z : fw_S, z = fw_st σ1 (13, 0, 0) ((520 * cd) + k) a4 := ⟨_, rfl⟩
  rw [← e4] at hW
  try rw [← e4] at he
  unfold ms_enterOffice_s2 at he
  refine lv_aload_n hx hb dM_enterOffice_27 rfl (lv_at hl 0 rfl) ?_
  refine fw_get (X := X) (v := .ref (X.2.2 (14, 0, 0))) hx hb hts hin_M hown hK hW (0, 0, 0) mv0 rfl rfl 15 (by decide) (htb _ m_427 rfl) (fun _ h => h) rfl rfl dM_enterOffice_28 ?_
  refine lv_sipush (v := 520) hx hb dM_enterOffice_31 (by decide) ?_
  refine lv_iload_n hx hb dM_enterOffice_34 rfl (lv_at hl 1 rfl) ?_
  refine lv_imul hx hb dM_enterOffice_35 ?_
  refine lv_eqi (pk_mul 520 cd) ?_
  refine lv_iload_n hx hb dM_enterOffice_36 rfl (lv_at hl 2 rfl) ?_
  refine lv_iadd hx hb dM_enterOffice_37 ?_
  refine lv_eqi (nI_add (520 * cd) k) ?_
  refine lv_iload hx hb dM_enterOffice_38 (lv_at hl 5 rfl) ?_
  refine fw_iast (X := X) hx hb hK hW hI hA hS (14, 0, 0) mv14 rfl 0 rfl ((520 * cd) + k) (nI_clamp (by omega)) (vp_in_nI (by omega) (by decide)) dM_enterOffice_40 (fun H locs hW hS => ?_)
  obtain ⟨σ5, e6⟩ : ∃ z : fw_S, z = fw_st σ3 (14, 0, 0) ((520 * cd) + k) a5 := ⟨_, rfl⟩
  rw [← e6] at hW
  try rw [← e6] at he
  unfold ms_enterOffice_s3 at he
  exact fw_vret hx hb hr hlocks hK hnb hW hS he dM_enterOffice_41
theorem fr_enter (σ : fw_S) (c z : Nat) (u : fw_T) (h : u.1 ≠ 4) : (ms_enter σ c z).2 u = σ u := by
  simp only [ms_enter, ms_enter_s2, ms_enter_s1, ms_enter_s6, ms_enter_s5, ms_enter_s4, ms_enter_s3, ms_enter_s11, ms_enter_s10, ms_enter_s9, ms_enter_s8, ms_enter_s7]
  repeat' split
  all_goals simp only [fw_st_off (t := (4, 0, 0)) h]
theorem fr_leave (σ : fw_S) (c z : Nat) (u : fw_T) (h : u.1 ≠ 4) : (ms_leave σ c z).2 u = σ u := by
  simp only [ms_leave, ms_leave_s5, ms_leave_s4, ms_leave_s3, ms_leave_s2, ms_leave_s9, ms_leave_s8, ms_leave_s7, ms_leave_s6, ms_leave_s1, ms_leave_s13, ms_leave_s12, ms_leave_s11, ms_leave_s10, ms_leave_s17, ms_leave_s16, ms_leave_s15, ms_leave_s14]
  repeat' split
  all_goals simp only [fw_st_off (t := (4, 0, 0)) h]
theorem fr_enterOffice (σ : fw_S) (c k : Nat) (a b d : Int32) (u : fw_T) (h1 : u.1 ≠ 12) (h2 : u.1 ≠ 13) (h3 : u.1 ≠ 14) : ms_enterOffice σ c k a b d u = σ u := by
  simp only [ms_enterOffice, ms_enterOffice_s3, ms_enterOffice_s2, ms_enterOffice_s1]
  rw [fw_st_off h3, fw_st_off h2, fw_st_off h1]

def cs_isBelow (a1 : Int32) (a2 : Int32) : Int32 :=
  if a1 < 0 then 0 else if a2 ≤ a1 then 0 else 1
set_option maxHeartbeats 4000000 in
set_option maxRecDepth 100000 in
theorem c_isBelow (l : Launch) (X : fw_X) (hI : fw_I cV X) (σ : fw_S) (a1 a2 : Int32)  : fw_Mi fw_cl csh cV fw_tys l yO_isBelow wO_isBelow (fw_rm 0) X σ [.int a1, .int a2] ((cs_isBelow a1 a2, σ)) := by
  obtain ⟨out, he⟩ : ∃ z : Int32, z = cs_isBelow a1 a2 := ⟨_, rfl⟩
  rw [← he]
  refine fw_Mi_of (cc := bO_isBelow) (maxL := 2) (ret := (some .boolean)) (by decide) rfl (Nat.le_of_ble_eq_true rfl) ?_
  intro p e s m below meth c ls hx hb hr hml hlocks hown hts hK hnb hW hl
  have hS : va_S (fw_A cV X) s.heap s.heap [] := va_S.rf
  have hA : ∀ t, cV t → fw_A cV X (X.2.2 t) := fun t h => ⟨t, h, rfl⟩
  have htb := tb_use hts
  have hl : lv_has ls 2 [(0, .int a1), (1, .int a2)] := hl
  have hown : s.vm.findClass "TapOffice" = some m.cls := hown
  unfold cs_isBelow at he
  refine lv_iload_n hx hb dO_isBelow_0 rfl (lv_at hl 0 rfl) ?_
  refine lv_if_lt (tgt := 13) hx hb dO_isBelow_1 (by decide) (fun c1 => ?_) (fun c1 => ?_)
  · rw [if_pos c1] at he
    refine lv_iconst (v := 0) hx hb dO_isBelow_13 (by decide) ?_
    exact fw_zret hx hb hr hlocks hK hnb hW hS (by decide) (by rw [he]) dO_isBelow_14
  · rw [if_neg c1] at he
    refine lv_iload_n hx hb dO_isBelow_4 rfl (lv_at hl 0 rfl) ?_
    refine lv_iload_n hx hb dO_isBelow_5 rfl (lv_at hl 1 rfl) ?_
    refine lv_icmp_ge (tgt := 13) hx hb dO_isBelow_6 (by decide) (fun c2 => ?_) (fun c2 => ?_)
    · rw [if_pos c2] at he
      refine lv_iconst (v := 0) hx hb dO_isBelow_13 (by decide) ?_
      exact fw_zret hx hb hr hlocks hK hnb hW hS (by decide) (by rw [he]) dO_isBelow_14
    · rw [if_neg c2] at he
      refine lv_iconst (v := 1) hx hb dO_isBelow_9 (by decide) ?_
      refine lv_goto (tgt := 14) hx hb dO_isBelow_10 (by decide) ?_
      exact fw_zret hx hb hr hlocks hK hnb hW hS (by decide) (by rw [he]) dO_isBelow_14
theorem ib_in {x y : Int32} {n : Nat} (h : ¬ cs_isBelow x y = 0) (hy : y.toInt = n := by decide) : vp_in x n := by
  unfold cs_isBelow at h
  by_cases h1 : x < 0
  · rw [if_pos h1] at h
    exact absurd rfl h
  · rw [if_neg h1] at h
    by_cases h2 : y ≤ x
    · rw [if_pos h2] at h
      exact absurd rfl h
    · refine vi_of ?_ ?_
      · have := Int32.le_iff_toInt_le.mp (Int32.not_lt.mp h1)
        simpa using this
      · have := Int32.lt_iff_toInt_lt.mp (Int32.not_le.mp h2)
        omega
def cs_putFare_s2 (σ5 : fw_S) : fw_S :=
  σ5
def cs_putFare_s1 (a1 : Int32) (a2 : Int32) (a3 : Int32) (σ2 : fw_S) : fw_S :=
  cs_putFare_s2 (fw_st σ2 (8, a2.toNatClampNeg, 0) a1.toNatClampNeg a3)
def cs_putFare (σ : fw_S) (a1 : Int32) (a2 : Int32) (a3 : Int32) : fw_S :=
  cs_putFare_s1 a1 a2 a3 (fw_st σ (8, a1.toNatClampNeg, 0) a2.toNatClampNeg a3)
set_option maxHeartbeats 4000000 in
set_option maxRecDepth 100000 in
theorem c_putFare (l : Launch) (X : fw_X) (hI : fw_I cV X) (σ : fw_S) (a1 a2 a3 : Int32) (h1 : vp_in a1 6) (h2 : vp_in a2 6) : fw_Mv fw_cl csh cV fw_tys l yT_putFare wT_putFare (fw_rm 0) X σ [.ref (X.2.2 (1, 0, 0)), .int a1, .int a2, .int a3] (cs_putFare σ a1 a2 a3) := by
  obtain ⟨out, he⟩ : ∃ z : fw_S, z = cs_putFare σ a1 a2 a3 := ⟨_, rfl⟩
  rw [← he]
  refine fw_Mv_of (cc := bT_putFare) (maxL := 4) (ret := none) (by decide) rfl (Nat.le_of_ble_eq_true rfl) ?_
  intro p e s m below meth c ls hx hb hr hml hlocks hown hts hK hnb hW hl
  have hS : va_S (fw_A cV X) s.heap s.heap [] := va_S.rf
  have hA : ∀ t, cV t → fw_A cV X (X.2.2 t) := fun t h => ⟨t, h, rfl⟩
  have htb := tb_use hts
  have hl : lv_has ls 4 [(0, .ref (X.2.2 (1, 0, 0))), (1, .int a1), (2, .int a2), (3, .int a3)] := hl
  have hown : s.vm.findClass "TapOffice$Tariff" = some m.cls := hown
  unfold cs_putFare at he
  refine lv_aload_n hx hb dT_putFare_0 rfl (lv_at hl 0 rfl) ?_
  refine fw_get (X := X) (v := .ref (X.2.2 (6, 0, 0))) hx hb hts hin_T hown hK hW (1, 0, 0) cv1 rfl rfl 0 (by decide) (htb _ m_59 rfl) (fun _ h => h) rfl rfl dT_putFare_1 ?_
  refine lv_iload_n hx hb dT_putFare_4 rfl (lv_at hl 1 rfl) ?_
  refine fw_aald (X := X) hx hb hK hW (6, 0, 0) cv6 rfl 1 rfl rfl a1.toNatClampNeg rfl (8, a1.toNatClampNeg, 0) rfl h1 dT_putFare_5 ?_
  have hV1 : cV (8, a1.toNatClampNeg, 0) := (cve8 (vi_lt h1))
  refine lv_iload_n hx hb dT_putFare_6 rfl (lv_at hl 2 rfl) ?_
  refine lv_iload_n hx hb dT_putFare_7 rfl (lv_at hl 3 rfl) ?_
  refine fw_iast (X := X) hx hb hK hW hI hA hS (8, a1.toNatClampNeg, 0) hV1 rfl 0 rfl a2.toNatClampNeg rfl h2 dT_putFare_8 (fun H locs hW hS => ?_)
  obtain ⟨σ2, e3⟩ : ∃ z : fw_S, z = fw_st σ (8, a1.toNatClampNeg, 0) a2.toNatClampNeg a3 := ⟨_, rfl⟩
  rw [← e3] at hW
  try rw [← e3] at he
  unfold cs_putFare_s1 at he
  refine lv_aload_n hx hb dT_putFare_9 rfl (lv_at hl 0 rfl) ?_
  refine fw_get (X := X) (v := .ref (X.2.2 (6, 0, 0))) hx hb hts hin_T hown hK hW (1, 0, 0) cv1 rfl rfl 0 (by decide) (htb _ m_59 rfl) (fun _ h => h) rfl rfl dT_putFare_10 ?_
  refine lv_iload_n hx hb dT_putFare_13 rfl (lv_at hl 2 rfl) ?_
  refine fw_aald (X := X) hx hb hK hW (6, 0, 0) cv6 rfl 1 rfl rfl a2.toNatClampNeg rfl (8, a2.toNatClampNeg, 0) rfl h2 dT_putFare_14 ?_
  have hV4 : cV (8, a2.toNatClampNeg, 0) := (cve8 (vi_lt h2))
  refine lv_iload_n hx hb dT_putFare_15 rfl (lv_at hl 1 rfl) ?_
  refine lv_iload_n hx hb dT_putFare_16 rfl (lv_at hl 3 rfl) ?_
  refine fw_iast (X := X) hx hb hK hW hI hA hS (8, a2.toNatClampNeg, 0) hV4 rfl 0 rfl a1.toNatClampNeg rfl h1 dT_putFare_17 (fun H locs hW hS => ?_)
  obtain ⟨σ5, e6⟩ : ∃ z : fw_S, z = fw_st σ2 (8, a2.toNatClampNeg, 0) a1.toNatClampNeg a3 := ⟨_, rfl⟩
  rw [← e6] at hW
  try rw [← e6] at he
  unfold cs_putFare_s2 at he
  exact fw_vret hx hb hr hlocks hK hnb hW hS he dT_putFare_18
def cs_putSetting_s1 (σ1 : fw_S) : fw_S :=
  σ1
def cs_putSetting (σ : fw_S) (a1 : Int32) (a2 : Int32) : fw_S :=
  cs_putSetting_s1 (fw_st σ (7, 0, 0) a1.toNatClampNeg a2)
set_option maxHeartbeats 4000000 in
set_option maxRecDepth 100000 in
theorem c_putSetting (l : Launch) (X : fw_X) (hI : fw_I cV X) (σ : fw_S) (a1 a2 : Int32) (h1 : vp_in a1 5) : fw_Mv fw_cl csh cV fw_tys l yT_putSetting wT_putSetting (fw_rm 0) X σ [.ref (X.2.2 (1, 0, 0)), .int a1, .int a2] (cs_putSetting σ a1 a2) := by
  obtain ⟨out, he⟩ : ∃ z : fw_S, z = cs_putSetting σ a1 a2 := ⟨_, rfl⟩
  rw [← he]
  refine fw_Mv_of (cc := bT_putSetting) (maxL := 3) (ret := none) (by decide) rfl (Nat.le_of_ble_eq_true rfl) ?_
  intro p e s m below meth c ls hx hb hr hml hlocks hown hts hK hnb hW hl
  have hS : va_S (fw_A cV X) s.heap s.heap [] := va_S.rf
  have hA : ∀ t, cV t → fw_A cV X (X.2.2 t) := fun t h => ⟨t, h, rfl⟩
  have htb := tb_use hts
  have hl : lv_has ls 3 [(0, .ref (X.2.2 (1, 0, 0))), (1, .int a1), (2, .int a2)] := hl
  have hown : s.vm.findClass "TapOffice$Tariff" = some m.cls := hown
  unfold cs_putSetting at he
  refine lv_aload_n hx hb dT_putSetting_0 rfl (lv_at hl 0 rfl) ?_
  refine fw_get (X := X) (v := .ref (X.2.2 (7, 0, 0))) hx hb hts hin_T hown hK hW (1, 0, 0) cv1 rfl rfl 1 (by decide) (htb _ m_60 rfl) (fun _ h => h) rfl rfl dT_putSetting_1 ?_
  refine lv_iload_n hx hb dT_putSetting_4 rfl (lv_at hl 1 rfl) ?_
  refine lv_iload_n hx hb dT_putSetting_5 rfl (lv_at hl 2 rfl) ?_
  refine fw_iast (X := X) hx hb hK hW hI hA hS (7, 0, 0) cv7 rfl 0 rfl a1.toNatClampNeg rfl h1 dT_putSetting_6 (fun H locs hW hS => ?_)
  obtain ⟨σ1, e2⟩ : ∃ z : fw_S, z = fw_st σ (7, 0, 0) a1.toNatClampNeg a2 := ⟨_, rfl⟩
  rw [← e2] at hW
  try rw [← e2] at he
  unfold cs_putSetting_s1 at he
  exact fw_vret hx hb hr hlocks hK hnb hW hS he dT_putSetting_7
def cs_least (σ : fw_S)  : Int32 :=
  (σ (7, 0, 0) 4)
set_option maxHeartbeats 4000000 in
set_option maxRecDepth 100000 in
theorem c_least (l : Launch) (X : fw_X) (hI : fw_I cV X) (σ : fw_S)  : fw_Mi fw_cl csh cV fw_tys l yT_least wT_least (fw_rm 0) X σ [.ref (X.2.2 (1, 0, 0))] ((cs_least σ, σ)) := by
  obtain ⟨out, he⟩ : ∃ z : Int32, z = cs_least σ := ⟨_, rfl⟩
  rw [← he]
  refine fw_Mi_of (cc := bT_least) (maxL := 1) (ret := (some .int)) (by decide) rfl (Nat.le_of_ble_eq_true rfl) ?_
  intro p e s m below meth c ls hx hb hr hml hlocks hown hts hK hnb hW hl
  have hS : va_S (fw_A cV X) s.heap s.heap [] := va_S.rf
  have hA : ∀ t, cV t → fw_A cV X (X.2.2 t) := fun t h => ⟨t, h, rfl⟩
  have htb := tb_use hts
  have hl : lv_has ls 1 [(0, .ref (X.2.2 (1, 0, 0)))] := hl
  have hown : s.vm.findClass "TapOffice$Tariff" = some m.cls := hown
  unfold cs_least at he
  refine lv_aload_n hx hb dT_least_0 rfl (lv_at hl 0 rfl) ?_
  refine fw_get (X := X) (v := .ref (X.2.2 (7, 0, 0))) hx hb hts hin_T hown hK hW (1, 0, 0) cv1 rfl rfl 1 (by decide) (htb _ m_60 rfl) (fun _ h => h) rfl rfl dT_least_1 ?_
  refine lv_iconst (v := 4) hx hb dT_least_4 (by decide) ?_
  refine fw_iald (X := X) hx hb hK hW (7, 0, 0) cv7 rfl 0 rfl 4 (by decide) (by unfold vp_in; decide) dT_least_5 ?_
  exact fw_iret hx hb hr hlocks hK hnb hW hS (by rw [he]) dT_least_6
def cs_price_s1 (a1 : Int32) (σ : fw_S) (z1 : Int32) : Int32 :=
  if z1 < (σ (7, 0, 0) 0) then a1 else if (σ (7, 0, 0) 1) ≤ z1 then a1 else (a1 + ((a1 * (σ (7, 0, 0) 2)) / 100))
def cs_price (σ : fw_S) (a1 : Int32) (a2 : Int32) : Int32 :=
  cs_price_s1 a1 σ (a2 - a2 / 1440 * 1440)
set_option maxHeartbeats 4000000 in
set_option maxRecDepth 100000 in
theorem c_price (l : Launch) (X : fw_X) (hI : fw_I cV X) (σ : fw_S) (a1 a2 : Int32)  : fw_Mi fw_cl csh cV fw_tys l yT_price wT_price (fw_rm 0) X σ [.ref (X.2.2 (1, 0, 0)), .int a1, .int a2] ((cs_price σ a1 a2, σ)) := by
  obtain ⟨out, he⟩ : ∃ z : Int32, z = cs_price σ a1 a2 := ⟨_, rfl⟩
  rw [← he]
  refine fw_Mi_of (cc := bT_price) (maxL := 5) (ret := (some .int)) (by decide) rfl (Nat.le_of_ble_eq_true rfl) ?_
  intro p e s m below meth c ls hx hb hr hml hlocks hown hts hK hnb hW hl
  have hS : va_S (fw_A cV X) s.heap s.heap [] := va_S.rf
  have hA : ∀ t, cV t → fw_A cV X (X.2.2 t) := fun t h => ⟨t, h, rfl⟩
  have htb := tb_use hts
  have hl : lv_has ls 5 [(0, .ref (X.2.2 (1, 0, 0))), (1, .int a1), (2, .int a2)] := hl
  have hown : s.vm.findClass "TapOffice$Tariff" = some m.cls := hown
  unfold cs_price at he
  refine lv_iload_n hx hb dT_price_0 rfl (lv_at hl 2 rfl) ?_
  refine lv_sipush (v := 1440) hx hb dT_price_1 (by decide) ?_
  refine lv_irem hx hb dT_price_4 (by decide) ?_
  refine lv_topi (fun z1 e2 => ?_)
  try rw [← e2] at he
  unfold cs_price_s1 at he
  refine lv_istore_n (lv' := [(3, .int z1), (0, .ref (X.2.2 (1, 0, 0))), (1, .int a1), (2, .int a2)]) hx hb dT_price_5 rfl hl (by decide) rfl (fun ls hl => ?_)
  refine lv_iload_n hx hb dT_price_6 rfl (lv_at hl 0 rfl) ?_
  refine lv_aload_n hx hb dT_price_7 rfl (lv_at hl 1 rfl) ?_
  refine fw_get (X := X) (v := .ref (X.2.2 (7, 0, 0))) hx hb hts hin_T hown hK hW (1, 0, 0) cv1 rfl rfl 1 (by decide) (htb _ m_60 rfl) (fun _ h => h) rfl rfl dT_price_8 ?_
  refine lv_iconst (v := 0) hx hb dT_price_11 (by decide) ?_
  refine fw_iald (X := X) hx hb hK hW (7, 0, 0) cv7 rfl 0 rfl 0 (by decide) (by unfold vp_in; decide) dT_price_12 ?_
  refine lv_icmp_lt (tgt := 30) hx hb dT_price_13 (by decide) (fun c3 => ?_) (fun c3 => ?_)
  · rw [if_pos c3] at he
    refine lv_iconst (v := 0) hx hb dT_price_30 (by decide) ?_
    refine lv_istore (lv' := [(4, .int 0), (3, .int z1), (0, .ref (X.2.2 (1, 0, 0))), (1, .int a1), (2, .int a2)]) hx hb dT_price_31 hl (by decide) rfl (fun ls hl => ?_)
    refine lv_iload hx hb dT_price_33 (lv_at hl 0 rfl) ?_
    refine lv_if_eq (tgt := 54) hx hb dT_price_35 (by decide) (fun c4 => ?_) (fun c4 => ?_)
    rotate_left
    · exact absurd c4 (by decide)
    refine lv_iload_n hx hb dT_price_54 rfl (lv_at hl 3 rfl) ?_
    exact fw_iret hx hb hr hlocks hK hnb hW hS (by rw [he]) dT_price_55
  · rw [if_neg c3] at he
    refine lv_iload_n hx hb dT_price_16 rfl (lv_at hl 0 rfl) ?_
    refine lv_aload_n hx hb dT_price_17 rfl (lv_at hl 1 rfl) ?_
    refine fw_get (X := X) (v := .ref (X.2.2 (7, 0, 0))) hx hb hts hin_T hown hK hW (1, 0, 0) cv1 rfl rfl 1 (by decide) (htb _ m_60 rfl) (fun _ h => h) rfl rfl dT_price_18 ?_
    refine lv_iconst (v := 1) hx hb dT_price_21 (by decide) ?_
    refine fw_iald (X := X) hx hb hK hW (7, 0, 0) cv7 rfl 0 rfl 1 (by decide) (by unfold vp_in; decide) dT_price_22 ?_
    refine lv_icmp_ge (tgt := 30) hx hb dT_price_23 (by decide) (fun c5 => ?_) (fun c5 => ?_)
    · rw [if_pos c5] at he
      refine lv_iconst (v := 0) hx hb dT_price_30 (by decide) ?_
      refine lv_istore (lv' := [(4, .int 0), (3, .int z1), (0, .ref (X.2.2 (1, 0, 0))), (1, .int a1), (2, .int a2)]) hx hb dT_price_31 hl (by decide) rfl (fun ls hl => ?_)
      refine lv_iload hx hb dT_price_33 (lv_at hl 0 rfl) ?_
      refine lv_if_eq (tgt := 54) hx hb dT_price_35 (by decide) (fun c6 => ?_) (fun c6 => ?_)
      rotate_left
      · exact absurd c6 (by decide)
      refine lv_iload_n hx hb dT_price_54 rfl (lv_at hl 3 rfl) ?_
      exact fw_iret hx hb hr hlocks hK hnb hW hS (by rw [he]) dT_price_55
    · rw [if_neg c5] at he
      refine lv_iconst (v := 1) hx hb dT_price_26 (by decide) ?_
      refine lv_goto (tgt := 31) hx hb dT_price_27 (by decide) ?_
      refine lv_istore (lv' := [(4, .int 1), (3, .int z1), (0, .ref (X.2.2 (1, 0, 0))), (1, .int a1), (2, .int a2)]) hx hb dT_price_31 hl (by decide) rfl (fun ls hl => ?_)
      refine lv_iload hx hb dT_price_33 (lv_at hl 0 rfl) ?_
      refine lv_if_eq (tgt := 54) hx hb dT_price_35 (by decide) (fun c7 => ?_) (fun c7 => ?_)
      · exact absurd c7 (by decide)
      refine lv_iload_n hx hb dT_price_38 rfl (lv_at hl 3 rfl) ?_
      refine lv_iload_n hx hb dT_price_39 rfl (lv_at hl 3 rfl) ?_
      refine lv_aload_n hx hb dT_price_40 rfl (lv_at hl 2 rfl) ?_
      refine fw_get (X := X) (v := .ref (X.2.2 (7, 0, 0))) hx hb hts hin_T hown hK hW (1, 0, 0) cv1 rfl rfl 1 (by decide) (htb _ m_60 rfl) (fun _ h => h) rfl rfl dT_price_41 ?_
      refine lv_iconst (v := 2) hx hb dT_price_44 (by decide) ?_
      refine fw_iald (X := X) hx hb hK hW (7, 0, 0) cv7 rfl 0 rfl 2 (by decide) (by unfold vp_in; decide) dT_price_45 ?_
      refine lv_imul hx hb dT_price_46 ?_
      refine lv_bipush (v := 100) hx hb dT_price_47 (by decide) ?_
      refine lv_idiv hx hb dT_price_49 (by decide) ?_
      refine lv_iadd hx hb dT_price_50 ?_
      refine lv_goto (tgt := 55) hx hb dT_price_51 (by decide) ?_
      exact fw_iret hx hb hr hlocks hK hnb hW hS (by rw [he]) dT_price_55
def cs_priceBetween (σ : fw_S) (a1 : Int32) (a2 : Int32) (a3 : Int32) : Int32 :=
  if (cs_isBelow a1 6) = 0 then 0 else if (cs_isBelow a2 6) = 0 then 0 else (cs_price σ (σ (8, a1.toNatClampNeg, 0) a2.toNatClampNeg) a3)
set_option maxHeartbeats 4000000 in
set_option maxRecDepth 100000 in
theorem c_priceBetween (l : Launch) (X : fw_X) (hI : fw_I cV X) (σ : fw_S) (a1 a2 a3 : Int32)  : fw_Mi fw_cl csh cV fw_tys l yT_priceBetween wT_priceBetween (fw_rm 1) X σ [.ref (X.2.2 (1, 0, 0)), .int a1, .int a2, .int a3] ((cs_priceBetween σ a1 a2 a3, σ)) := by
  obtain ⟨out, he⟩ : ∃ z : Int32, z = cs_priceBetween σ a1 a2 a3 := ⟨_, rfl⟩
  rw [← he]
  refine fw_Mi_of (cc := bT_priceBetween) (maxL := 4) (ret := (some .int)) (by decide) rfl (Nat.le_of_ble_eq_true rfl) ?_
  intro p e s m below meth c ls hx hb hr hml hlocks hown hts hK hnb hW hl
  have hS : va_S (fw_A cV X) s.heap s.heap [] := va_S.rf
  have hA : ∀ t, cV t → fw_A cV X (X.2.2 t) := fun t h => ⟨t, h, rfl⟩
  have htb := tb_use hts
  have hl : lv_has ls 4 [(0, .ref (X.2.2 (1, 0, 0))), (1, .int a1), (2, .int a2), (3, .int a3)] := hl
  have hown : s.vm.findClass "TapOffice$Tariff" = some m.cls := hown
  unfold cs_priceBetween at he
  refine lv_iload_n hx hb dT_priceBetween_0 rfl (lv_at hl 1 rfl) ?_
  refine lv_bipush (v := 6) hx hb dT_priceBetween_1 (by decide) ?_
  refine fw_kp (va_runSN (As := [.int a1, .int 6]) (rest := []) ⟨hx, hb, hml, hown, hts⟩ (c_isBelow l X hI σ a1 6 ) ⟨va_cnB 2 hts (tb_C m_172) rfl rfl rfl hnb (htb _ m_25 rfl) (by decide +kernel) ⟨Nat.le_of_ble_eq_true rfl, Nat.le_of_ble_eq_true rfl⟩, htb _ m_171 rfl, trivial⟩ (fw_preS (X := X) hK hnb hW [.int a1, .int 6]) rfl rfl hl.1 rfl (lv_room (Nat.le_of_ble_eq_true rfl)) dT_priceBetween_3 ⟨Nat.zero_le _, Nat.zero_le _⟩) hS (fun H locs hW hS => ?_)
  refine lv_if_eq (tgt := 34) hx hb dT_priceBetween_6 (by decide) (fun c1 => ?_) (fun c1 => ?_)
  · rw [if_pos c1] at he
    refine lv_iconst (v := 0) hx hb dT_priceBetween_34 (by decide) ?_
    exact fw_iret hx hb hr hlocks hK hnb hW hS (by rw [he]) dT_priceBetween_35
  · rw [if_neg c1] at he
    refine lv_iload_n hx hb dT_priceBetween_9 rfl (lv_at hl 2 rfl) ?_
    refine lv_bipush (v := 6) hx hb dT_priceBetween_10 (by decide) ?_
    refine fw_kp (va_runSN (As := [.int a2, .int 6]) (rest := []) ⟨hx, hb, hml, hown, hts⟩ (c_isBelow l X hI σ a2 6 ) ⟨va_cnB 2 hts (tb_C m_172) rfl rfl rfl hnb (htb _ m_25 rfl) (by decide +kernel) ⟨Nat.le_of_ble_eq_true rfl, Nat.le_of_ble_eq_true rfl⟩, htb _ m_171 rfl, trivial⟩ (fw_preS (X := X) hK hnb hW [.int a2, .int 6]) rfl rfl hl.1 rfl (lv_room (Nat.le_of_ble_eq_true rfl)) dT_priceBetween_12 ⟨Nat.zero_le _, Nat.zero_le _⟩) hS (fun H locs hW hS => ?_)
    refine lv_if_eq (tgt := 34) hx hb dT_priceBetween_15 (by decide) (fun c2 => ?_) (fun c2 => ?_)
    · rw [if_pos c2] at he
      refine lv_iconst (v := 0) hx hb dT_priceBetween_34 (by decide) ?_
      exact fw_iret hx hb hr hlocks hK hnb hW hS (by rw [he]) dT_priceBetween_35
    · rw [if_neg c2] at he
      refine lv_aload_n hx hb dT_priceBetween_18 rfl (lv_at hl 0 rfl) ?_
      refine lv_aload_n hx hb dT_priceBetween_19 rfl (lv_at hl 0 rfl) ?_
      refine fw_get (X := X) (v := .ref (X.2.2 (6, 0, 0))) hx hb hts hin_T hown hK hW (1, 0, 0) cv1 rfl rfl 0 (by decide) (htb _ m_59 rfl) (fun _ h => h) rfl rfl dT_priceBetween_20 ?_
      refine lv_iload_n hx hb dT_priceBetween_23 rfl (lv_at hl 1 rfl) ?_
      refine fw_aald (X := X) hx hb hK hW (6, 0, 0) cv6 rfl 1 rfl rfl a1.toNatClampNeg rfl (8, a1.toNatClampNeg, 0) rfl (ib_in ‹¬ cs_isBelow a1 6 = 0›) dT_priceBetween_24 ?_
      have hV3 : cV (8, a1.toNatClampNeg, 0) := (cve8 (vi_lt (ib_in ‹¬ cs_isBelow a1 6 = 0›)))
      refine lv_iload_n hx hb dT_priceBetween_25 rfl (lv_at hl 2 rfl) ?_
      refine fw_iald (X := X) hx hb hK hW (8, a1.toNatClampNeg, 0) hV3 rfl 0 rfl a2.toNatClampNeg rfl (ib_in ‹¬ cs_isBelow a2 6 = 0›) dT_priceBetween_26 ?_
      refine lv_iload_n hx hb dT_priceBetween_27 rfl (lv_at hl 3 rfl) ?_
      refine fw_kp (va_runV (As := [.int (σ (8, a1.toNatClampNeg, 0) a2.toNatClampNeg), .int a3]) (rest := []) ⟨hx, hb, hml, hown, hts⟩ (c_price l X hI σ (σ (8, a1.toNatClampNeg, 0) a2.toNatClampNeg) a3 ) (cwV 2 hts (tb_V m_261 m_258 m_260 m_3 m_26) rfl rfl rfl (by decide +kernel) ⟨Nat.le_of_ble_eq_true rfl, Nat.le_of_ble_eq_true rfl⟩) (fw_preV (X := X) hK hnb hW (1, 0, 0) cv1 rfl rfl [.int (σ (8, a1.toNatClampNeg, 0) a2.toNatClampNeg), .int a3]) rfl rfl hl.1 rfl (lv_room (Nat.le_of_ble_eq_true rfl)) dT_priceBetween_28 ⟨Nat.zero_le _, Nat.zero_le _⟩) hS (fun H locs hW hS => ?_)
      refine lv_goto (tgt := 35) hx hb dT_priceBetween_31 (by decide) ?_
      exact fw_iret hx hb hr hlocks hK hnb hW hS (by rw [he]) dT_priceBetween_35
def cs_capped (σ : fw_S) (a1 : Int32) (a2 : Int32) : Int32 :=
  (if 0 < (if ((σ (7, 0, 0) 3) - a2) < a1 then ((σ (7, 0, 0) 3) - a2) else a1) then (if ((σ (7, 0, 0) 3) - a2) < a1 then ((σ (7, 0, 0) 3) - a2) else a1) else 0)
set_option maxHeartbeats 4000000 in
set_option maxRecDepth 100000 in
theorem c_capped (l : Launch) (X : fw_X) (hI : fw_I cV X) (σ : fw_S) (a1 a2 : Int32)  : fw_Mi fw_cl csh cV fw_tys l yT_capped wT_capped (fw_rm 1) X σ [.ref (X.2.2 (1, 0, 0)), .int a1, .int a2] ((cs_capped σ a1 a2, σ)) := by
  obtain ⟨out, he⟩ : ∃ z : Int32, z = cs_capped σ a1 a2 := ⟨_, rfl⟩
  rw [← he]
  refine fw_Mi_of (cc := bT_capped) (maxL := 3) (ret := (some .int)) (by decide) rfl (Nat.le_of_ble_eq_true rfl) ?_
  intro p e s m below meth c ls hx hb hr hml hlocks hown hts hK hnb hW hl
  have hS : va_S (fw_A cV X) s.heap s.heap [] := va_S.rf
  have hA : ∀ t, cV t → fw_A cV X (X.2.2 t) := fun t h => ⟨t, h, rfl⟩
  have htb := tb_use hts
  have hl : lv_has ls 3 [(0, .ref (X.2.2 (1, 0, 0))), (1, .int a1), (2, .int a2)] := hl
  have hown : s.vm.findClass "TapOffice$Tariff" = some m.cls := hown
  unfold cs_capped at he
  refine lv_iconst (v := 0) hx hb dT_capped_0 (by decide) ?_
  refine lv_iload_n hx hb dT_capped_1 rfl (lv_at hl 1 rfl) ?_
  refine lv_aload_n hx hb dT_capped_2 rfl (lv_at hl 0 rfl) ?_
  refine fw_get (X := X) (v := .ref (X.2.2 (7, 0, 0))) hx hb hts hin_T hown hK hW (1, 0, 0) cv1 rfl rfl 1 (by decide) (htb _ m_60 rfl) (fun _ h => h) rfl rfl dT_capped_3 ?_
  refine lv_iconst (v := 3) hx hb dT_capped_6 (by decide) ?_
  refine fw_iald (X := X) hx hb hK hW (7, 0, 0) cv7 rfl 0 rfl 3 (by decide) (by unfold vp_in; decide) dT_capped_7 ?_
  refine lv_iload_n hx hb dT_capped_8 rfl (lv_at hl 2 rfl) ?_
  refine lv_isub hx hb dT_capped_9 ?_
  refine va_mmin hx hb (hml.trans hl.1.symm) hown (htb _ m_277 rfl) (htb _ m_278 rfl) (htb _ m_32 rfl) (htb _ m_279 rfl) (Nat.le_of_ble_eq_true rfl) (Nat.le_of_ble_eq_true rfl) (Nat.zero_le _) (Nat.zero_le _) dT_capped_10 ?_
  refine va_mmax hx hb (hml.trans hl.1.symm) hown (htb _ m_270 rfl) (htb _ m_271 rfl) (htb _ m_32 rfl) (htb _ m_272 rfl) (Nat.le_of_ble_eq_true rfl) (Nat.le_of_ble_eq_true rfl) (Nat.zero_le _) (Nat.zero_le _) dT_capped_13 ?_
  exact fw_iret hx hb hr hlocks hK hnb hW hS (by rw [he]) dT_capped_16
def cs_fullPrice_s1 (x4 : Int32) (rec : Int32 → Int32 → Int32) (z4 : Int32) : Int32 :=
  rec (x4 + 1) z4
def cs_fullPrice_lp (a1 : Int32) (a2 : Int32) (σ : fw_S) : Nat → Int32 → Int32 → Int32
  | 0, _, _ => 0
  | n + 1, x4, x3 => if 6 ≤ x4 then (cs_price σ x3 a2) else cs_fullPrice_s1 x4 (cs_fullPrice_lp a1 a2 σ n) (if x3 < (σ (8, a1.toNatClampNeg, 0) x4.toNatClampNeg) then (σ (8, a1.toNatClampNeg, 0) x4.toNatClampNeg) else x3)
def cs_fullPrice (σ : fw_S) (a1 : Int32) (a2 : Int32) : Int32 :=
  if (cs_isBelow a1 6) = 0 then 0 else cs_fullPrice_lp a1 a2 σ (6 + 1) 0 0
set_option maxHeartbeats 4000000 in
set_option maxRecDepth 100000 in
theorem c_fullPrice_lp {p : Program} {e : Env} {s : State} {m : MethodId} {below : List Frame} {meth : Method} {c : Code} {args : Array Value} (l : Launch) (X : fw_X) (hI : fw_I cV X) (σ : fw_S) (a1 a2 : Int32)  (hz : ¬ cs_isBelow a1 6 = 0)  (out : Int32)
    (hx : p.tables.exec = Jvm.exec) (hb : c.code = bT_fullPrice) (hr : meth.sig.returnType = (some .int)) (hml : c.maxLocals = 5) (hlocks : meth.locks = false) (hown : s.vm.findClass "TapOffice$Tariff" = some m.cls) (hts : ∀ w ∈ wT_fullPrice, w.before args s = true) (hK : va_K X.1 fw_cl (fw_tys X.2.1) s) (hnb : va_Nw fw_nb s) :
    ∀ (n : Nat) (x4 x3 : Int32) (j : Nat), x4 = nI j → j ≤ 6 → 6 + 1 ≤ j + n → ∀ (H : Heap) (locs : List Loc), fw_W fw_cl csh cV X σ H → va_S (fw_A cV X) s.heap H locs → ∀ (ls : Array Slot), lv_has ls 5 [(0, .ref (X.2.2 (1, 0, 0))), (1, .int a1), (2, .int a2), (3, .int x3), (4, .int x4)] → out = cs_fullPrice_lp a1 a2 σ n x4 x3 → W p l e (fw_rm 1) s m args below meth c H locs 0 0 (MQ below (va_Qi (fun r u => (r, u) = (out, σ)) (fun u t => fw_O fw_cl csh cV fw_tys X u t) (fw_A cV X)) args s 0 0 (fw_A cV X)) (F0 m 16 ls []) := by
  have hA : ∀ t, cV t → fw_A cV X (X.2.2 t) := fun t h => ⟨t, h, rfl⟩
  have htb := tb_use hts
  intro n
  induction n with
  | zero =>
    intro x4 x3 j hj h1 h2
    exact absurd h2 (by omega)
  | succ n ih =>
    intro x4 x3 j hj hj1 hj2 H locs hW hS ls hl he
    rw [cs_fullPrice_lp] at he
    refine lv_iload hx hb dT_fullPrice_16 (lv_at hl 4 rfl) ?_
    refine lv_bipush (v := 6) hx hb dT_fullPrice_18 (by decide) ?_
    refine lv_icmp_ge (tgt := 43) hx hb dT_fullPrice_20 (by decide) (fun c2 => ?_) (fun c2 => ?_)
    · rw [if_pos c2] at he
      refine lv_aload_n hx hb dT_fullPrice_43 rfl (lv_at hl 0 rfl) ?_
      refine lv_iload_n hx hb dT_fullPrice_44 rfl (lv_at hl 3 rfl) ?_
      refine lv_iload_n hx hb dT_fullPrice_45 rfl (lv_at hl 2 rfl) ?_
      refine fw_kp (va_runV (As := [.int x3, .int a2]) (rest := []) ⟨hx, hb, hml, hown, hts⟩ (c_price l X hI σ x3 a2 ) (cwV 2 hts (tb_V m_261 m_258 m_260 m_3 m_26) rfl rfl rfl (by decide +kernel) ⟨Nat.le_of_ble_eq_true rfl, Nat.le_of_ble_eq_true rfl⟩) (fw_preV (X := X) hK hnb hW (1, 0, 0) cv1 rfl rfl [.int x3, .int a2]) rfl rfl hl.1 rfl (lv_room (Nat.le_of_ble_eq_true rfl)) dT_fullPrice_46 ⟨Nat.zero_le _, Nat.zero_le _⟩) hS (fun H locs hW hS => ?_)
      exact fw_iret hx hb hr hlocks hK hnb hW hS (by rw [he]) dT_fullPrice_49
    · rw [if_neg c2] at he
      have hlt : j < 6 := lp_lt (B := 6) hj rfl (by decide) hj1 c2
      have hin : vp_in x4 6 := by rw [hj]; exact vp_in_nI hlt (by decide)
      refine lv_iload_n hx hb dT_fullPrice_23 rfl (lv_at hl 3 rfl) ?_
      refine lv_aload_n hx hb dT_fullPrice_24 rfl (lv_at hl 0 rfl) ?_
      refine fw_get (X := X) (v := .ref (X.2.2 (6, 0, 0))) hx hb hts hin_T hown hK hW (1, 0, 0) cv1 rfl rfl 0 (by decide) (htb _ m_59 rfl) (fun _ h => h) rfl rfl dT_fullPrice_25 ?_
      refine lv_iload_n hx hb dT_fullPrice_28 rfl (lv_at hl 1 rfl) ?_
      refine fw_aald (X := X) hx hb hK hW (6, 0, 0) cv6 rfl 1 rfl rfl a1.toNatClampNeg rfl (8, a1.toNatClampNeg, 0) rfl (ib_in hz) dT_fullPrice_29 ?_
      have hV3 : cV (8, a1.toNatClampNeg, 0) := (cve8 (vi_lt (ib_in hz)))
      refine lv_iload hx hb dT_fullPrice_30 (lv_at hl 4 rfl) ?_
      refine fw_iald (X := X) hx hb hK hW (8, a1.toNatClampNeg, 0) hV3 rfl 0 rfl x4.toNatClampNeg rfl hin dT_fullPrice_32 ?_
      refine va_mmax hx hb (hml.trans hl.1.symm) hown (htb _ m_270 rfl) (htb _ m_271 rfl) (htb _ m_32 rfl) (htb _ m_272 rfl) (Nat.le_of_ble_eq_true rfl) (Nat.le_of_ble_eq_true rfl) (Nat.zero_le _) (Nat.zero_le _) dT_fullPrice_33 ?_
      refine lv_topi (fun z4 e5 => ?_)
      try rw [← e5] at he
      unfold cs_fullPrice_s1 at he
      refine lv_istore_n (lv' := [(3, .int z4), (0, .ref (X.2.2 (1, 0, 0))), (1, .int a1), (2, .int a2), (4, .int x4)]) hx hb dT_fullPrice_36 rfl hl (by decide) rfl (fun ls hl => ?_)
      refine lv_iinc (v := x4 + 1) (lv' := [(4, .int (x4 + 1)), (3, .int z4), (0, .ref (X.2.2 (1, 0, 0))), (1, .int a1), (2, .int a2)]) hx hb dT_fullPrice_37 hl (k := 4) rfl (by rfl) (by decide) rfl (fun ls hl => ?_)
      refine lv_goto (tgt := 16) hx hb dT_fullPrice_40 (by decide) ?_
      exact ih (x4 + 1) z4 (j + 1) (by rw [hj]; exact nI_1 j) hlt (by omega) _ _ hW hS ls (lv_sub hl [2, 3, 4, 1, 0] rfl) he
set_option maxHeartbeats 4000000 in
set_option maxRecDepth 100000 in
theorem c_fullPrice (l : Launch) (X : fw_X) (hI : fw_I cV X) (σ : fw_S) (a1 a2 : Int32)  : fw_Mi fw_cl csh cV fw_tys l yT_fullPrice wT_fullPrice (fw_rm 1) X σ [.ref (X.2.2 (1, 0, 0)), .int a1, .int a2] ((cs_fullPrice σ a1 a2, σ)) := by
  obtain ⟨out, he⟩ : ∃ z : Int32, z = cs_fullPrice σ a1 a2 := ⟨_, rfl⟩
  rw [← he]
  refine fw_Mi_of (cc := bT_fullPrice) (maxL := 5) (ret := (some .int)) (by decide) rfl (Nat.le_of_ble_eq_true rfl) ?_
  intro p e s m below meth c ls hx hb hr hml hlocks hown hts hK hnb hW hl
  have hS : va_S (fw_A cV X) s.heap s.heap [] := va_S.rf
  have hA : ∀ t, cV t → fw_A cV X (X.2.2 t) := fun t h => ⟨t, h, rfl⟩
  have htb := tb_use hts
  have hl : lv_has ls 5 [(0, .ref (X.2.2 (1, 0, 0))), (1, .int a1), (2, .int a2)] := hl
  have hown : s.vm.findClass "TapOffice$Tariff" = some m.cls := hown
  unfold cs_fullPrice at he
  refine lv_iload_n hx hb dT_fullPrice_0 rfl (lv_at hl 1 rfl) ?_
  refine lv_bipush (v := 6) hx hb dT_fullPrice_1 (by decide) ?_
  refine fw_kp (va_runSN (As := [.int a1, .int 6]) (rest := []) ⟨hx, hb, hml, hown, hts⟩ (c_isBelow l X hI σ a1 6 ) ⟨va_cnB 2 hts (tb_C m_172) rfl rfl rfl hnb (htb _ m_25 rfl) (by decide +kernel) ⟨Nat.le_of_ble_eq_true rfl, Nat.le_of_ble_eq_true rfl⟩, htb _ m_171 rfl, trivial⟩ (fw_preS (X := X) hK hnb hW [.int a1, .int 6]) rfl rfl hl.1 rfl (lv_room (Nat.le_of_ble_eq_true rfl)) dT_fullPrice_3 ⟨Nat.zero_le _, Nat.zero_le _⟩) hS (fun H locs hW hS => ?_)
  refine lv_if_ne (tgt := 11) hx hb dT_fullPrice_6 (by decide) (fun c1 => ?_) (fun c1 => ?_)
  · rw [if_neg c1] at he
    refine lv_iconst (v := 0) hx hb dT_fullPrice_11 (by decide) ?_
    refine lv_istore_n (lv' := [(3, .int 0), (0, .ref (X.2.2 (1, 0, 0))), (1, .int a1), (2, .int a2)]) hx hb dT_fullPrice_12 rfl hl (by decide) rfl (fun ls hl => ?_)
    refine lv_iconst (v := 0) hx hb dT_fullPrice_13 (by decide) ?_
    refine lv_istore (lv' := [(4, .int 0), (3, .int 0), (0, .ref (X.2.2 (1, 0, 0))), (1, .int a1), (2, .int a2)]) hx hb dT_fullPrice_14 hl (by decide) rfl (fun ls hl => ?_)
    exact c_fullPrice_lp l X hI σ a1 a2 ‹¬ cs_isBelow a1 6 = 0›  out hx hb hr hml hlocks hown hts hK hnb (6 + 1) 0 0 0 nI_0.symm (by decide) (by decide) _ _ hW hS ls (lv_sub hl [2, 3, 4, 1, 0] rfl) he
  · rw [if_pos c1] at he
    refine lv_iconst (v := 0) hx hb dT_fullPrice_9 (by decide) ?_
    exact fw_iret hx hb hr hlocks hK hnb hW hS (by rw [he]) dT_fullPrice_10

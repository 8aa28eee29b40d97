def cs_readCopy (σ : fw_S) (k : Nat) (a1 : Int32) (a2 : Int32) : Int32 :=
  (σ (19, k, a1.toNatClampNeg) a2.toNatClampNeg)
set_option maxHeartbeats 4000000 in
set_option maxRecDepth 100000 in
theorem c_readCopy (l : Launch) (X : fw_X) (hI : fw_I cV X) (σ : fw_S) (k : Nat) (hk : k < 4) (a1 a2 : Int32) (h1 : vp_in a1 2) (h2 : vp_in a2 8) : fw_Mi fw_cl csh cV fw_tys l yC_readCopy wC_readCopy (fw_rm 0) X σ [.ref (X.2.2 (10, k, 0)), .int a1, .int a2] ((cs_readCopy σ k a1 a2, σ)) := by
  obtain ⟨out, he⟩ : ∃ z : Int32, z = cs_readCopy σ k a1 a2 := ⟨_, rfl⟩
  rw [← he]
  refine fw_Mi_of (cc := bC_readCopy) (maxL := 3) (ret := (some .int)) (by decide) rfl (Nat.le_of_ble_eq_true rfl) ?_
  intro p e s m below meth c ls hx hb hr hml hlocks hown hts hK hnb hW hl
  have hS : va_S (fw_A cV X) s.heap s.heap [] := va_S.rf
  have hA : ∀ t, cV t → fw_A cV X (X.2.2 t) := fun t h => ⟨t, h, rfl⟩
  have htb := tb_use hts
  have hl : lv_has ls 3 [(0, .ref (X.2.2 (10, k, 0))), (1, .int a1), (2, .int a2)] := hl
  have hown : s.vm.findClass "TapOffice$Card" = some m.cls := hown
  unfold cs_readCopy at he
  refine lv_aload_n hx hb dC_readCopy_0 rfl (lv_at hl 0 rfl) ?_
  refine fw_get (X := X) (v := .ref (X.2.2 (13, k, 0))) hx hb hts hin_C hown hK hW (10, k, 0) (cve10 hk) rfl rfl 0 (by decide) (htb _ m_84 rfl) (fun _ h => h) rfl rfl dC_readCopy_1 ?_
  refine lv_iload_n hx hb dC_readCopy_4 rfl (lv_at hl 1 rfl) ?_
  refine fw_aald (X := X) hx hb hK hW (13, k, 0) (cvs13 (cve10 hk)) rfl 1 rfl rfl a1.toNatClampNeg rfl (19, k, a1.toNatClampNeg) rfl h1 dC_readCopy_5 ?_
  have hV1 : cV (19, k, a1.toNatClampNeg) := (cvj19 (cvs13 (cve10 hk)) (vi_lt h1))
  refine lv_iload_n hx hb dC_readCopy_6 rfl (lv_at hl 2 rfl) ?_
  refine fw_iald (X := X) hx hb hK hW (19, k, a1.toNatClampNeg) hV1 rfl 0 rfl a2.toNatClampNeg rfl h2 dC_readCopy_7 ?_
  exact fw_iret hx hb hr hlocks hK hnb hW hS (by rw [he]) dC_readCopy_8
def cs_recordCopy (σ : fw_S) (k : Nat) : Int32 :=
  if ((σ (19, k, 1) 7) / 4096) ≤ ((σ (19, k, 0) 7) / 4096) then 0 else 1
set_option maxHeartbeats 4000000 in
set_option maxRecDepth 100000 in
theorem c_recordCopy (l : Launch) (X : fw_X) (hI : fw_I cV X) (σ : fw_S) (k : Nat) (hk : k < 4)  : fw_Mi fw_cl csh cV fw_tys l yC_recordCopy wC_recordCopy (fw_rm 0) X σ [.ref (X.2.2 (10, k, 0))] ((cs_recordCopy σ k, σ)) := by
  obtain ⟨out, he⟩ : ∃ z : Int32, z = cs_recordCopy σ k := ⟨_, rfl⟩
  rw [← he]
  refine fw_Mi_of (cc := bC_recordCopy) (maxL := 1) (ret := (some .int)) (by decide) rfl (Nat.le_of_ble_eq_true rfl) ?_
  intro p e s m below meth c ls hx hb hr hml hlocks hown hts hK hnb hW hl
  have hS : va_S (fw_A cV X) s.heap s.heap [] := va_S.rf
  have hA : ∀ t, cV t → fw_A cV X (X.2.2 t) := fun t h => ⟨t, h, rfl⟩
  have htb := tb_use hts
  have hl : lv_has ls 1 [(0, .ref (X.2.2 (10, k, 0)))] := hl
  have hown : s.vm.findClass "TapOffice$Card" = some m.cls := hown
  unfold cs_recordCopy at he
  refine lv_aload_n hx hb dC_recordCopy_0 rfl (lv_at hl 0 rfl) ?_
  refine fw_get (X := X) (v := .ref (X.2.2 (13, k, 0))) hx hb hts hin_C hown hK hW (10, k, 0) (cve10 hk) rfl rfl 0 (by decide) (htb _ m_84 rfl) (fun _ h => h) rfl rfl dC_recordCopy_1 ?_
  refine lv_iconst (v := 1) hx hb dC_recordCopy_4 (by decide) ?_
  refine fw_aald (X := X) hx hb hK hW (13, k, 0) (cvs13 (cve10 hk)) rfl 1 rfl rfl 1 (by decide) (19, k, 1) rfl (by unfold vp_in; decide) dC_recordCopy_5 ?_
  have hV1 : cV (19, k, 1) := (cvj19 (cvs13 (cve10 hk)) (by decide))
  refine lv_bipush (v := 7) hx hb dC_recordCopy_6 (by decide) ?_
  refine fw_iald (X := X) hx hb hK hW (19, k, 1) hV1 rfl 0 rfl 7 (by decide) (by unfold vp_in; decide) dC_recordCopy_8 ?_
  refine lv_sipush (v := 4096) hx hb dC_recordCopy_9 (by decide) ?_
  refine lv_idiv hx hb dC_recordCopy_12 (by decide) ?_
  refine lv_aload_n hx hb dC_recordCopy_13 rfl (lv_at hl 0 rfl) ?_
  refine fw_get (X := X) (v := .ref (X.2.2 (13, k, 0))) hx hb hts hin_C hown hK hW (10, k, 0) (cve10 hk) rfl rfl 0 (by decide) (htb _ m_84 rfl) (fun _ h => h) rfl rfl dC_recordCopy_14 ?_
  refine lv_iconst (v := 0) hx hb dC_recordCopy_17 (by decide) ?_
  refine fw_aald (X := X) hx hb hK hW (13, k, 0) (cvs13 (cve10 hk)) rfl 1 rfl rfl 0 (by decide) (19, k, 0) rfl (by unfold vp_in; decide) dC_recordCopy_18 ?_
  have hV2 : cV (19, k, 0) := (cvj19 (cvs13 (cve10 hk)) (by decide))
  refine lv_bipush (v := 7) hx hb dC_recordCopy_19 (by decide) ?_
  refine fw_iald (X := X) hx hb hK hW (19, k, 0) hV2 rfl 0 rfl 7 (by decide) (by unfold vp_in; decide) dC_recordCopy_21 ?_
  refine lv_sipush (v := 4096) hx hb dC_recordCopy_22 (by decide) ?_
  refine lv_idiv hx hb dC_recordCopy_25 (by decide) ?_
  refine lv_icmp_le (tgt := 33) hx hb dC_recordCopy_26 (by decide) (fun c3 => ?_) (fun c3 => ?_)
  · rw [if_pos c3] at he
    refine lv_iconst (v := 0) hx hb dC_recordCopy_33 (by decide) ?_
    exact fw_iret hx hb hr hlocks hK hnb hW hS (by rw [he]) dC_recordCopy_34
  · rw [if_neg c3] at he
    refine lv_iconst (v := 1) hx hb dC_recordCopy_29 (by decide) ?_
    refine lv_goto (tgt := 34) hx hb dC_recordCopy_30 (by decide) ?_
    exact fw_iret hx hb hr hlocks hK hnb hW hS (by rw [he]) dC_recordCopy_34
theorem rc_01 (σ : fw_S) (k : Nat) : cs_recordCopy σ k = 0 ∨ cs_recordCopy σ k = 1 := by
  unfold cs_recordCopy
  split
  · exact Or.inl rfl
  · exact Or.inr rfl
theorem rc_in (σ : fw_S) (k : Nat) : vp_in (cs_recordCopy σ k) 2 := by
  rcases rc_01 σ k with h | h <;> rw [h] <;> unfold vp_in <;> decide
theorem rc1_in (σ : fw_S) (k : Nat) : vp_in (1 - cs_recordCopy σ k) 2 := by
  rcases rc_01 σ k with h | h <;> rw [h] <;> unfold vp_in <;> decide
def cs_read (σ : fw_S) (k : Nat) (a1 : Int32) : Int32 :=
  (σ (19, k, (cs_recordCopy σ k).toNatClampNeg) a1.toNatClampNeg)
set_option maxHeartbeats 4000000 in
set_option maxRecDepth 100000 in
theorem c_read (l : Launch) (X : fw_X) (hI : fw_I cV X) (σ : fw_S) (k : Nat) (hk : k < 4) (a1 : Int32) (h1 : vp_in a1 8) : fw_Mi fw_cl csh cV fw_tys l yC_read wC_read (fw_rm 1) X σ [.ref (X.2.2 (10, k, 0)), .int a1] ((cs_read σ k a1, σ)) := by
  obtain ⟨out, he⟩ : ∃ z : Int32, z = cs_read σ k a1 := ⟨_, rfl⟩
  rw [← he]
  refine fw_Mi_of (cc := bC_read) (maxL := 2) (ret := (some .int)) (by decide) rfl (Nat.le_of_ble_eq_true rfl) ?_
  intro p e s m below meth c ls hx hb hr hml hlocks hown hts hK hnb hW hl
  have hS : va_S (fw_A cV X) s.heap s.heap [] := va_S.rf
  have hA : ∀ t, cV t → fw_A cV X (X.2.2 t) := fun t h => ⟨t, h, rfl⟩
  have htb := tb_use hts
  have hl : lv_has ls 2 [(0, .ref (X.2.2 (10, k, 0))), (1, .int a1)] := hl
  have hown : s.vm.findClass "TapOffice$Card" = some m.cls := hown
  unfold cs_read at he
  refine lv_aload_n hx hb dC_read_0 rfl (lv_at hl 0 rfl) ?_
  refine fw_get (X := X) (v := .ref (X.2.2 (13, k, 0))) hx hb hts hin_C hown hK hW (10, k, 0) (cve10 hk) rfl rfl 0 (by decide) (htb _ m_84 rfl) (fun _ h => h) rfl rfl dC_read_1 ?_
  refine lv_aload_n hx hb dC_read_4 rfl (lv_at hl 0 rfl) ?_
  refine fw_kp (va_runV (As := []) (rest := [.ref (X.2.2 (13, k, 0))]) ⟨hx, hb, hml, hown, hts⟩ (c_recordCopy l X hI σ k ((cve10 hk)).1 ) (cwV 0 hts (tb_V m_222 m_219 m_221 m_0 m_27) rfl rfl rfl (by decide +kernel) ⟨Nat.le_of_ble_eq_true rfl, Nat.le_of_ble_eq_true rfl⟩) (fw_preV (X := X) hK hnb hW (10, k, 0) (cve10 hk) rfl rfl []) rfl rfl hl.1 rfl (lv_room (Nat.le_of_ble_eq_true rfl)) dC_read_5 ⟨Nat.zero_le _, Nat.zero_le _⟩) hS (fun H locs hW hS => ?_)
  refine fw_aald (X := X) hx hb hK hW (13, k, 0) (cvs13 (cve10 hk)) rfl 1 rfl rfl (cs_recordCopy σ k).toNatClampNeg rfl (19, k, (cs_recordCopy σ k).toNatClampNeg) rfl (rc_in σ k) dC_read_8 ?_
  have hV1 : cV (19, k, (cs_recordCopy σ k).toNatClampNeg) := (cvj19 (cvs13 (cve10 hk)) (vi_lt (rc_in σ k)))
  refine lv_iload_n hx hb dC_read_9 rfl (lv_at hl 1 rfl) ?_
  refine fw_iald (X := X) hx hb hK hW (19, k, (cs_recordCopy σ k).toNatClampNeg) hV1 rfl 0 rfl a1.toNatClampNeg rfl h1 dC_read_10 ?_
  exact fw_iret hx hb hr hlocks hK hnb hW hS (by rw [he]) dC_read_11
def cs_counter (σ : fw_S) (k : Nat) : Int32 :=
  ((cs_read σ k 7) / 4096)
set_option maxHeartbeats 4000000 in
set_option maxRecDepth 100000 in
theorem c_counter (l : Launch) (X : fw_X) (hI : fw_I cV X) (σ : fw_S) (k : Nat) (hk : k < 4)  : fw_Mi fw_cl csh cV fw_tys l yC_counter wC_counter (fw_rm 2) X σ [.ref (X.2.2 (10, k, 0))] ((cs_counter σ k, σ)) := by
  obtain ⟨out, he⟩ : ∃ z : Int32, z = cs_counter σ k := ⟨_, rfl⟩
  rw [← he]
  refine fw_Mi_of (cc := bC_counter) (maxL := 1) (ret := (some .int)) (by decide) rfl (Nat.le_of_ble_eq_true rfl) ?_
  intro p e s m below meth c ls hx hb hr hml hlocks hown hts hK hnb hW hl
  have hS : va_S (fw_A cV X) s.heap s.heap [] := va_S.rf
  have hA : ∀ t, cV t → fw_A cV X (X.2.2 t) := fun t h => ⟨t, h, rfl⟩
  have htb := tb_use hts
  have hl : lv_has ls 1 [(0, .ref (X.2.2 (10, k, 0)))] := hl
  have hown : s.vm.findClass "TapOffice$Card" = some m.cls := hown
  unfold cs_counter at he
  refine lv_aload_n hx hb dC_counter_0 rfl (lv_at hl 0 rfl) ?_
  refine lv_bipush (v := 7) hx hb dC_counter_1 (by decide) ?_
  refine fw_kp (va_runV (As := [.int 7]) (rest := []) ⟨hx, hb, hml, hown, hts⟩ (c_read l X hI σ k ((cve10 hk)).1 7 (by unfold vp_in; decide)) (cwV 1 hts (tb_V m_218 m_239 m_216 m_217 m_27) rfl rfl rfl (by decide +kernel) ⟨Nat.le_of_ble_eq_true rfl, Nat.le_of_ble_eq_true rfl⟩) (fw_preV (X := X) hK hnb hW (10, k, 0) (cve10 hk) rfl rfl [.int 7]) rfl rfl hl.1 rfl (lv_room (Nat.le_of_ble_eq_true rfl)) dC_counter_3 ⟨Nat.zero_le _, Nat.zero_le _⟩) hS (fun H locs hW hS => ?_)
  refine lv_sipush (v := 4096) hx hb dC_counter_6 (by decide) ?_
  refine lv_idiv hx hb dC_counter_9 (by decide) ?_
  exact fw_iret hx hb hr hlocks hK hnb hW hS (by rw [he]) dC_counter_10
def cs_spentOn (σ : fw_S) (k : Nat) (a1 : Int32) : Int32 :=
  if ((cs_read σ k 7) - (cs_read σ k 7) / 4096 * 4096) = a1 then (cs_read σ k 6) else 0
set_option maxHeartbeats 4000000 in
set_option maxRecDepth 100000 in
theorem c_spentOn (l : Launch) (X : fw_X) (hI : fw_I cV X) (σ : fw_S) (k : Nat) (hk : k < 4) (a1 : Int32)  : fw_Mi fw_cl csh cV fw_tys l yC_spentOn wC_spentOn (fw_rm 2) X σ [.ref (X.2.2 (10, k, 0)), .int a1] ((cs_spentOn σ k a1, σ)) := by
  obtain ⟨out, he⟩ : ∃ z : Int32, z = cs_spentOn σ k a1 := ⟨_, rfl⟩
  rw [← he]
  refine fw_Mi_of (cc := bC_spentOn) (maxL := 2) (ret := (some .int)) (by decide) rfl (Nat.le_of_ble_eq_true rfl) ?_
  intro p e s m below meth c ls hx hb hr hml hlocks hown hts hK hnb hW hl
  have hS : va_S (fw_A cV X) s.heap s.heap [] := va_S.rf
  have hA : ∀ t, cV t → fw_A cV X (X.2.2 t) := fun t h => ⟨t, h, rfl⟩
  have htb := tb_use hts
  have hl : lv_has ls 2 [(0, .ref (X.2.2 (10, k, 0))), (1, .int a1)] := hl
  have hown : s.vm.findClass "TapOffice$Card" = some m.cls := hown
  unfold cs_spentOn at he
  refine lv_aload_n hx hb dC_spentOn_0 rfl (lv_at hl 0 rfl) ?_
  refine lv_bipush (v := 7) hx hb dC_spentOn_1 (by decide) ?_
  refine fw_kp (va_runV (As := [.int 7]) (rest := []) ⟨hx, hb, hml, hown, hts⟩ (c_read l X hI σ k ((cve10 hk)).1 7 (by unfold vp_in; decide)) (cwV 1 hts (tb_V m_218 m_239 m_216 m_217 m_27) rfl rfl rfl (by decide +kernel) ⟨Nat.le_of_ble_eq_true rfl, Nat.le_of_ble_eq_true rfl⟩) (fw_preV (X := X) hK hnb hW (10, k, 0) (cve10 hk) rfl rfl [.int 7]) rfl rfl hl.1 rfl (lv_room (Nat.le_of_ble_eq_true rfl)) dC_spentOn_3 ⟨Nat.zero_le _, Nat.zero_le _⟩) hS (fun H locs hW hS => ?_)
  refine lv_sipush (v := 4096) hx hb dC_spentOn_6 (by decide) ?_
  refine lv_irem hx hb dC_spentOn_9 (by decide) ?_
  refine lv_iload_n hx hb dC_spentOn_10 rfl (lv_at hl 1 rfl) ?_
  refine lv_icmp_ne (tgt := 23) hx hb dC_spentOn_11 (by decide) (fun c1 => ?_) (fun c1 => ?_)
  · rw [if_neg c1] at he
    refine lv_iconst (v := 0) hx hb dC_spentOn_23 (by decide) ?_
    exact fw_iret hx hb hr hlocks hK hnb hW hS (by rw [he]) dC_spentOn_24
  · rw [if_pos c1] at he
    refine lv_aload_n hx hb dC_spentOn_14 rfl (lv_at hl 0 rfl) ?_
    refine lv_bipush (v := 6) hx hb dC_spentOn_15 (by decide) ?_
    refine fw_kp (va_runV (As := [.int 6]) (rest := []) ⟨hx, hb, hml, hown, hts⟩ (c_read l X hI σ k ((cve10 hk)).1 6 (by unfold vp_in; decide)) (cwV 1 hts (tb_V m_218 m_239 m_216 m_217 m_27) rfl rfl rfl (by decide +kernel) ⟨Nat.le_of_ble_eq_true rfl, Nat.le_of_ble_eq_true rfl⟩) (fw_preV (X := X) hK hnb hW (10, k, 0) (cve10 hk) rfl rfl [.int 6]) rfl rfl hl.1 rfl (lv_room (Nat.le_of_ble_eq_true rfl)) dC_spentOn_17 ⟨Nat.zero_le _, Nat.zero_le _⟩) hS (fun H locs hW hS => ?_)
    refine lv_goto (tgt := 24) hx hb dC_spentOn_20 (by decide) ?_
    exact fw_iret hx hb hr hlocks hK hnb hW hS (by rw [he]) dC_spentOn_24
def cs_startDraft_s4 (σ8 : fw_S) : fw_S :=
  σ8
def cs_startDraft_s3 (k : Nat) (z1 : Int32) (σ6 : fw_S) : fw_S :=
  cs_startDraft_s4 (fw_st σ6 (14, k, 0) 7 ((((cs_counter σ6 k) + 1) * 4096) + z1))
def cs_startDraft_s2 (k : Nat) (z1 : Int32) (σ4 : fw_S) : fw_S :=
  cs_startDraft_s3 k z1 (fw_st σ4 (14, k, 0) 6 (cs_spentOn σ4 k z1))
def cs_startDraft_s1 (k : Nat) (σ : fw_S) (z1 : Int32) : fw_S :=
  cs_startDraft_s2 k z1 (fw_cp σ (19, k, (cs_recordCopy σ k).toNatClampNeg) (14, k, 0) 8)
def cs_startDraft (σ : fw_S) (k : Nat) (a1 : Int32) : fw_S :=
  cs_startDraft_s1 k σ (a1 / 1440)
set_option maxHeartbeats 4000000 in
set_option maxRecDepth 100000 in
theorem c_startDraft (l : Launch) (X : fw_X) (hI : fw_I cV X) (σ : fw_S) (k : Nat) (hk : k < 4) (a1 : Int32)  : fw_Mv fw_cl csh cV fw_tys l yC_startDraft wC_startDraft (fw_rm 3) X σ [.ref (X.2.2 (10, k, 0)), .int a1] (cs_startDraft σ k a1) := by
  obtain ⟨out, he⟩ : ∃ z : fw_S, z = cs_startDraft σ k a1 := ⟨_, rfl⟩
  rw [← he]
  refine fw_Mv_of (cc := bC_startDraft) (maxL := 3) (ret := none) (by decide) rfl (Nat.le_of_ble_eq_true rfl) ?_
  intro p e s m below meth c ls hx hb hr hml hlocks hown hts hK hnb hW hl
  have hS : va_S (fw_A cV X) s.heap s.heap [] := va_S.rf
  have hA : ∀ t, cV t → fw_A cV X (X.2.2 t) := fun t h => ⟨t, h, rfl⟩
  have htb := tb_use hts
  have hl : lv_has ls 3 [(0, .ref (X.2.2 (10, k, 0))), (1, .int a1)] := hl
  have hown : s.vm.findClass "TapOffice$Card" = some m.cls := hown
  unfold cs_startDraft at he
  refine lv_iload_n hx hb dC_startDraft_0 rfl (lv_at hl 1 rfl) ?_
  refine lv_sipush (v := 1440) hx hb dC_startDraft_1 (by decide) ?_
  refine lv_idiv hx hb dC_startDraft_4 (by decide) ?_
  refine lv_topi (fun z1 e2 => ?_)
  try rw [← e2] at he
  unfold cs_startDraft_s1 at he
  refine lv_istore_n (lv' := [(2, .int z1), (0, .ref (X.2.2 (10, k, 0))), (1, .int a1)]) hx hb dC_startDraft_5 rfl hl (by decide) rfl (fun ls hl => ?_)
  refine lv_aload_n hx hb dC_startDraft_6 rfl (lv_at hl 1 rfl) ?_
  refine fw_get (X := X) (v := .ref (X.2.2 (13, k, 0))) hx hb hts hin_C hown hK hW (10, k, 0) (cve10 hk) rfl rfl 0 (by decide) (htb _ m_84 rfl) (fun _ h => h) rfl rfl dC_startDraft_7 ?_
  refine lv_aload_n hx hb dC_startDraft_10 rfl (lv_at hl 1 rfl) ?_
  refine fw_kp (va_runV (As := []) (rest := [.ref (X.2.2 (13, k, 0))]) ⟨hx, hb, hml, hown, hts⟩ (c_recordCopy l X hI σ k ((cve10 hk)).1 ) (cwV 0 hts (tb_V m_222 m_219 m_221 m_0 m_27) rfl rfl rfl (by decide +kernel) ⟨Nat.le_of_ble_eq_true rfl, Nat.le_of_ble_eq_true rfl⟩) (fw_preV (X := X) hK hnb hW (10, k, 0) (cve10 hk) rfl rfl []) rfl rfl hl.1 rfl (lv_room (Nat.le_of_ble_eq_true rfl)) dC_startDraft_11 ⟨Nat.zero_le _, Nat.zero_le _⟩) hS (fun H locs hW hS => ?_)
  refine fw_aald (X := X) hx hb hK hW (13, k, 0) (cvs13 (cve10 hk)) rfl 1 rfl rfl (cs_recordCopy σ k).toNatClampNeg rfl (19, k, (cs_recordCopy σ k).toNatClampNeg) rfl (rc_in σ k) dC_startDraft_14 ?_
  have hV3 : cV (19, k, (cs_recordCopy σ k).toNatClampNeg) := (cvj19 (cvs13 (cve10 hk)) (vi_lt (rc_in σ k)))
  refine lv_iconst (v := 0) hx hb dC_startDraft_15 (by decide) ?_
  refine lv_aload_n hx hb dC_startDraft_16 rfl (lv_at hl 1 rfl) ?_
  refine fw_get (X := X) (v := .ref (X.2.2 (14, k, 0))) hx hb hts hin_C hown hK hW (10, k, 0) (cve10 hk) rfl rfl 1 (by decide) (htb _ m_85 rfl) (fun _ h => h) rfl rfl dC_startDraft_17 ?_
  refine lv_iconst (v := 0) hx hb dC_startDraft_20 (by decide) ?_
  refine lv_bipush (v := 8) hx hb dC_startDraft_21 (by decide) ?_
  refine fw_copy (X := X) hx hb (hml.trans hl.1.symm) hown (htb _ m_81 rfl) (htb _ m_83 rfl) (htb _ m_82 rfl) (htb _ m_28 rfl) hK hW hI hA hS (19, k, (cs_recordCopy σ k).toNatClampNeg) (14, k, 0) hV3 (cvs14 (cve10 hk)) rfl rfl 0 0 rfl rfl 8 (by decide) (by decide) (by decide) (by decide) (Nat.le_of_ble_eq_true rfl) (Nat.le_of_ble_eq_true rfl) dC_startDraft_23 (fun H locs hW hS => ?_)
  obtain ⟨σ4, e5⟩ : ∃ z : fw_S, z = fw_cp σ (19, k, (cs_recordCopy σ k).toNatClampNeg) (14, k, 0) 8 := ⟨_, rfl⟩
  rw [← e5] at hW
  try rw [← e5] at he
  unfold cs_startDraft_s2 at he
  refine lv_aload_n hx hb dC_startDraft_26 rfl (lv_at hl 1 rfl) ?_
  refine fw_get (X := X) (v := .ref (X.2.2 (14, k, 0))) hx hb hts hin_C hown hK hW (10, k, 0) (cve10 hk) rfl rfl 1 (by decide) (htb _ m_85 rfl) (fun _ h => h) rfl rfl dC_startDraft_27 ?_
  refine lv_bipush (v := 6) hx hb dC_startDraft_30 (by decide) ?_
  refine lv_aload_n hx hb dC_startDraft_32 rfl (lv_at hl 1 rfl) ?_
  refine lv_iload_n hx hb dC_startDraft_33 rfl (lv_at hl 0 rfl) ?_
  refine fw_kp (va_runV (As := [.int z1]) (rest := [.int 6, .ref (X.2.2 (14, k, 0))]) ⟨hx, hb, hml, hown, hts⟩ (c_spentOn l X hI σ4 k ((cve10 hk)).1 z1 ) (cwV 1 hts (tb_V m_238 m_235 m_236 m_237 m_27) rfl rfl rfl (by decide +kernel) ⟨Nat.le_of_ble_eq_true rfl, Nat.le_of_ble_eq_true rfl⟩) (fw_preV (X := X) hK hnb hW (10, k, 0) (cve10 hk) rfl rfl [.int z1]) rfl rfl hl.1 rfl (lv_room (Nat.le_of_ble_eq_true rfl)) dC_startDraft_34 ⟨Nat.zero_le _, Nat.zero_le _⟩) hS (fun H locs hW hS => ?_)
  refine fw_iast (X := X) hx hb hK hW hI hA hS (14, k, 0) (cvs14 (cve10 hk)) rfl 0 rfl 6 (by decide) (by unfold vp_in; decide) dC_startDraft_37 (fun H locs hW hS => ?_)
  obtain ⟨σ6, e7⟩ : ∃ z : fw_S, z = fw_st σ4 (14, k, 0) 6 (cs_spentOn σ4 k z1) := ⟨_, rfl⟩
  rw [← e7] at hW
  try rw [← e7] at he
  unfold cs_startDraft_s3 at he
  refine lv_aload_n hx hb dC_startDraft_38 rfl (lv_at hl 1 rfl) ?_
  refine fw_get (X := X) (v := .ref (X.2.2 (14, k, 0))) hx hb hts hin_C hown hK hW (10, k, 0) (cve10 hk) rfl rfl 1 (by decide) (htb _ m_85 rfl) (fun _ h => h) rfl rfl dC_startDraft_39 ?_
  refine lv_bipush (v := 7) hx hb dC_startDraft_42 (by decide) ?_
  refine lv_aload_n hx hb dC_startDraft_44 rfl (lv_at hl 1 rfl) ?_
  refine fw_kp (va_runV (As := []) (rest := [.int 7, .ref (X.2.2 (14, k, 0))]) ⟨hx, hb, hml, hown, hts⟩ (c_counter l X hI σ6 k ((cve10 hk)).1 ) (cwV 0 hts (tb_V m_243 m_240 m_241 m_242 m_27) rfl rfl rfl (by decide +kernel) ⟨Nat.le_of_ble_eq_true rfl, Nat.le_of_ble_eq_true rfl⟩) (fw_preV (X := X) hK hnb hW (10, k, 0) (cve10 hk) rfl rfl []) rfl rfl hl.1 rfl (lv_room (Nat.le_of_ble_eq_true rfl)) dC_startDraft_45 ⟨Nat.zero_le _, Nat.zero_le _⟩) hS (fun H locs hW hS => ?_)
  refine lv_iconst (v := 1) hx hb dC_startDraft_48 (by decide) ?_
  refine lv_iadd hx hb dC_startDraft_49 ?_
  refine lv_sipush (v := 4096) hx hb dC_startDraft_50 (by decide) ?_
  refine lv_imul hx hb dC_startDraft_53 ?_
  refine lv_iload_n hx hb dC_startDraft_54 rfl (lv_at hl 0 rfl) ?_
  refine lv_iadd hx hb dC_startDraft_55 ?_
  refine fw_iast (X := X) hx hb hK hW hI hA hS (14, k, 0) (cvs14 (cve10 hk)) rfl 0 rfl 7 (by decide) (by unfold vp_in; decide) dC_startDraft_56 (fun H locs hW hS => ?_)
  obtain ⟨σ8, e9⟩ : ∃ z : fw_S, z = fw_st σ6 (14, k, 0) 7 ((((cs_counter σ6 k) + 1) * 4096) + z1) := ⟨_, rfl⟩
  rw [← e9] at hW
  try rw [← e9] at he
  unfold cs_startDraft_s4 at he
  exact fw_vret hx hb hr hlocks hK hnb hW hS he dC_startDraft_57
theorem fw_st_off {σ : fw_S} {t u : fw_T} {k : Nat} {x : Int32} (h : u.1 ≠ t.1) : fw_st σ t k x u = σ u := fw_row_ne σ _ (fun e => h (by rw [e]))
theorem fw_cp_off {σ : fw_S} {t t2 u : fw_T} {n : Nat} (h : u.1 ≠ t2.1) : fw_cp σ t t2 n u = σ u := fw_row_ne σ _ (fun e => h (by rw [e]))
theorem fr_startDraft (σ : fw_S) (k : Nat) (a : Int32) (u : fw_T) (h : u.1 ≠ 14) : cs_startDraft σ k a u = σ u := by
  simp only [cs_startDraft, cs_startDraft_s4, cs_startDraft_s3, cs_startDraft_s2, cs_startDraft_s1]
  rw [fw_st_off h, fw_st_off h, fw_cp_off h]
def cs_draftTopUp_s2 (σ3 : fw_S) : fw_S :=
  σ3
def cs_draftTopUp_s1 (k : Nat) (a1 : Int32) (σ1 : fw_S) : fw_S :=
  cs_draftTopUp_s2 (fw_st σ1 (14, k, 0) 0 ((σ1 (14, k, 0) 0) + a1))
def cs_draftTopUp (σ : fw_S) (k : Nat) (a1 : Int32) (a2 : Int32) : fw_S :=
  cs_draftTopUp_s1 k a1 (cs_startDraft σ k a2)
set_option maxHeartbeats 4000000 in
set_option maxRecDepth 100000 in
theorem c_draftTopUp (l : Launch) (X : fw_X) (hI : fw_I cV X) (σ : fw_S) (k : Nat) (hk : k < 4) (a1 a2 : Int32)  : fw_Mv fw_cl csh cV fw_tys l yC_draftTopUp wC_draftTopUp (fw_rm 4) X σ [.ref (X.2.2 (10, k, 0)), .int a1, .int a2] (cs_draftTopUp σ k a1 a2) := by
  obtain ⟨out, he⟩ : ∃ z : fw_S, z = cs_draftTopUp σ k a1 a2 := ⟨_, rfl⟩
  rw [← he]
  refine fw_Mv_of (cc := bC_draftTopUp) (maxL := 3) (ret := none) (by decide) rfl (Nat.le_of_ble_eq_true rfl) ?_
  intro p e s m below meth c ls hx hb hr hml hlocks hown hts hK hnb hW hl
  have hS : va_S (fw_A cV X) s.heap s.heap [] := va_S.rf
  have hA : ∀ t, cV t → fw_A cV X (X.2.2 t) := fun t h => ⟨t, h, rfl⟩
  have htb := tb_use hts
  have hl : lv_has ls 3 [(0, .ref (X.2.2 (10, k, 0))), (1, .int a1), (2, .int a2)] := hl
  have hown : s.vm.findClass "TapOffice$Card" = some m.cls := hown
  unfold cs_draftTopUp at he
  refine lv_aload_n hx hb dC_draftTopUp_0 rfl (lv_at hl 0 rfl) ?_
  refine lv_iload_n hx hb dC_draftTopUp_1 rfl (lv_at hl 2 rfl) ?_
  refine fw_kv (va_runV (As := [.int a2]) (rest := []) ⟨hx, hb, hml, hown, hts⟩ (c_startDraft l X hI σ k ((cve10 hk)).1 a2 ) (cwV 1 hts (tb_V m_234 m_231 m_233 m_1 m_27) rfl rfl rfl (by decide +kernel) ⟨Nat.le_of_ble_eq_true rfl, Nat.le_of_ble_eq_true rfl⟩) (fw_preV (X := X) hK hnb hW (10, k, 0) (cve10 hk) rfl rfl [.int a2]) rfl rfl hl.1 rfl (lv_room (Nat.le_of_ble_eq_true rfl)) dC_draftTopUp_2 ⟨Nat.zero_le _, Nat.zero_le _⟩) hS (fun H locs hW hS => ?_)
  obtain ⟨σ1, e2⟩ : ∃ z : fw_S, z = cs_startDraft σ k a2 := ⟨_, rfl⟩
  rw [← e2] at hW
  try rw [← e2] at he
  unfold cs_draftTopUp_s1 at he
  refine lv_aload_n hx hb dC_draftTopUp_5 rfl (lv_at hl 0 rfl) ?_
  refine fw_get (X := X) (v := .ref (X.2.2 (14, k, 0))) hx hb hts hin_C hown hK hW (10, k, 0) (cve10 hk) rfl rfl 1 (by decide) (htb _ m_85 rfl) (fun _ h => h) rfl rfl dC_draftTopUp_6 ?_
  refine lv_iconst (v := 0) hx hb dC_draftTopUp_9 (by decide) ?_
  refine lv_dup2_11 hx hb dC_draftTopUp_10 rfl rfl ?_
  refine fw_iald (X := X) hx hb hK hW (14, k, 0) (cvs14 (cve10 hk)) rfl 0 rfl 0 (by decide) (by unfold vp_in; decide) dC_draftTopUp_11 ?_
  refine lv_iload_n hx hb dC_draftTopUp_12 rfl (lv_at hl 1 rfl) ?_
  refine lv_iadd hx hb dC_draftTopUp_13 ?_
  refine fw_iast (X := X) hx hb hK hW hI hA hS (14, k, 0) (cvs14 (cve10 hk)) rfl 0 rfl 0 (by decide) (by unfold vp_in; decide) dC_draftTopUp_14 (fun H locs hW hS => ?_)
  obtain ⟨σ3, e4⟩ : ∃ z : fw_S, z = fw_st σ1 (14, k, 0) 0 ((σ1 (14, k, 0) 0) + a1) := ⟨_, rfl⟩
  rw [← e4] at hW
  try rw [← e4] at he
  unfold cs_draftTopUp_s2 at he
  exact fw_vret hx hb hr hlocks hK hnb hW hS he dC_draftTopUp_15
def cs_priceOutOfTime (σ : fw_S) (k : Nat) (a1 : Int32) (a2 : Int32) : Int32 :=
  if (σ (14, k, 0) 1) = (-1) then (cs_fullPrice σ a1 a2) else (cs_fullPrice σ (σ (14, k, 0) 1) (σ (14, k, 0) 2))
set_option maxHeartbeats 4000000 in
set_option maxRecDepth 100000 in
theorem c_priceOutOfTime (l : Launch) (X : fw_X) (hI : fw_I cV X) (σ : fw_S) (k : Nat) (hk : k < 4) (a1 a2 : Int32)  : fw_Mi fw_cl csh cV fw_tys l yC_priceOutOfTime wC_priceOutOfTime (fw_rm 2) X σ [.ref (X.2.2 (10, k, 0)), .int a1, .int a2, .ref (X.2.2 (1, 0, 0))] ((cs_priceOutOfTime σ k a1 a2, σ)) := by
  obtain ⟨out, he⟩ : ∃ z : Int32, z = cs_priceOutOfTime σ k a1 a2 := ⟨_, rfl⟩
  rw [← he]
  refine fw_Mi_of (cc := bC_priceOutOfTime) (maxL := 4) (ret := (some .int)) (by decide) rfl (Nat.le_of_ble_eq_true rfl) ?_
  intro p e s m below meth c ls hx hb hr hml hlocks hown hts hK hnb hW hl
  have hS : va_S (fw_A cV X) s.heap s.heap [] := va_S.rf
  have hA : ∀ t, cV t → fw_A cV X (X.2.2 t) := fun t h => ⟨t, h, rfl⟩
  have htb := tb_use hts
  have hl : lv_has ls 4 [(0, .ref (X.2.2 (10, k, 0))), (1, .int a1), (2, .int a2), (3, .ref (X.2.2 (1, 0, 0)))] := hl
  have hown : s.vm.findClass "TapOffice$Card" = some m.cls := hown
  unfold cs_priceOutOfTime at he
  refine lv_aload_n hx hb dC_priceOutOfTime_0 rfl (lv_at hl 0 rfl) ?_
  refine fw_get (X := X) (v := .ref (X.2.2 (14, k, 0))) hx hb hts hin_C hown hK hW (10, k, 0) (cve10 hk) rfl rfl 1 (by decide) (htb _ m_85 rfl) (fun _ h => h) rfl rfl dC_priceOutOfTime_1 ?_
  refine lv_iconst (v := 1) hx hb dC_priceOutOfTime_4 (by decide) ?_
  refine fw_iald (X := X) hx hb hK hW (14, k, 0) (cvs14 (cve10 hk)) rfl 0 rfl 1 (by decide) (by unfold vp_in; decide) dC_priceOutOfTime_5 ?_
  refine lv_iconst (v := (-1)) hx hb dC_priceOutOfTime_6 (by decide) ?_
  refine lv_icmp_ne (tgt := 19) hx hb dC_priceOutOfTime_7 (by decide) (fun c1 => ?_) (fun c1 => ?_)
  · rw [if_neg c1] at he
    refine lv_aload_n hx hb dC_priceOutOfTime_19 rfl (lv_at hl 3 rfl) ?_
    refine lv_aload_n hx hb dC_priceOutOfTime_20 rfl (lv_at hl 0 rfl) ?_
    refine fw_get (X := X) (v := .ref (X.2.2 (14, k, 0))) hx hb hts hin_C hown hK hW (10, k, 0) (cve10 hk) rfl rfl 1 (by decide) (htb _ m_85 rfl) (fun _ h => h) rfl rfl dC_priceOutOfTime_21 ?_
    refine lv_iconst (v := 1) hx hb dC_priceOutOfTime_24 (by decide) ?_
    refine fw_iald (X := X) hx hb hK hW (14, k, 0) (cvs14 (cve10 hk)) rfl 0 rfl 1 (by decide) (by unfold vp_in; decide) dC_priceOutOfTime_25 ?_
    refine lv_aload_n hx hb dC_priceOutOfTime_26 rfl (lv_at hl 0 rfl) ?_
    refine fw_get (X := X) (v := .ref (X.2.2 (14, k, 0))) hx hb hts hin_C hown hK hW (10, k, 0) (cve10 hk) rfl rfl 1 (by decide) (htb _ m_85 rfl) (fun _ h => h) rfl rfl dC_priceOutOfTime_27 ?_
    refine lv_iconst (v := 2) hx hb dC_priceOutOfTime_30 (by decide) ?_
    refine fw_iald (X := X) hx hb hK hW (14, k, 0) (cvs14 (cve10 hk)) rfl 0 rfl 2 (by decide) (by unfold vp_in; decide) dC_priceOutOfTime_31 ?_
    refine fw_kp (va_runV (As := [.int (σ (14, k, 0) 1), .int (σ (14, k, 0) 2)]) (rest := []) ⟨hx, hb, hml, hown, hts⟩ (c_fullPrice l X hI σ (σ (14, k, 0) 1) (σ (14, k, 0) 2) ) (cwV 2 hts (tb_V m_269 m_266 m_267 m_268 m_26) rfl rfl rfl (by decide +kernel) ⟨Nat.le_of_ble_eq_true rfl, Nat.le_of_ble_eq_true rfl⟩) (fw_preV (X := X) hK hnb hW (1, 0, 0) cv1 rfl rfl [.int (σ (14, k, 0) 1), .int (σ (14, k, 0) 2)]) rfl rfl hl.1 rfl (lv_room (Nat.le_of_ble_eq_true rfl)) dC_priceOutOfTime_32 ⟨Nat.zero_le _, Nat.zero_le _⟩) hS (fun H locs hW hS => ?_)
    exact fw_iret hx hb hr hlocks hK hnb hW hS (by rw [he]) dC_priceOutOfTime_35
  · rw [if_pos c1] at he
    refine lv_aload_n hx hb dC_priceOutOfTime_10 rfl (lv_at hl 3 rfl) ?_
    refine lv_iload_n hx hb dC_priceOutOfTime_11 rfl (lv_at hl 1 rfl) ?_
    refine lv_iload_n hx hb dC_priceOutOfTime_12 rfl (lv_at hl 2 rfl) ?_
    refine fw_kp (va_runV (As := [.int a1, .int a2]) (rest := []) ⟨hx, hb, hml, hown, hts⟩ (c_fullPrice l X hI σ a1 a2 ) (cwV 2 hts (tb_V m_269 m_266 m_267 m_268 m_26) rfl rfl rfl (by decide +kernel) ⟨Nat.le_of_ble_eq_true rfl, Nat.le_of_ble_eq_true rfl⟩) (fw_preV (X := X) hK hnb hW (1, 0, 0) cv1 rfl rfl [.int a1, .int a2]) rfl rfl hl.1 rfl (lv_room (Nat.le_of_ble_eq_true rfl)) dC_priceOutOfTime_13 ⟨Nat.zero_le _, Nat.zero_le _⟩) hS (fun H locs hW hS => ?_)
    refine lv_goto (tgt := 35) hx hb dC_priceOutOfTime_16 (by decide) ?_
    exact fw_iret hx hb hr hlocks hK hnb hW hS (by rw [he]) dC_priceOutOfTime_35
def cs_draftEntry_s2 (σ7 : fw_S) : Int32 × fw_S :=
  (0, σ7)
def cs_draftEntry_s1 (k : Nat) (a2 : Int32) (σ5 : fw_S) : Int32 × fw_S :=
  cs_draftEntry_s2 (fw_st σ5 (14, k, 0) 2 a2)
def cs_draftEntry_s6 (σ15 : fw_S) : Int32 × fw_S :=
  (0, σ15)
def cs_draftEntry_s5 (k : Nat) (a2 : Int32) (σ13 : fw_S) : Int32 × fw_S :=
  cs_draftEntry_s6 (fw_st σ13 (14, k, 0) 2 a2)
def cs_draftEntry_s4 (k : Nat) (a1 : Int32) (a2 : Int32) (σ11 : fw_S) : Int32 × fw_S :=
  cs_draftEntry_s5 k a2 (fw_st σ11 (14, k, 0) 1 a1)
def cs_draftEntry_s3 (k : Nat) (a1 : Int32) (a2 : Int32) (σ9 : fw_S) : Int32 × fw_S :=
  cs_draftEntry_s4 k a1 a2 (fw_st σ9 (14, k, 0) 4 0)
def cs_draftEntry_s11 (z18 : Int32) (σ27 : fw_S) : Int32 × fw_S :=
  (z18, σ27)
def cs_draftEntry_s10 (k : Nat) (a2 : Int32) (z18 : Int32) (σ25 : fw_S) : Int32 × fw_S :=
  cs_draftEntry_s11 z18 (fw_st σ25 (14, k, 0) 2 a2)
def cs_draftEntry_s9 (k : Nat) (a1 : Int32) (a2 : Int32) (z18 : Int32) (σ23 : fw_S) : Int32 × fw_S :=
  cs_draftEntry_s10 k a2 z18 (fw_st σ23 (14, k, 0) 1 a1)
def cs_draftEntry_s8 (k : Nat) (a1 : Int32) (a2 : Int32) (z18 : Int32) (σ21 : fw_S) : Int32 × fw_S :=
  cs_draftEntry_s9 k a1 a2 z18 (fw_st σ21 (14, k, 0) 4 0)
def cs_draftEntry_s7 (k : Nat) (a1 : Int32) (a2 : Int32) (σ : fw_S) (z18 : Int32) : Int32 × fw_S :=
  cs_draftEntry_s8 k a1 a2 z18 (fw_st σ (14, k, 0) 3 a1)
def cs_draftEntry (σ : fw_S) (k : Nat) (a1 : Int32) (a2 : Int32) : Int32 × fw_S :=
  if (σ (14, k, 0) 1) = (-1) then if a2 ≤ ((σ (14, k, 0) 5) + 30) then cs_draftEntry_s1 k a2 (fw_st σ (14, k, 0) 1 a1) else cs_draftEntry_s3 k a1 a2 (fw_st σ (14, k, 0) 3 a1) else cs_draftEntry_s7 k a1 a2 σ (cs_capped σ (cs_fullPrice σ (σ (14, k, 0) 1) (σ (14, k, 0) 2)) (σ (14, k, 0) 6))
set_option maxHeartbeats 4000000 in
set_option maxRecDepth 100000 in
theorem c_draftEntry (l : Launch) (X : fw_X) (hI : fw_I cV X) (σ : fw_S) (k : Nat) (hk : k < 4) (a1 a2 : Int32)  : fw_Mi fw_cl csh cV fw_tys l yC_draftEntry wC_draftEntry (fw_rm 2) X σ [.ref (X.2.2 (10, k, 0)), .int a1, .int a2, .ref (X.2.2 (1, 0, 0))] (cs_draftEntry σ k a1 a2) := by
  obtain ⟨out, he⟩ : ∃ z : Int32 × fw_S, z = cs_draftEntry σ k a1 a2 := ⟨_, rfl⟩
  rw [← he]
  refine fw_Mi_of (cc := bC_draftEntry) (maxL := 6) (ret := (some .int)) (by decide) rfl (Nat.le_of_ble_eq_true rfl) ?_
  intro p e s m below meth c ls hx hb hr hml hlocks hown hts hK hnb hW hl
  have hS : va_S (fw_A cV X) s.heap s.heap [] := va_S.rf
  have hA : ∀ t, cV t → fw_A cV X (X.2.2 t) := fun t h => ⟨t, h, rfl⟩
  have htb := tb_use hts
  have hl : lv_has ls 6 [(0, .ref (X.2.2 (10, k, 0))), (1, .int a1), (2, .int a2), (3, .ref (X.2.2 (1, 0, 0)))] := hl
  have hown : s.vm.findClass "TapOffice$Card" = some m.cls := hown
  unfold cs_draftEntry at he
  refine lv_aload_n hx hb dC_draftEntry_0 rfl (lv_at hl 0 rfl) ?_
  refine fw_get (X := X) (v := .ref (X.2.2 (14, k, 0))) hx hb hts hin_C hown hK hW (10, k, 0) (cve10 hk) rfl rfl 1 (by decide) (htb _ m_85 rfl) (fun _ h => h) rfl rfl dC_draftEntry_1 ?_
  refine lv_iconst (v := 1) hx hb dC_draftEntry_4 (by decide) ?_
  refine fw_iald (X := X) hx hb hK hW (14, k, 0) (cvs14 (cve10 hk)) rfl 0 rfl 1 (by decide) (by unfold vp_in; decide) dC_draftEntry_5 ?_
  refine lv_iconst (v := (-1)) hx hb dC_draftEntry_6 (by decide) ?_
  refine lv_icmp_eq (tgt := 14) hx hb dC_draftEntry_7 (by decide) (fun c1 => ?_) (fun c1 => ?_)
  · rw [if_pos c1] at he
    refine lv_iconst (v := 0) hx hb dC_draftEntry_14 (by decide) ?_
    refine lv_istore (lv' := [(4, .int 0), (0, .ref (X.2.2 (10, k, 0))), (1, .int a1), (2, .int a2), (3, .ref (X.2.2 (1, 0, 0)))]) hx hb dC_draftEntry_15 hl (by decide) rfl (fun ls hl => ?_)
    refine lv_iload hx hb dC_draftEntry_17 (lv_at hl 0 rfl) ?_
    refine lv_if_eq (tgt := 52) hx hb dC_draftEntry_19 (by decide) (fun c2 => ?_) (fun c2 => ?_)
    rotate_left
    · exact absurd c2 (by decide)
    refine lv_iconst (v := 0) hx hb dC_draftEntry_52 (by decide) ?_
    refine lv_istore (lv' := [(5, .int 0), (4, .int 0), (0, .ref (X.2.2 (10, k, 0))), (1, .int a1), (2, .int a2), (3, .ref (X.2.2 (1, 0, 0)))]) hx hb dC_draftEntry_53 hl (by decide) rfl (fun ls hl => ?_)
    refine lv_iload hx hb dC_draftEntry_55 (lv_at hl 1 rfl) ?_
    refine lv_if_ne (tgt := 73) hx hb dC_draftEntry_57 (by decide) (fun c3 => ?_) (fun c3 => ?_)
    · exact absurd c3 (by decide)
    refine lv_iload_n hx hb dC_draftEntry_60 rfl (lv_at hl 4 rfl) ?_
    refine lv_aload_n hx hb dC_draftEntry_61 rfl (lv_at hl 2 rfl) ?_
    refine fw_get (X := X) (v := .ref (X.2.2 (14, k, 0))) hx hb hts hin_C hown hK hW (10, k, 0) (cve10 hk) rfl rfl 1 (by decide) (htb _ m_85 rfl) (fun _ h => h) rfl rfl dC_draftEntry_62 ?_
    refine lv_iconst (v := 5) hx hb dC_draftEntry_65 (by decide) ?_
    refine fw_iald (X := X) hx hb hK hW (14, k, 0) (cvs14 (cve10 hk)) rfl 0 rfl 5 (by decide) (by unfold vp_in; decide) dC_draftEntry_66 ?_
    refine lv_bipush (v := 30) hx hb dC_draftEntry_67 (by decide) ?_
    refine lv_iadd hx hb dC_draftEntry_69 ?_
    refine lv_icmp_le (tgt := 87) hx hb dC_draftEntry_70 (by decide) (fun c4 => ?_) (fun c4 => ?_)
    · rw [if_pos c4] at he
      refine lv_aload_n hx hb dC_draftEntry_87 rfl (lv_at hl 2 rfl) ?_
      refine fw_get (X := X) (v := .ref (X.2.2 (14, k, 0))) hx hb hts hin_C hown hK hW (10, k, 0) (cve10 hk) rfl rfl 1 (by decide) (htb _ m_85 rfl) (fun _ h => h) rfl rfl dC_draftEntry_88 ?_
      refine lv_iconst (v := 1) hx hb dC_draftEntry_91 (by decide) ?_
      refine lv_iload_n hx hb dC_draftEntry_92 rfl (lv_at hl 3 rfl) ?_
      refine fw_iast (X := X) hx hb hK hW hI hA hS (14, k, 0) (cvs14 (cve10 hk)) rfl 0 rfl 1 (by decide) (by unfold vp_in; decide) dC_draftEntry_93 (fun H locs hW hS => ?_)
      obtain ⟨σ5, e6⟩ : ∃ z : fw_S, z = fw_st σ (14, k, 0) 1 a1 := ⟨_, rfl⟩
      rw [← e6] at hW
      try rw [← e6] at he
      unfold cs_draftEntry_s1 at he
      refine lv_aload_n hx hb dC_draftEntry_94 rfl (lv_at hl 2 rfl) ?_
      refine fw_get (X := X) (v := .ref (X.2.2 (14, k, 0))) hx hb hts hin_C hown hK hW (10, k, 0) (cve10 hk) rfl rfl 1 (by decide) (htb _ m_85 rfl) (fun _ h => h) rfl rfl dC_draftEntry_95 ?_
      refine lv_iconst (v := 2) hx hb dC_draftEntry_98 (by decide) ?_
      refine lv_iload_n hx hb dC_draftEntry_99 rfl (lv_at hl 4 rfl) ?_
      refine fw_iast (X := X) hx hb hK hW hI hA hS (14, k, 0) (cvs14 (cve10 hk)) rfl 0 rfl 2 (by decide) (by unfold vp_in; decide) dC_draftEntry_100 (fun H locs hW hS => ?_)
      obtain ⟨σ7, e8⟩ : ∃ z : fw_S, z = fw_st σ5 (14, k, 0) 2 a2 := ⟨_, rfl⟩
      rw [← e8] at hW
      try rw [← e8] at he
      unfold cs_draftEntry_s2 at he
      refine lv_iload hx hb dC_draftEntry_101 (lv_at hl 0 rfl) ?_
      exact fw_iret hx hb hr hlocks hK hnb hW hS he dC_draftEntry_103
    · rw [if_neg c4] at he
      refine lv_aload_n hx hb dC_draftEntry_73 rfl (lv_at hl 2 rfl) ?_
      refine fw_get (X := X) (v := .ref (X.2.2 (14, k, 0))) hx hb hts hin_C hown hK hW (10, k, 0) (cve10 hk) rfl rfl 1 (by decide) (htb _ m_85 rfl) (fun _ h => h) rfl rfl dC_draftEntry_74 ?_
      refine lv_iconst (v := 3) hx hb dC_draftEntry_77 (by decide) ?_
      refine lv_iload_n hx hb dC_draftEntry_78 rfl (lv_at hl 3 rfl) ?_
      refine fw_iast (X := X) hx hb hK hW hI hA hS (14, k, 0) (cvs14 (cve10 hk)) rfl 0 rfl 3 (by decide) (by unfold vp_in; decide) dC_draftEntry_79 (fun H locs hW hS => ?_)
      obtain ⟨σ9, e10⟩ : ∃ z : fw_S, z = fw_st σ (14, k, 0) 3 a1 := ⟨_, rfl⟩
      rw [← e10] at hW
      try rw [← e10] at he
      unfold cs_draftEntry_s3 at he
      refine lv_aload_n hx hb dC_draftEntry_80 rfl (lv_at hl 2 rfl) ?_
      refine fw_get (X := X) (v := .ref (X.2.2 (14, k, 0))) hx hb hts hin_C hown hK hW (10, k, 0) (cve10 hk) rfl rfl 1 (by decide) (htb _ m_85 rfl) (fun _ h => h) rfl rfl dC_draftEntry_81 ?_
      refine lv_iconst (v := 4) hx hb dC_draftEntry_84 (by decide) ?_
      refine lv_iconst (v := 0) hx hb dC_draftEntry_85 (by decide) ?_
      refine fw_iast (X := X) hx hb hK hW hI hA hS (14, k, 0) (cvs14 (cve10 hk)) rfl 0 rfl 4 (by decide) (by unfold vp_in; decide) dC_draftEntry_86 (fun H locs hW hS => ?_)
      obtain ⟨σ11, e12⟩ : ∃ z : fw_S, z = fw_st σ9 (14, k, 0) 4 0 := ⟨_, rfl⟩
      rw [← e12] at hW
      try rw [← e12] at he
      unfold cs_draftEntry_s4 at he
      refine lv_aload_n hx hb dC_draftEntry_87 rfl (lv_at hl 2 rfl) ?_
      refine fw_get (X := X) (v := .ref (X.2.2 (14, k, 0))) hx hb hts hin_C hown hK hW (10, k, 0) (cve10 hk) rfl rfl 1 (by decide) (htb _ m_85 rfl) (fun _ h => h) rfl rfl dC_draftEntry_88 ?_
      refine lv_iconst (v := 1) hx hb dC_draftEntry_91 (by decide) ?_
      refine lv_iload_n hx hb dC_draftEntry_92 rfl (lv_at hl 3 rfl) ?_
      refine fw_iast (X := X) hx hb hK hW hI hA hS (14, k, 0) (cvs14 (cve10 hk)) rfl 0 rfl 1 (by decide) (by unfold vp_in; decide) dC_draftEntry_93 (fun H locs hW hS => ?_)
      obtain ⟨σ13, e14⟩ : ∃ z : fw_S, z = fw_st σ11 (14, k, 0) 1 a1 := ⟨_, rfl⟩
      rw [← e14] at hW
      try rw [← e14] at he
      unfold cs_draftEntry_s5 at he
      refine lv_aload_n hx hb dC_draftEntry_94 rfl (lv_at hl 2 rfl) ?_
      refine fw_get (X := X) (v := .ref (X.2.2 (14, k, 0))) hx hb hts hin_C hown hK hW (10, k, 0) (cve10 hk) rfl rfl 1 (by decide) (htb _ m_85 rfl) (fun _ h => h) rfl rfl dC_draftEntry_95 ?_
      refine lv_iconst (v := 2) hx hb dC_draftEntry_98 (by decide) ?_
      refine lv_iload_n hx hb dC_draftEntry_99 rfl (lv_at hl 4 rfl) ?_
      refine fw_iast (X := X) hx hb hK hW hI hA hS (14, k, 0) (cvs14 (cve10 hk)) rfl 0 rfl 2 (by decide) (by unfold vp_in; decide) dC_draftEntry_100 (fun H locs hW hS => ?_)
      obtain ⟨σ15, e16⟩ : ∃ z : fw_S, z = fw_st σ13 (14, k, 0) 2 a2 := ⟨_, rfl⟩
      rw [← e16] at hW
      try rw [← e16] at he
      unfold cs_draftEntry_s6 at he
      refine lv_iload hx hb dC_draftEntry_101 (lv_at hl 0 rfl) ?_
      exact fw_iret hx hb hr hlocks hK hnb hW hS he dC_draftEntry_103
  · rw [if_neg c1] at he
    refine lv_iconst (v := 1) hx hb dC_draftEntry_10 (by decide) ?_
    refine lv_goto (tgt := 15) hx hb dC_draftEntry_11 (by decide) ?_
    refine lv_istore (lv' := [(4, .int 1), (0, .ref (X.2.2 (10, k, 0))), (1, .int a1), (2, .int a2), (3, .ref (X.2.2 (1, 0, 0)))]) hx hb dC_draftEntry_15 hl (by decide) rfl (fun ls hl => ?_)
    refine lv_iload hx hb dC_draftEntry_17 (lv_at hl 0 rfl) ?_
    refine lv_if_eq (tgt := 52) hx hb dC_draftEntry_19 (by decide) (fun c17 => ?_) (fun c17 => ?_)
    · exact absurd c17 (by decide)
    refine lv_aload_n hx hb dC_draftEntry_22 rfl (lv_at hl 4 rfl) ?_
    refine lv_aload_n hx hb dC_draftEntry_23 rfl (lv_at hl 4 rfl) ?_
    refine lv_aload_n hx hb dC_draftEntry_24 rfl (lv_at hl 1 rfl) ?_
    refine fw_get (X := X) (v := .ref (X.2.2 (14, k, 0))) hx hb hts hin_C hown hK hW (10, k, 0) (cve10 hk) rfl rfl 1 (by decide) (htb _ m_85 rfl) (fun _ h => h) rfl rfl dC_draftEntry_25 ?_
    refine lv_iconst (v := 1) hx hb dC_draftEntry_28 (by decide) ?_
    refine fw_iald (X := X) hx hb hK hW (14, k, 0) (cvs14 (cve10 hk)) rfl 0 rfl 1 (by decide) (by unfold vp_in; decide) dC_draftEntry_29 ?_
    refine lv_aload_n hx hb dC_draftEntry_30 rfl (lv_at hl 1 rfl) ?_
    refine fw_get (X := X) (v := .ref (X.2.2 (14, k, 0))) hx hb hts hin_C hown hK hW (10, k, 0) (cve10 hk) rfl rfl 1 (by decide) (htb _ m_85 rfl) (fun _ h => h) rfl rfl dC_draftEntry_31 ?_
    refine lv_iconst (v := 2) hx hb dC_draftEntry_34 (by decide) ?_
    refine fw_iald (X := X) hx hb hK hW (14, k, 0) (cvs14 (cve10 hk)) rfl 0 rfl 2 (by decide) (by unfold vp_in; decide) dC_draftEntry_35 ?_
    refine fw_kp (va_runV (As := [.int (σ (14, k, 0) 1), .int (σ (14, k, 0) 2)]) (rest := [.ref (X.2.2 (1, 0, 0))]) ⟨hx, hb, hml, hown, hts⟩ (c_fullPrice l X hI σ (σ (14, k, 0) 1) (σ (14, k, 0) 2) ) (cwV 2 hts (tb_V m_269 m_266 m_267 m_268 m_26) rfl rfl rfl (by decide +kernel) ⟨Nat.le_of_ble_eq_true rfl, Nat.le_of_ble_eq_true rfl⟩) (fw_preV (X := X) hK hnb hW (1, 0, 0) cv1 rfl rfl [.int (σ (14, k, 0) 1), .int (σ (14, k, 0) 2)]) rfl rfl hl.1 rfl (lv_room (Nat.le_of_ble_eq_true rfl)) dC_draftEntry_36 ⟨Nat.zero_le _, Nat.zero_le _⟩) hS (fun H locs hW hS => ?_)
    refine lv_aload_n hx hb dC_draftEntry_39 rfl (lv_at hl 1 rfl) ?_
    refine fw_get (X := X) (v := .ref (X.2.2 (14, k, 0))) hx hb hts hin_C hown hK hW (10, k, 0) (cve10 hk) rfl rfl 1 (by decide) (htb _ m_85 rfl) (fun _ h => h) rfl rfl dC_draftEntry_40 ?_
    refine lv_bipush (v := 6) hx hb dC_draftEntry_43 (by decide) ?_
    refine fw_iald (X := X) hx hb hK hW (14, k, 0) (cvs14 (cve10 hk)) rfl 0 rfl 6 (by decide) (by unfold vp_in; decide) dC_draftEntry_45 ?_
    refine fw_kp (va_runV (As := [.int (cs_fullPrice σ (σ (14, k, 0) 1) (σ (14, k, 0) 2)), .int (σ (14, k, 0) 6)]) (rest := []) ⟨hx, hb, hml, hown, hts⟩ (c_capped l X hI σ (cs_fullPrice σ (σ (14, k, 0) 1) (σ (14, k, 0) 2)) (σ (14, k, 0) 6) ) (cwV 2 hts (tb_V m_276 m_273 m_274 m_275 m_26) rfl rfl rfl (by decide +kernel) ⟨Nat.le_of_ble_eq_true rfl, Nat.le_of_ble_eq_true rfl⟩) (fw_preV (X := X) hK hnb hW (1, 0, 0) cv1 rfl rfl [.int (cs_fullPrice σ (σ (14, k, 0) 1) (σ (14, k, 0) 2)), .int (σ (14, k, 0) 6)]) rfl rfl hl.1 rfl (lv_room (Nat.le_of_ble_eq_true rfl)) dC_draftEntry_46 ⟨Nat.zero_le _, Nat.zero_le _⟩) hS (fun H locs hW hS => ?_)
    refine lv_goto (tgt := 53) hx hb dC_draftEntry_49 (by decide) ?_
    refine lv_topi (fun z18 e19 => ?_)
    try rw [← e19] at he
    unfold cs_draftEntry_s7 at he
    refine lv_istore (lv' := [(5, .int z18), (4, .int 1), (0, .ref (X.2.2 (10, k, 0))), (1, .int a1), (2, .int a2), (3, .ref (X.2.2 (1, 0, 0)))]) hx hb dC_draftEntry_53 hl (by decide) rfl (fun ls hl => ?_)
    refine lv_iload hx hb dC_draftEntry_55 (lv_at hl 1 rfl) ?_
    refine lv_if_ne (tgt := 73) hx hb dC_draftEntry_57 (by decide) (fun c20 => ?_) (fun c20 => ?_)
    rotate_left
    · exact absurd c20 (by decide)
    refine lv_aload_n hx hb dC_draftEntry_73 rfl (lv_at hl 2 rfl) ?_
    refine fw_get (X := X) (v := .ref (X.2.2 (14, k, 0))) hx hb hts hin_C hown hK hW (10, k, 0) (cve10 hk) rfl rfl 1 (by decide) (htb _ m_85 rfl) (fun _ h => h) rfl rfl dC_draftEntry_74 ?_
    refine lv_iconst (v := 3) hx hb dC_draftEntry_77 (by decide) ?_
    refine lv_iload_n hx hb dC_draftEntry_78 rfl (lv_at hl 3 rfl) ?_
    refine fw_iast (X := X) hx hb hK hW hI hA hS (14, k, 0) (cvs14 (cve10 hk)) rfl 0 rfl 3 (by decide) (by unfold vp_in; decide) dC_draftEntry_79 (fun H locs hW hS => ?_)
    obtain ⟨σ21, e22⟩ : ∃ z : fw_S, z = fw_st σ (14, k, 0) 3 a1 := ⟨_, rfl⟩
    rw [← e22] at hW
    try rw [← e22] at he
    unfold cs_draftEntry_s8 at he
    refine lv_aload_n hx hb dC_draftEntry_80 rfl (lv_at hl 2 rfl) ?_
    refine fw_get (X := X) (v := .ref (X.2.2 (14, k, 0))) hx hb hts hin_C hown hK hW (10, k, 0) (cve10 hk) rfl rfl 1 (by decide) (htb _ m_85 rfl) (fun _ h => h) rfl rfl dC_draftEntry_81 ?_
    refine lv_iconst (v := 4) hx hb dC_draftEntry_84 (by decide) ?_
    refine lv_iconst (v := 0) hx hb dC_draftEntry_85 (by decide) ?_
    refine fw_iast (X := X) hx hb hK hW hI hA hS (14, k, 0) (cvs14 (cve10 hk)) rfl 0 rfl 4 (by decide) (by unfold vp_in; decide) dC_draftEntry_86 (fun H locs hW hS => ?_)
    obtain ⟨σ23, e24⟩ : ∃ z : fw_S, z = fw_st σ21 (14, k, 0) 4 0 := ⟨_, rfl⟩
    rw [← e24] at hW
    try rw [← e24] at he
    unfold cs_draftEntry_s9 at he
    refine lv_aload_n hx hb dC_draftEntry_87 rfl (lv_at hl 2 rfl) ?_
    refine fw_get (X := X) (v := .ref (X.2.2 (14, k, 0))) hx hb hts hin_C hown hK hW (10, k, 0) (cve10 hk) rfl rfl 1 (by decide) (htb _ m_85 rfl) (fun _ h => h) rfl rfl dC_draftEntry_88 ?_
    refine lv_iconst (v := 1) hx hb dC_draftEntry_91 (by decide) ?_
    refine lv_iload_n hx hb dC_draftEntry_92 rfl (lv_at hl 3 rfl) ?_
    refine fw_iast (X := X) hx hb hK hW hI hA hS (14, k, 0) (cvs14 (cve10 hk)) rfl 0 rfl 1 (by decide) (by unfold vp_in; decide) dC_draftEntry_93 (fun H locs hW hS => ?_)
    obtain ⟨σ25, e26⟩ : ∃ z : fw_S, z = fw_st σ23 (14, k, 0) 1 a1 := ⟨_, rfl⟩
    rw [← e26] at hW
    try rw [← e26] at he
    unfold cs_draftEntry_s10 at he
    refine lv_aload_n hx hb dC_draftEntry_94 rfl (lv_at hl 2 rfl) ?_
    refine fw_get (X := X) (v := .ref (X.2.2 (14, k, 0))) hx hb hts hin_C hown hK hW (10, k, 0) (cve10 hk) rfl rfl 1 (by decide) (htb _ m_85 rfl) (fun _ h => h) rfl rfl dC_draftEntry_95 ?_
    refine lv_iconst (v := 2) hx hb dC_draftEntry_98 (by decide) ?_
    refine lv_iload_n hx hb dC_draftEntry_99 rfl (lv_at hl 4 rfl) ?_
    refine fw_iast (X := X) hx hb hK hW hI hA hS (14, k, 0) (cvs14 (cve10 hk)) rfl 0 rfl 2 (by decide) (by unfold vp_in; decide) dC_draftEntry_100 (fun H locs hW hS => ?_)
    obtain ⟨σ27, e28⟩ : ∃ z : fw_S, z = fw_st σ25 (14, k, 0) 2 a2 := ⟨_, rfl⟩
    rw [← e28] at hW
    try rw [← e28] at he
    unfold cs_draftEntry_s11 at he
    refine lv_iload hx hb dC_draftEntry_101 (lv_at hl 0 rfl) ?_
    exact fw_iret hx hb hr hlocks hK hnb hW hS he dC_draftEntry_103
def cs_draftExit_s5 (z5 : Int32) (σ13 : fw_S) : Int32 × fw_S :=
  (z5, σ13)
def cs_draftExit_s4 (k : Nat) (z5 : Int32) (σ11 : fw_S) : Int32 × fw_S :=
  cs_draftExit_s5 z5 (fw_st σ11 (14, k, 0) 1 (-1))
def cs_draftExit_s3 (k : Nat) (z5 : Int32) (σ8 : fw_S) : Int32 × fw_S :=
  cs_draftExit_s4 k z5 (fw_st σ8 (14, k, 0) 5 (-1000))
def cs_draftExit_s2 (k : Nat) (σ : fw_S) (z5 : Int32) : Int32 × fw_S :=
  cs_draftExit_s3 k z5 (fw_st σ (14, k, 0) 4 0)
def cs_draftExit_s1 (k : Nat) (σ : fw_S) (z3 : Int32) : Int32 × fw_S :=
  cs_draftExit_s2 k σ (cs_capped σ z3 (σ (14, k, 0) 6))
def cs_draftExit_s10 (z19 : Int32) (σ27 : fw_S) : Int32 × fw_S :=
  (z19, σ27)
def cs_draftExit_s9 (k : Nat) (z19 : Int32) (σ25 : fw_S) : Int32 × fw_S :=
  cs_draftExit_s10 z19 (fw_st σ25 (14, k, 0) 1 (-1))
def cs_draftExit_s8 (k : Nat) (z19 : Int32) (σ22 : fw_S) : Int32 × fw_S :=
  cs_draftExit_s9 k z19 (fw_st σ22 (14, k, 0) 5 (-1000))
def cs_draftExit_s7 (k : Nat) (σ : fw_S) (z19 : Int32) : Int32 × fw_S :=
  cs_draftExit_s8 k z19 (fw_st σ (14, k, 0) 4 0)
def cs_draftExit_s6 (k : Nat) (σ : fw_S) (z17 : Int32) : Int32 × fw_S :=
  cs_draftExit_s7 k σ (cs_capped σ z17 (σ (14, k, 0) 6))
def cs_draftExit_s15 (z32 : Int32) (σ40 : fw_S) : Int32 × fw_S :=
  (z32, σ40)
def cs_draftExit_s14 (k : Nat) (z32 : Int32) (σ38 : fw_S) : Int32 × fw_S :=
  cs_draftExit_s15 z32 (fw_st σ38 (14, k, 0) 1 (-1))
def cs_draftExit_s13 (k : Nat) (a2 : Int32) (z32 : Int32) (σ35 : fw_S) : Int32 × fw_S :=
  cs_draftExit_s14 k z32 (fw_st σ35 (14, k, 0) 5 a2)
def cs_draftExit_s12 (k : Nat) (a2 : Int32) (σ : fw_S) (z32 : Int32) : Int32 × fw_S :=
  cs_draftExit_s13 k a2 z32 (fw_st σ (14, k, 0) 4 ((σ (14, k, 0) 4) + z32))
def cs_draftExit_s11 (k : Nat) (a2 : Int32) (σ : fw_S) (z30 : Int32) : Int32 × fw_S :=
  cs_draftExit_s12 k a2 σ (cs_capped σ z30 (σ (14, k, 0) 6))
def cs_draftExit (σ : fw_S) (k : Nat) (a1 : Int32) (a2 : Int32) : Int32 × fw_S :=
  if (σ (14, k, 0) 1) = (-1) then cs_draftExit_s1 k σ (cs_priceOutOfTime σ k a1 a2) else if ((σ (14, k, 0) 2) + 180) < a2 then cs_draftExit_s6 k σ (cs_priceOutOfTime σ k a1 a2) else cs_draftExit_s11 k a2 σ ((cs_priceBetween σ (σ (14, k, 0) 3) a1 (σ (14, k, 0) 2)) - (σ (14, k, 0) 4))
set_option maxHeartbeats 4000000 in
set_option maxRecDepth 100000 in
theorem c_draftExit (l : Launch) (X : fw_X) (hI : fw_I cV X) (σ : fw_S) (k : Nat) (hk : k < 4) (a1 a2 : Int32)  : fw_Mi fw_cl csh cV fw_tys l yC_draftExit wC_draftExit (fw_rm 3) X σ [.ref (X.2.2 (10, k, 0)), .int a1, .int a2, .ref (X.2.2 (1, 0, 0))] (cs_draftExit σ k a1 a2) := by
  obtain ⟨out, he⟩ : ∃ z : Int32 × fw_S, z = cs_draftExit σ k a1 a2 := ⟨_, rfl⟩
  rw [← he]
  refine fw_Mi_of (cc := bC_draftExit) (maxL := 7) (ret := (some .int)) (by decide) rfl (Nat.le_of_ble_eq_true rfl) ?_
  intro p e s m below meth c ls hx hb hr hml hlocks hown hts hK hnb hW hl
  have hS : va_S (fw_A cV X) s.heap s.heap [] := va_S.rf
  have hA : ∀ t, cV t → fw_A cV X (X.2.2 t) := fun t h => ⟨t, h, rfl⟩
  have htb := tb_use hts
  have hl : lv_has ls 7 [(0, .ref (X.2.2 (10, k, 0))), (1, .int a1), (2, .int a2), (3, .ref (X.2.2 (1, 0, 0)))] := hl
  have hown : s.vm.findClass "TapOffice$Card" = some m.cls := hown
  unfold cs_draftExit at he
  refine lv_aload_n hx hb dC_draftExit_0 rfl (lv_at hl 0 rfl) ?_
  refine fw_get (X := X) (v := .ref (X.2.2 (14, k, 0))) hx hb hts hin_C hown hK hW (10, k, 0) (cve10 hk) rfl rfl 1 (by decide) (htb _ m_85 rfl) (fun _ h => h) rfl rfl dC_draftExit_1 ?_
  refine lv_iconst (v := 1) hx hb dC_draftExit_4 (by decide) ?_
  refine fw_iald (X := X) hx hb hK hW (14, k, 0) (cvs14 (cve10 hk)) rfl 0 rfl 1 (by decide) (by unfold vp_in; decide) dC_draftExit_5 ?_
  refine lv_iconst (v := (-1)) hx hb dC_draftExit_6 (by decide) ?_
  refine lv_icmp_eq (tgt := 28) hx hb dC_draftExit_7 (by decide) (fun c1 => ?_) (fun c1 => ?_)
  · rw [if_pos c1] at he
    refine lv_iconst (v := 0) hx hb dC_draftExit_28 (by decide) ?_
    refine lv_istore (lv' := [(4, .int 0), (0, .ref (X.2.2 (10, k, 0))), (1, .int a1), (2, .int a2), (3, .ref (X.2.2 (1, 0, 0)))]) hx hb dC_draftExit_29 hl (by decide) rfl (fun ls hl => ?_)
    refine lv_iload hx hb dC_draftExit_31 (lv_at hl 0 rfl) ?_
    refine lv_if_eq (tgt := 63) hx hb dC_draftExit_33 (by decide) (fun c2 => ?_) (fun c2 => ?_)
    rotate_left
    · exact absurd c2 (by decide)
    refine lv_aload_n hx hb dC_draftExit_63 rfl (lv_at hl 1 rfl) ?_
    refine lv_iload_n hx hb dC_draftExit_64 rfl (lv_at hl 2 rfl) ?_
    refine lv_iload_n hx hb dC_draftExit_65 rfl (lv_at hl 3 rfl) ?_
    refine lv_aload_n hx hb dC_draftExit_66 rfl (lv_at hl 4 rfl) ?_
    refine fw_kp (va_runV (As := [.int a1, .int a2, .ref (X.2.2 (1, 0, 0))]) (rest := []) ⟨hx, hb, hml, hown, hts⟩ (c_priceOutOfTime l X hI σ k ((cve10 hk)).1 a1 a2 ) (cwV 3 hts (tb_V m_265 m_262 m_264 m_4 m_27) rfl rfl rfl (by decide +kernel) ⟨Nat.le_of_ble_eq_true rfl, Nat.le_of_ble_eq_true rfl⟩) (fw_preV (X := X) hK hnb hW (10, k, 0) (cve10 hk) rfl rfl [.int a1, .int a2, .ref (X.2.2 (1, 0, 0))]) rfl rfl hl.1 rfl (lv_room (Nat.le_of_ble_eq_true rfl)) dC_draftExit_67 ⟨Nat.zero_le _, Nat.zero_le _⟩) hS (fun H locs hW hS => ?_)
    refine lv_topi (fun z3 e4 => ?_)
    try rw [← e4] at he
    unfold cs_draftExit_s1 at he
    refine lv_istore (lv' := [(5, .int z3), (4, .int 0), (0, .ref (X.2.2 (10, k, 0))), (1, .int a1), (2, .int a2), (3, .ref (X.2.2 (1, 0, 0)))]) hx hb dC_draftExit_70 hl (by decide) rfl (fun ls hl => ?_)
    refine lv_aload_n hx hb dC_draftExit_72 rfl (lv_at hl 5 rfl) ?_
    refine lv_iload hx hb dC_draftExit_73 (lv_at hl 0 rfl) ?_
    refine lv_aload_n hx hb dC_draftExit_75 rfl (lv_at hl 2 rfl) ?_
    refine fw_get (X := X) (v := .ref (X.2.2 (14, k, 0))) hx hb hts hin_C hown hK hW (10, k, 0) (cve10 hk) rfl rfl 1 (by decide) (htb _ m_85 rfl) (fun _ h => h) rfl rfl dC_draftExit_76 ?_
    refine lv_bipush (v := 6) hx hb dC_draftExit_79 (by decide) ?_
    refine fw_iald (X := X) hx hb hK hW (14, k, 0) (cvs14 (cve10 hk)) rfl 0 rfl 6 (by decide) (by unfold vp_in; decide) dC_draftExit_81 ?_
    refine fw_kp (va_runV (As := [.int z3, .int (σ (14, k, 0) 6)]) (rest := []) ⟨hx, hb, hml, hown, hts⟩ (c_capped l X hI σ z3 (σ (14, k, 0) 6) ) (cwV 2 hts (tb_V m_276 m_273 m_274 m_275 m_26) rfl rfl rfl (by decide +kernel) ⟨Nat.le_of_ble_eq_true rfl, Nat.le_of_ble_eq_true rfl⟩) (fw_preV (X := X) hK hnb hW (1, 0, 0) cv1 rfl rfl [.int z3, .int (σ (14, k, 0) 6)]) rfl rfl hl.1 rfl (lv_room (Nat.le_of_ble_eq_true rfl)) dC_draftExit_82 ⟨Nat.zero_le _, Nat.zero_le _⟩) hS (fun H locs hW hS => ?_)
    refine lv_topi (fun z5 e6 => ?_)
    try rw [← e6] at he
    unfold cs_draftExit_s2 at he
    refine lv_istore (lv' := [(6, .int z5), (5, .int z3), (4, .int 0), (0, .ref (X.2.2 (10, k, 0))), (1, .int a1), (2, .int a2), (3, .ref (X.2.2 (1, 0, 0)))]) hx hb dC_draftExit_85 hl (by decide) rfl (fun ls hl => ?_)
    refine lv_aload_n hx hb dC_draftExit_87 rfl (lv_at hl 3 rfl) ?_
    refine fw_get (X := X) (v := .ref (X.2.2 (14, k, 0))) hx hb hts hin_C hown hK hW (10, k, 0) (cve10 hk) rfl rfl 1 (by decide) (htb _ m_85 rfl) (fun _ h => h) rfl rfl dC_draftExit_88 ?_
    refine lv_iconst (v := 4) hx hb dC_draftExit_91 (by decide) ?_
    refine lv_iload hx hb dC_draftExit_92 (lv_at hl 2 rfl) ?_
    refine lv_if_eq (tgt := 109) hx hb dC_draftExit_94 (by decide) (fun c7 => ?_) (fun c7 => ?_)
    rotate_left
    · exact absurd c7 (by decide)
    refine lv_iconst (v := 0) hx hb dC_draftExit_109 (by decide) ?_
    refine fw_iast (X := X) hx hb hK hW hI hA hS (14, k, 0) (cvs14 (cve10 hk)) rfl 0 rfl 4 (by decide) (by unfold vp_in; decide) dC_draftExit_110 (fun H locs hW hS => ?_)
    obtain ⟨σ8, e9⟩ : ∃ z : fw_S, z = fw_st σ (14, k, 0) 4 0 := ⟨_, rfl⟩
    rw [← e9] at hW
    try rw [← e9] at he
    unfold cs_draftExit_s3 at he
    refine lv_aload_n hx hb dC_draftExit_111 rfl (lv_at hl 3 rfl) ?_
    refine fw_get (X := X) (v := .ref (X.2.2 (14, k, 0))) hx hb hts hin_C hown hK hW (10, k, 0) (cve10 hk) rfl rfl 1 (by decide) (htb _ m_85 rfl) (fun _ h => h) rfl rfl dC_draftExit_112 ?_
    refine lv_iconst (v := 5) hx hb dC_draftExit_115 (by decide) ?_
    refine lv_iload hx hb dC_draftExit_116 (lv_at hl 2 rfl) ?_
    refine lv_if_eq (tgt := 125) hx hb dC_draftExit_118 (by decide) (fun c10 => ?_) (fun c10 => ?_)
    rotate_left
    · exact absurd c10 (by decide)
    refine lv_sipush (v := (-1000)) hx hb dC_draftExit_125 (by decide) ?_
    refine fw_iast (X := X) hx hb hK hW hI hA hS (14, k, 0) (cvs14 (cve10 hk)) rfl 0 rfl 5 (by decide) (by unfold vp_in; decide) dC_draftExit_128 (fun H locs hW hS => ?_)
    obtain ⟨σ11, e12⟩ : ∃ z : fw_S, z = fw_st σ8 (14, k, 0) 5 (-1000) := ⟨_, rfl⟩
    rw [← e12] at hW
    try rw [← e12] at he
    unfold cs_draftExit_s4 at he
    refine lv_aload_n hx hb dC_draftExit_129 rfl (lv_at hl 3 rfl) ?_
    refine fw_get (X := X) (v := .ref (X.2.2 (14, k, 0))) hx hb hts hin_C hown hK hW (10, k, 0) (cve10 hk) rfl rfl 1 (by decide) (htb _ m_85 rfl) (fun _ h => h) rfl rfl dC_draftExit_130 ?_
    refine lv_iconst (v := 1) hx hb dC_draftExit_133 (by decide) ?_
    refine lv_iconst (v := (-1)) hx hb dC_draftExit_134 (by decide) ?_
    refine fw_iast (X := X) hx hb hK hW hI hA hS (14, k, 0) (cvs14 (cve10 hk)) rfl 0 rfl 1 (by decide) (by unfold vp_in; decide) dC_draftExit_135 (fun H locs hW hS => ?_)
    obtain ⟨σ13, e14⟩ : ∃ z : fw_S, z = fw_st σ11 (14, k, 0) 1 (-1) := ⟨_, rfl⟩
    rw [← e14] at hW
    try rw [← e14] at he
    unfold cs_draftExit_s5 at he
    refine lv_iload hx hb dC_draftExit_136 (lv_at hl 0 rfl) ?_
    exact fw_iret hx hb hr hlocks hK hnb hW hS he dC_draftExit_138
  · rw [if_neg c1] at he
    refine lv_iload_n hx hb dC_draftExit_10 rfl (lv_at hl 2 rfl) ?_
    refine lv_aload_n hx hb dC_draftExit_11 rfl (lv_at hl 0 rfl) ?_
    refine fw_get (X := X) (v := .ref (X.2.2 (14, k, 0))) hx hb hts hin_C hown hK hW (10, k, 0) (cve10 hk) rfl rfl 1 (by decide) (htb _ m_85 rfl) (fun _ h => h) rfl rfl dC_draftExit_12 ?_
    refine lv_iconst (v := 2) hx hb dC_draftExit_15 (by decide) ?_
    refine fw_iald (X := X) hx hb hK hW (14, k, 0) (cvs14 (cve10 hk)) rfl 0 rfl 2 (by decide) (by unfold vp_in; decide) dC_draftExit_16 ?_
    refine lv_sipush (v := 180) hx hb dC_draftExit_17 (by decide) ?_
    refine lv_iadd hx hb dC_draftExit_20 ?_
    refine lv_icmp_gt (tgt := 28) hx hb dC_draftExit_21 (by decide) (fun c15 => ?_) (fun c15 => ?_)
    · rw [if_pos c15] at he
      refine lv_iconst (v := 0) hx hb dC_draftExit_28 (by decide) ?_
      refine lv_istore (lv' := [(4, .int 0), (0, .ref (X.2.2 (10, k, 0))), (1, .int a1), (2, .int a2), (3, .ref (X.2.2 (1, 0, 0)))]) hx hb dC_draftExit_29 hl (by decide) rfl (fun ls hl => ?_)
      refine lv_iload hx hb dC_draftExit_31 (lv_at hl 0 rfl) ?_
      refine lv_if_eq (tgt := 63) hx hb dC_draftExit_33 (by decide) (fun c16 => ?_) (fun c16 => ?_)
      rotate_left
      · exact absurd c16 (by decide)
      refine lv_aload_n hx hb dC_draftExit_63 rfl (lv_at hl 1 rfl) ?_
      refine lv_iload_n hx hb dC_draftExit_64 rfl (lv_at hl 2 rfl) ?_
      refine lv_iload_n hx hb dC_draftExit_65 rfl (lv_at hl 3 rfl) ?_
      refine lv_aload_n hx hb dC_draftExit_66 rfl (lv_at hl 4 rfl) ?_
      refine fw_kp (va_runV (As := [.int a1, .int a2, .ref (X.2.2 (1, 0, 0))]) (rest := []) ⟨hx, hb, hml, hown, hts⟩ (c_priceOutOfTime l X hI σ k ((cve10 hk)).1 a1 a2 ) (cwV 3 hts (tb_V m_265 m_262 m_264 m_4 m_27) rfl rfl rfl (by decide +kernel) ⟨Nat.le_of_ble_eq_true rfl, Nat.le_of_ble_eq_true rfl⟩) (fw_preV (X := X) hK hnb hW (10, k, 0) (cve10 hk) rfl rfl [.int a1, .int a2, .ref (X.2.2 (1, 0, 0))]) rfl rfl hl.1 rfl (lv_room (Nat.le_of_ble_eq_true rfl)) dC_draftExit_67 ⟨Nat.zero_le _, Nat.zero_le _⟩) hS (fun H locs hW hS => ?_)
      refine lv_topi (fun z17 e18 => ?_)
      try rw [← e18] at he
      unfold cs_draftExit_s6 at he
      refine lv_istore (lv' := [(5, .int z17), (4, .int 0), (0, .ref (X.2.2 (10, k, 0))), (1, .int a1), (2, .int a2), (3, .ref (X.2.2 (1, 0, 0)))]) hx hb dC_draftExit_70 hl (by decide) rfl (fun ls hl => ?_)
      refine lv_aload_n hx hb dC_draftExit_72 rfl (lv_at hl 5 rfl) ?_
      refine lv_iload hx hb dC_draftExit_73 (lv_at hl 0 rfl) ?_
      refine lv_aload_n hx hb dC_draftExit_75 rfl (lv_at hl 2 rfl) ?_
      refine fw_get (X := X) (v := .ref (X.2.2 (14, k, 0))) hx hb hts hin_C hown hK hW (10, k, 0) (cve10 hk) rfl rfl 1 (by decide) (htb _ m_85 rfl) (fun _ h => h) rfl rfl dC_draftExit_76 ?_
      refine lv_bipush (v := 6) hx hb dC_draftExit_79 (by decide) ?_
      refine fw_iald (X := X) hx hb hK hW (14, k, 0) (cvs14 (cve10 hk)) rfl 0 rfl 6 (by decide) (by unfold vp_in; decide) dC_draftExit_81 ?_
      refine fw_kp (va_runV (As := [.int z17, .int (σ (14, k, 0) 6)]) (rest := []) ⟨hx, hb, hml, hown, hts⟩ (c_capped l X hI σ z17 (σ (14, k, 0) 6) ) (cwV 2 hts (tb_V m_276 m_273 m_274 m_275 m_26) rfl rfl rfl (by decide +kernel) ⟨Nat.le_of_ble_eq_true rfl, Nat.le_of_ble_eq_true rfl⟩) (fw_preV (X := X) hK hnb hW (1, 0, 0) cv1 rfl rfl [.int z17, .int (σ (14, k, 0) 6)]) rfl rfl hl.1 rfl (lv_room (Nat.le_of_ble_eq_true rfl)) dC_draftExit_82 ⟨Nat.zero_le _, Nat.zero_le _⟩) hS (fun H locs hW hS => ?_)
      refine lv_topi (fun z19 e20 => ?_)
      try rw [← e20] at he
      unfold cs_draftExit_s7 at he
      refine lv_istore (lv' := [(6, .int z19), (5, .int z17), (4, .int 0), (0, .ref (X.2.2 (10, k, 0))), (1, .int a1), (2, .int a2), (3, .ref (X.2.2 (1, 0, 0)))]) hx hb dC_draftExit_85 hl (by decide) rfl (fun ls hl => ?_)
      refine lv_aload_n hx hb dC_draftExit_87 rfl (lv_at hl 3 rfl) ?_
      refine fw_get (X := X) (v := .ref (X.2.2 (14, k, 0))) hx hb hts hin_C hown hK hW (10, k, 0) (cve10 hk) rfl rfl 1 (by decide) (htb _ m_85 rfl) (fun _ h => h) rfl rfl dC_draftExit_88 ?_
      refine lv_iconst (v := 4) hx hb dC_draftExit_91 (by decide) ?_
      refine lv_iload hx hb dC_draftExit_92 (lv_at hl 2 rfl) ?_
      refine lv_if_eq (tgt := 109) hx hb dC_draftExit_94 (by decide) (fun c21 => ?_) (fun c21 => ?_)
      rotate_left
      · exact absurd c21 (by decide)
      refine lv_iconst (v := 0) hx hb dC_draftExit_109 (by decide) ?_
      refine fw_iast (X := X) hx hb hK hW hI hA hS (14, k, 0) (cvs14 (cve10 hk)) rfl 0 rfl 4 (by decide) (by unfold vp_in; decide) dC_draftExit_110 (fun H locs hW hS => ?_)
      obtain ⟨σ22, e23⟩ : ∃ z : fw_S, z = fw_st σ (14, k, 0) 4 0 := ⟨_, rfl⟩
      rw [← e23] at hW
      try rw [← e23] at he
      unfold cs_draftExit_s8 at he
      refine lv_aload_n hx hb dC_draftExit_111 rfl (lv_at hl 3 rfl) ?_
      refine fw_get (X := X) (v := .ref (X.2.2 (14, k, 0))) hx hb hts hin_C hown hK hW (10, k, 0) (cve10 hk) rfl rfl 1 (by decide) (htb _ m_85 rfl) (fun _ h => h) rfl rfl dC_draftExit_112 ?_
      refine lv_iconst (v := 5) hx hb dC_draftExit_115 (by decide) ?_
      refine lv_iload hx hb dC_draftExit_116 (lv_at hl 2 rfl) ?_
      refine lv_if_eq (tgt := 125) hx hb dC_draftExit_118 (by decide) (fun c24 => ?_) (fun c24 => ?_)
      rotate_left
      · exact absurd c24 (by decide)
      refine lv_sipush (v := (-1000)) hx hb dC_draftExit_125 (by decide) ?_
      refine fw_iast (X := X) hx hb hK hW hI hA hS (14, k, 0) (cvs14 (cve10 hk)) rfl 0 rfl 5 (by decide) (by unfold vp_in; decide) dC_draftExit_128 (fun H locs hW hS => ?_)
      obtain ⟨σ25, e26⟩ : ∃ z : fw_S, z = fw_st σ22 (14, k, 0) 5 (-1000) := ⟨_, rfl⟩
      rw [← e26] at hW
      try rw [← e26] at he
      unfold cs_draftExit_s9 at he
      refine lv_aload_n hx hb dC_draftExit_129 rfl (lv_at hl 3 rfl) ?_
      refine fw_get (X := X) (v := .ref (X.2.2 (14, k, 0))) hx hb hts hin_C hown hK hW (10, k, 0) (cve10 hk) rfl rfl 1 (by decide) (htb _ m_85 rfl) (fun _ h => h) rfl rfl dC_draftExit_130 ?_
      refine lv_iconst (v := 1) hx hb dC_draftExit_133 (by decide) ?_
      refine lv_iconst (v := (-1)) hx hb dC_draftExit_134 (by decide) ?_
      refine fw_iast (X := X) hx hb hK hW hI hA hS (14, k, 0) (cvs14 (cve10 hk)) rfl 0 rfl 1 (by decide) (by unfold vp_in; decide) dC_draftExit_135 (fun H locs hW hS => ?_)
      obtain ⟨σ27, e28⟩ : ∃ z : fw_S, z = fw_st σ25 (14, k, 0) 1 (-1) := ⟨_, rfl⟩
      rw [← e28] at hW
      try rw [← e28] at he
      unfold cs_draftExit_s10 at he
      refine lv_iload hx hb dC_draftExit_136 (lv_at hl 0 rfl) ?_
      exact fw_iret hx hb hr hlocks hK hnb hW hS he dC_draftExit_138
    · rw [if_neg c15] at he
      refine lv_iconst (v := 1) hx hb dC_draftExit_24 (by decide) ?_
      refine lv_goto (tgt := 29) hx hb dC_draftExit_25 (by decide) ?_
      refine lv_istore (lv' := [(4, .int 1), (0, .ref (X.2.2 (10, k, 0))), (1, .int a1), (2, .int a2), (3, .ref (X.2.2 (1, 0, 0)))]) hx hb dC_draftExit_29 hl (by decide) rfl (fun ls hl => ?_)
      refine lv_iload hx hb dC_draftExit_31 (lv_at hl 0 rfl) ?_
      refine lv_if_eq (tgt := 63) hx hb dC_draftExit_33 (by decide) (fun c29 => ?_) (fun c29 => ?_)
      · exact absurd c29 (by decide)
      refine lv_aload_n hx hb dC_draftExit_36 rfl (lv_at hl 4 rfl) ?_
      refine lv_aload_n hx hb dC_draftExit_37 rfl (lv_at hl 1 rfl) ?_
      refine fw_get (X := X) (v := .ref (X.2.2 (14, k, 0))) hx hb hts hin_C hown hK hW (10, k, 0) (cve10 hk) rfl rfl 1 (by decide) (htb _ m_85 rfl) (fun _ h => h) rfl rfl dC_draftExit_38 ?_
      refine lv_iconst (v := 3) hx hb dC_draftExit_41 (by decide) ?_
      refine fw_iald (X := X) hx hb hK hW (14, k, 0) (cvs14 (cve10 hk)) rfl 0 rfl 3 (by decide) (by unfold vp_in; decide) dC_draftExit_42 ?_
      refine lv_iload_n hx hb dC_draftExit_43 rfl (lv_at hl 2 rfl) ?_
      refine lv_aload_n hx hb dC_draftExit_44 rfl (lv_at hl 1 rfl) ?_
      refine fw_get (X := X) (v := .ref (X.2.2 (14, k, 0))) hx hb hts hin_C hown hK hW (10, k, 0) (cve10 hk) rfl rfl 1 (by decide) (htb _ m_85 rfl) (fun _ h => h) rfl rfl dC_draftExit_45 ?_
      refine lv_iconst (v := 2) hx hb dC_draftExit_48 (by decide) ?_
      refine fw_iald (X := X) hx hb hK hW (14, k, 0) (cvs14 (cve10 hk)) rfl 0 rfl 2 (by decide) (by unfold vp_in; decide) dC_draftExit_49 ?_
      refine fw_kp (va_runV (As := [.int (σ (14, k, 0) 3), .int a1, .int (σ (14, k, 0) 2)]) (rest := []) ⟨hx, hb, hml, hown, hts⟩ (c_priceBetween l X hI σ (σ (14, k, 0) 3) a1 (σ (14, k, 0) 2) ) (cwV 3 hts (tb_V m_256 m_253 m_254 m_255 m_26) rfl rfl rfl (by decide +kernel) ⟨Nat.le_of_ble_eq_true rfl, Nat.le_of_ble_eq_true rfl⟩) (fw_preV (X := X) hK hnb hW (1, 0, 0) cv1 rfl rfl [.int (σ (14, k, 0) 3), .int a1, .int (σ (14, k, 0) 2)]) rfl rfl hl.1 rfl (lv_room (Nat.le_of_ble_eq_true rfl)) dC_draftExit_50 ⟨Nat.zero_le _, Nat.zero_le _⟩) hS (fun H locs hW hS => ?_)
      refine lv_aload_n hx hb dC_draftExit_53 rfl (lv_at hl 1 rfl) ?_
      refine fw_get (X := X) (v := .ref (X.2.2 (14, k, 0))) hx hb hts hin_C hown hK hW (10, k, 0) (cve10 hk) rfl rfl 1 (by decide) (htb _ m_85 rfl) (fun _ h => h) rfl rfl dC_draftExit_54 ?_
      refine lv_iconst (v := 4) hx hb dC_draftExit_57 (by decide) ?_
      refine fw_iald (X := X) hx hb hK hW (14, k, 0) (cvs14 (cve10 hk)) rfl 0 rfl 4 (by decide) (by unfold vp_in; decide) dC_draftExit_58 ?_
      refine lv_isub hx hb dC_draftExit_59 ?_
      refine lv_goto (tgt := 70) hx hb dC_draftExit_60 (by decide) ?_
      refine lv_topi (fun z30 e31 => ?_)
      try rw [← e31] at he
      unfold cs_draftExit_s11 at he
      refine lv_istore (lv' := [(5, .int z30), (4, .int 1), (0, .ref (X.2.2 (10, k, 0))), (1, .int a1), (2, .int a2), (3, .ref (X.2.2 (1, 0, 0)))]) hx hb dC_draftExit_70 hl (by decide) rfl (fun ls hl => ?_)
      refine lv_aload_n hx hb dC_draftExit_72 rfl (lv_at hl 5 rfl) ?_
      refine lv_iload hx hb dC_draftExit_73 (lv_at hl 0 rfl) ?_
      refine lv_aload_n hx hb dC_draftExit_75 rfl (lv_at hl 2 rfl) ?_
      refine fw_get (X := X) (v := .ref (X.2.2 (14, k, 0))) hx hb hts hin_C hown hK hW (10, k, 0) (cve10 hk) rfl rfl 1 (by decide) (htb _ m_85 rfl) (fun _ h => h) rfl rfl dC_draftExit_76 ?_
      refine lv_bipush (v := 6) hx hb dC_draftExit_79 (by decide) ?_
      refine fw_iald (X := X) hx hb hK hW (14, k, 0) (cvs14 (cve10 hk)) rfl 0 rfl 6 (by decide) (by unfold vp_in; decide) dC_draftExit_81 ?_
      refine fw_kp (va_runV (As := [.int z30, .int (σ (14, k, 0) 6)]) (rest := []) ⟨hx, hb, hml, hown, hts⟩ (c_capped l X hI σ z30 (σ (14, k, 0) 6) ) (cwV 2 hts (tb_V m_276 m_273 m_274 m_275 m_26) rfl rfl rfl (by decide +kernel) ⟨Nat.le_of_ble_eq_true rfl, Nat.le_of_ble_eq_true rfl⟩) (fw_preV (X := X) hK hnb hW (1, 0, 0) cv1 rfl rfl [.int z30, .int (σ (14, k, 0) 6)]) rfl rfl hl.1 rfl (lv_room (Nat.le_of_ble_eq_true rfl)) dC_draftExit_82 ⟨Nat.zero_le _, Nat.zero_le _⟩) hS (fun H locs hW hS => ?_)
      refine lv_topi (fun z32 e33 => ?_)
      try rw [← e33] at he
      unfold cs_draftExit_s12 at he
      refine lv_istore (lv' := [(6, .int z32), (5, .int z30), (4, .int 1), (0, .ref (X.2.2 (10, k, 0))), (1, .int a1), (2, .int a2), (3, .ref (X.2.2 (1, 0, 0)))]) hx hb dC_draftExit_85 hl (by decide) rfl (fun ls hl => ?_)
      refine lv_aload_n hx hb dC_draftExit_87 rfl (lv_at hl 3 rfl) ?_
      refine fw_get (X := X) (v := .ref (X.2.2 (14, k, 0))) hx hb hts hin_C hown hK hW (10, k, 0) (cve10 hk) rfl rfl 1 (by decide) (htb _ m_85 rfl) (fun _ h => h) rfl rfl dC_draftExit_88 ?_
      refine lv_iconst (v := 4) hx hb dC_draftExit_91 (by decide) ?_
      refine lv_iload hx hb dC_draftExit_92 (lv_at hl 2 rfl) ?_
      refine lv_if_eq (tgt := 109) hx hb dC_draftExit_94 (by decide) (fun c34 => ?_) (fun c34 => ?_)
      · exact absurd c34 (by decide)
      refine lv_aload_n hx hb dC_draftExit_97 rfl (lv_at hl 3 rfl) ?_
      refine fw_get (X := X) (v := .ref (X.2.2 (14, k, 0))) hx hb hts hin_C hown hK hW (10, k, 0) (cve10 hk) rfl rfl 1 (by decide) (htb _ m_85 rfl) (fun _ h => h) rfl rfl dC_draftExit_98 ?_
      refine lv_iconst (v := 4) hx hb dC_draftExit_101 (by decide) ?_
      refine fw_iald (X := X) hx hb hK hW (14, k, 0) (cvs14 (cve10 hk)) rfl 0 rfl 4 (by decide) (by unfold vp_in; decide) dC_draftExit_102 ?_
      refine lv_iload hx hb dC_draftExit_103 (lv_at hl 0 rfl) ?_
      refine lv_iadd hx hb dC_draftExit_105 ?_
      refine lv_goto (tgt := 110) hx hb dC_draftExit_106 (by decide) ?_
      refine fw_iast (X := X) hx hb hK hW hI hA hS (14, k, 0) (cvs14 (cve10 hk)) rfl 0 rfl 4 (by decide) (by unfold vp_in; decide) dC_draftExit_110 (fun H locs hW hS => ?_)
      obtain ⟨σ35, e36⟩ : ∃ z : fw_S, z = fw_st σ (14, k, 0) 4 ((σ (14, k, 0) 4) + z32) := ⟨_, rfl⟩
      rw [← e36] at hW
      try rw [← e36] at he
      unfold cs_draftExit_s13 at he
      refine lv_aload_n hx hb dC_draftExit_111 rfl (lv_at hl 3 rfl) ?_
      refine fw_get (X := X) (v := .ref (X.2.2 (14, k, 0))) hx hb hts hin_C hown hK hW (10, k, 0) (cve10 hk) rfl rfl 1 (by decide) (htb _ m_85 rfl) (fun _ h => h) rfl rfl dC_draftExit_112 ?_
      refine lv_iconst (v := 5) hx hb dC_draftExit_115 (by decide) ?_
      refine lv_iload hx hb dC_draftExit_116 (lv_at hl 2 rfl) ?_
      refine lv_if_eq (tgt := 125) hx hb dC_draftExit_118 (by decide) (fun c37 => ?_) (fun c37 => ?_)
      · exact absurd c37 (by decide)
      refine lv_iload_n hx hb dC_draftExit_121 rfl (lv_at hl 5 rfl) ?_
      refine lv_goto (tgt := 128) hx hb dC_draftExit_122 (by decide) ?_
      refine fw_iast (X := X) hx hb hK hW hI hA hS (14, k, 0) (cvs14 (cve10 hk)) rfl 0 rfl 5 (by decide) (by unfold vp_in; decide) dC_draftExit_128 (fun H locs hW hS => ?_)
      obtain ⟨σ38, e39⟩ : ∃ z : fw_S, z = fw_st σ35 (14, k, 0) 5 a2 := ⟨_, rfl⟩
      rw [← e39] at hW
      try rw [← e39] at he
      unfold cs_draftExit_s14 at he
      refine lv_aload_n hx hb dC_draftExit_129 rfl (lv_at hl 3 rfl) ?_
      refine fw_get (X := X) (v := .ref (X.2.2 (14, k, 0))) hx hb hts hin_C hown hK hW (10, k, 0) (cve10 hk) rfl rfl 1 (by decide) (htb _ m_85 rfl) (fun _ h => h) rfl rfl dC_draftExit_130 ?_
      refine lv_iconst (v := 1) hx hb dC_draftExit_133 (by decide) ?_
      refine lv_iconst (v := (-1)) hx hb dC_draftExit_134 (by decide) ?_
      refine fw_iast (X := X) hx hb hK hW hI hA hS (14, k, 0) (cvs14 (cve10 hk)) rfl 0 rfl 1 (by decide) (by unfold vp_in; decide) dC_draftExit_135 (fun H locs hW hS => ?_)
      obtain ⟨σ40, e41⟩ : ∃ z : fw_S, z = fw_st σ38 (14, k, 0) 1 (-1) := ⟨_, rfl⟩
      rw [← e41] at hW
      try rw [← e41] at he
      unfold cs_draftExit_s15 at he
      refine lv_iload hx hb dC_draftExit_136 (lv_at hl 0 rfl) ?_
      exact fw_iret hx hb hr hlocks hK hnb hW hS he dC_draftExit_138
theorem fr_draftEntry (σ : fw_S) (k : Nat) (a b : Int32) (u : fw_T) (h : u.1 ≠ 14) : (cs_draftEntry σ k a b).2 u = σ u := by
  simp only [cs_draftEntry, cs_draftEntry_s2, cs_draftEntry_s1, cs_draftEntry_s6, cs_draftEntry_s5, cs_draftEntry_s4, cs_draftEntry_s3, cs_draftEntry_s11, cs_draftEntry_s10, cs_draftEntry_s9, cs_draftEntry_s8, cs_draftEntry_s7]
  repeat' split
  all_goals simp only [fw_st_off (t := (14, k, 0)) h]
theorem fr_draftExit (σ : fw_S) (k : Nat) (a b : Int32) (u : fw_T) (h : u.1 ≠ 14) : (cs_draftExit σ k a b).2 u = σ u := by
  simp only [cs_draftExit, cs_draftExit_s5, cs_draftExit_s4, cs_draftExit_s3, cs_draftExit_s2, cs_draftExit_s1, cs_draftExit_s10, cs_draftExit_s9, cs_draftExit_s8, cs_draftExit_s7, cs_draftExit_s6, cs_draftExit_s15, cs_draftExit_s14, cs_draftExit_s13, cs_draftExit_s12, cs_draftExit_s11]
  repeat' split
  all_goals simp only [fw_st_off (t := (14, k, 0)) h]
def cs_draftTap_s4 (r4 : Int32) (σ9 : fw_S) : Int32 × fw_S :=
  (r4, σ9)
def cs_draftTap_s3 (k : Nat) (r4 : Int32) (σ7 : fw_S) : Int32 × fw_S :=
  cs_draftTap_s4 r4 (fw_st σ7 (14, k, 0) 6 ((σ7 (14, k, 0) 6) + r4))
def cs_draftTap_s2 (k : Nat) (r4 : Int32) (σ5 : fw_S) : Int32 × fw_S :=
  cs_draftTap_s3 k r4 (fw_st σ5 (14, k, 0) 0 ((σ5 (14, k, 0) 0) - r4))
def cs_draftTap_s7 (r11 : Int32) (σ16 : fw_S) : Int32 × fw_S :=
  (r11, σ16)
def cs_draftTap_s6 (k : Nat) (r11 : Int32) (σ14 : fw_S) : Int32 × fw_S :=
  cs_draftTap_s7 r11 (fw_st σ14 (14, k, 0) 6 ((σ14 (14, k, 0) 6) + r11))
def cs_draftTap_s5 (k : Nat) (r11 : Int32) (σ12 : fw_S) : Int32 × fw_S :=
  cs_draftTap_s6 k r11 (fw_st σ12 (14, k, 0) 0 ((σ12 (14, k, 0) 0) - r11))
def cs_draftTap_s1 (k : Nat) (v : Nat) (a2 : Int32) (σ1 : fw_S) : Int32 × fw_S :=
  if (cs_isExit σ1 v) = 0 then cs_draftTap_s2 k ((cs_draftEntry σ1 k (cs_zone σ1 v) a2).1) ((cs_draftEntry σ1 k (cs_zone σ1 v) a2).2) else cs_draftTap_s5 k ((cs_draftExit σ1 k (cs_zone σ1 v) a2).1) ((cs_draftExit σ1 k (cs_zone σ1 v) a2).2)
def cs_draftTap (σ : fw_S) (k : Nat) (v : Nat) (a2 : Int32) : Int32 × fw_S :=
  cs_draftTap_s1 k v a2 (cs_startDraft σ k a2)
set_option maxHeartbeats 4000000 in
set_option maxRecDepth 100000 in
theorem c_draftTap (l : Launch) (X : fw_X) (hI : fw_I cV X) (σ : fw_S) (k : Nat) (hk : k < 4) (v : Nat) (hv : v < 4) (a2 : Int32) (hz : σ (12, v, 0) 3 = 0 ∨ σ (12, v, 0) 3 = 1) : fw_Mi fw_cl csh cV fw_tys l yC_draftTap wC_draftTap (fw_rm 4) X σ [.ref (X.2.2 (10, k, 0)), .ref (X.2.2 (12, v, 0)), .int a2, .ref (X.2.2 (1, 0, 0))] (cs_draftTap σ k v a2) := by
  obtain ⟨out, he⟩ : ∃ z : Int32 × fw_S, z = cs_draftTap σ k v a2 := ⟨_, rfl⟩
  rw [← he]
  refine fw_Mi_of (cc := bC_draftTap) (maxL := 5) (ret := (some .int)) (by decide) rfl (Nat.le_of_ble_eq_true rfl) ?_
  intro p e s m below meth c ls hx hb hr hml hlocks hown hts hK hnb hW hl
  have hS : va_S (fw_A cV X) s.heap s.heap [] := va_S.rf
  have hA : ∀ t, cV t → fw_A cV X (X.2.2 t) := fun t h => ⟨t, h, rfl⟩
  have htb := tb_use hts
  have hl : lv_has ls 5 [(0, .ref (X.2.2 (10, k, 0))), (1, .ref (X.2.2 (12, v, 0))), (2, .int a2), (3, .ref (X.2.2 (1, 0, 0)))] := hl
  have hown : s.vm.findClass "TapOffice$Card" = some m.cls := hown
  unfold cs_draftTap at he
  refine lv_aload_n hx hb dC_draftTap_0 rfl (lv_at hl 0 rfl) ?_
  refine lv_iload_n hx hb dC_draftTap_1 rfl (lv_at hl 2 rfl) ?_
  refine fw_kv (va_runV (As := [.int a2]) (rest := []) ⟨hx, hb, hml, hown, hts⟩ (c_startDraft l X hI σ k ((cve10 hk)).1 a2 ) (cwV 1 hts (tb_V m_234 m_231 m_233 m_1 m_27) rfl rfl rfl (by decide +kernel) ⟨Nat.le_of_ble_eq_true rfl, Nat.le_of_ble_eq_true rfl⟩) (fw_preV (X := X) hK hnb hW (10, k, 0) (cve10 hk) rfl rfl [.int a2]) rfl rfl hl.1 rfl (lv_room (Nat.le_of_ble_eq_true rfl)) dC_draftTap_2 ⟨Nat.zero_le _, Nat.zero_le _⟩) hS (fun H locs hW hS => ?_)
  obtain ⟨σ1, e2⟩ : ∃ z : fw_S, z = cs_startDraft σ k a2 := ⟨_, rfl⟩
  rw [← e2] at hW
  try rw [← e2] at he
  unfold cs_draftTap_s1 at he
  have hz : σ1 (12, v, 0) 3 = 0 ∨ σ1 (12, v, 0) 3 = 1 := by rw [e2, fr_startDraft _ _ _ (12, v, 0) (by simp)]; exact hz
  refine lv_aload_n hx hb dC_draftTap_5 rfl (lv_at hl 1 rfl) ?_
  refine fw_kp (va_runV (As := []) (rest := []) ⟨hx, hb, hml, hown, hts⟩ (c_isExit l X hI σ1 v ((cve12 hv)).1 (hz)) (cwV 0 hts (tb_V m_214 m_244 m_212 m_213 m_30) rfl rfl rfl (by decide +kernel) ⟨Nat.le_of_ble_eq_true rfl, Nat.le_of_ble_eq_true rfl⟩) (fw_preV (X := X) hK hnb hW (12, v, 0) (cve12 hv) rfl rfl []) rfl rfl hl.1 rfl (lv_room (Nat.le_of_ble_eq_true rfl)) dC_draftTap_6 ⟨Nat.zero_le _, Nat.zero_le _⟩) hS (fun H locs hW hS => ?_)
  refine lv_if_eq (tgt := 25) hx hb dC_draftTap_9 (by decide) (fun c3 => ?_) (fun c3 => ?_)
  · rw [if_pos c3] at he
    refine lv_aload_n hx hb dC_draftTap_25 rfl (lv_at hl 0 rfl) ?_
    refine lv_aload_n hx hb dC_draftTap_26 rfl (lv_at hl 1 rfl) ?_
    refine fw_kp (va_runV (As := []) (rest := [.ref (X.2.2 (10, k, 0))]) ⟨hx, hb, hml, hown, hts⟩ (c_zone l X hI σ1 v ((cve12 hv)).1 ) (cwV 0 hts (tb_V m_248 m_245 m_246 m_247 m_30) rfl rfl rfl (by decide +kernel) ⟨Nat.le_of_ble_eq_true rfl, Nat.le_of_ble_eq_true rfl⟩) (fw_preV (X := X) hK hnb hW (12, v, 0) (cve12 hv) rfl rfl []) rfl rfl hl.1 rfl (lv_room (Nat.le_of_ble_eq_true rfl)) dC_draftTap_27 ⟨Nat.zero_le _, Nat.zero_le _⟩) hS (fun H locs hW hS => ?_)
    refine lv_iload_n hx hb dC_draftTap_30 rfl (lv_at hl 2 rfl) ?_
    refine lv_aload_n hx hb dC_draftTap_31 rfl (lv_at hl 3 rfl) ?_
    refine fw_ki (va_runV (As := [.int (cs_zone σ1 v), .int a2, .ref (X.2.2 (1, 0, 0))]) (rest := []) ⟨hx, hb, hml, hown, hts⟩ (c_draftEntry l X hI σ1 k ((cve10 hk)).1 (cs_zone σ1 v) a2 ) (cwV 3 hts (tb_V m_283 m_280 m_282 m_5 m_27) rfl rfl rfl (by decide +kernel) ⟨Nat.le_of_ble_eq_true rfl, Nat.le_of_ble_eq_true rfl⟩) (fw_preV (X := X) hK hnb hW (10, k, 0) (cve10 hk) rfl rfl [.int (cs_zone σ1 v), .int a2, .ref (X.2.2 (1, 0, 0))]) rfl rfl hl.1 rfl (lv_room (Nat.le_of_ble_eq_true rfl)) dC_draftTap_32 ⟨Nat.zero_le _, Nat.zero_le _⟩) hS (fun r4 σ5 H locs o6 hW hS => ?_)
    rw [o6] at he
    unfold cs_draftTap_s2 at he
    dsimp only at he
    refine lv_istore (lv' := [(4, .int r4), (0, .ref (X.2.2 (10, k, 0))), (1, .ref (X.2.2 (12, v, 0))), (2, .int a2), (3, .ref (X.2.2 (1, 0, 0)))]) hx hb dC_draftTap_35 hl (by decide) rfl (fun ls hl => ?_)
    refine lv_aload_n hx hb dC_draftTap_37 rfl (lv_at hl 1 rfl) ?_
    refine fw_get (X := X) (v := .ref (X.2.2 (14, k, 0))) hx hb hts hin_C hown hK hW (10, k, 0) (cve10 hk) rfl rfl 1 (by decide) (htb _ m_85 rfl) (fun _ h => h) rfl rfl dC_draftTap_38 ?_
    refine lv_iconst (v := 0) hx hb dC_draftTap_41 (by decide) ?_
    refine lv_dup2_11 hx hb dC_draftTap_42 rfl rfl ?_
    refine fw_iald (X := X) hx hb hK hW (14, k, 0) (cvs14 (cve10 hk)) rfl 0 rfl 0 (by decide) (by unfold vp_in; decide) dC_draftTap_43 ?_
    refine lv_iload hx hb dC_draftTap_44 (lv_at hl 0 rfl) ?_
    refine lv_isub hx hb dC_draftTap_46 ?_
    refine fw_iast (X := X) hx hb hK hW hI hA hS (14, k, 0) (cvs14 (cve10 hk)) rfl 0 rfl 0 (by decide) (by unfold vp_in; decide) dC_draftTap_47 (fun H locs hW hS => ?_)
    obtain ⟨σ7, e8⟩ : ∃ z : fw_S, z = fw_st σ5 (14, k, 0) 0 ((σ5 (14, k, 0) 0) - r4) := ⟨_, rfl⟩
    rw [← e8] at hW
    try rw [← e8] at he
    unfold cs_draftTap_s3 at he
    refine lv_aload_n hx hb dC_draftTap_48 rfl (lv_at hl 1 rfl) ?_
    refine fw_get (X := X) (v := .ref (X.2.2 (14, k, 0))) hx hb hts hin_C hown hK hW (10, k, 0) (cve10 hk) rfl rfl 1 (by decide) (htb _ m_85 rfl) (fun _ h => h) rfl rfl dC_draftTap_49 ?_
    refine lv_bipush (v := 6) hx hb dC_draftTap_52 (by decide) ?_
    refine lv_dup2_11 hx hb dC_draftTap_54 rfl rfl ?_
    refine fw_iald (X := X) hx hb hK hW (14, k, 0) (cvs14 (cve10 hk)) rfl 0 rfl 6 (by decide) (by unfold vp_in; decide) dC_draftTap_55 ?_
    refine lv_iload hx hb dC_draftTap_56 (lv_at hl 0 rfl) ?_
    refine lv_iadd hx hb dC_draftTap_58 ?_
    refine fw_iast (X := X) hx hb hK hW hI hA hS (14, k, 0) (cvs14 (cve10 hk)) rfl 0 rfl 6 (by decide) (by unfold vp_in; decide) dC_draftTap_59 (fun H locs hW hS => ?_)
    obtain ⟨σ9, e10⟩ : ∃ z : fw_S, z = fw_st σ7 (14, k, 0) 6 ((σ7 (14, k, 0) 6) + r4) := ⟨_, rfl⟩
    rw [← e10] at hW
    try rw [← e10] at he
    unfold cs_draftTap_s4 at he
    refine lv_iload hx hb dC_draftTap_60 (lv_at hl 0 rfl) ?_
    exact fw_iret hx hb hr hlocks hK hnb hW hS he dC_draftTap_62
  · rw [if_neg c3] at he
    refine lv_aload_n hx hb dC_draftTap_12 rfl (lv_at hl 0 rfl) ?_
    refine lv_aload_n hx hb dC_draftTap_13 rfl (lv_at hl 1 rfl) ?_
    refine fw_kp (va_runV (As := []) (rest := [.ref (X.2.2 (10, k, 0))]) ⟨hx, hb, hml, hown, hts⟩ (c_zone l X hI σ1 v ((cve12 hv)).1 ) (cwV 0 hts (tb_V m_248 m_245 m_246 m_247 m_30) rfl rfl rfl (by decide +kernel) ⟨Nat.le_of_ble_eq_true rfl, Nat.le_of_ble_eq_true rfl⟩) (fw_preV (X := X) hK hnb hW (12, v, 0) (cve12 hv) rfl rfl []) rfl rfl hl.1 rfl (lv_room (Nat.le_of_ble_eq_true rfl)) dC_draftTap_14 ⟨Nat.zero_le _, Nat.zero_le _⟩) hS (fun H locs hW hS => ?_)
    refine lv_iload_n hx hb dC_draftTap_17 rfl (lv_at hl 2 rfl) ?_
    refine lv_aload_n hx hb dC_draftTap_18 rfl (lv_at hl 3 rfl) ?_
    refine fw_ki (va_runV (As := [.int (cs_zone σ1 v), .int a2, .ref (X.2.2 (1, 0, 0))]) (rest := []) ⟨hx, hb, hml, hown, hts⟩ (c_draftExit l X hI σ1 k ((cve10 hk)).1 (cs_zone σ1 v) a2 ) (cwV 3 hts (tb_V m_252 m_249 m_251 m_2 m_27) rfl rfl rfl (by decide +kernel) ⟨Nat.le_of_ble_eq_true rfl, Nat.le_of_ble_eq_true rfl⟩) (fw_preV (X := X) hK hnb hW (10, k, 0) (cve10 hk) rfl rfl [.int (cs_zone σ1 v), .int a2, .ref (X.2.2 (1, 0, 0))]) rfl rfl hl.1 rfl (lv_room (Nat.le_of_ble_eq_true rfl)) dC_draftTap_19 ⟨Nat.zero_le _, Nat.zero_le _⟩) hS (fun r11 σ12 H locs o13 hW hS => ?_)
    rw [o13] at he
    unfold cs_draftTap_s5 at he
    dsimp only at he
    refine lv_goto (tgt := 35) hx hb dC_draftTap_22 (by decide) ?_
    refine lv_istore (lv' := [(4, .int r11), (0, .ref (X.2.2 (10, k, 0))), (1, .ref (X.2.2 (12, v, 0))), (2, .int a2), (3, .ref (X.2.2 (1, 0, 0)))]) hx hb dC_draftTap_35 hl (by decide) rfl (fun ls hl => ?_)
    refine lv_aload_n hx hb dC_draftTap_37 rfl (lv_at hl 1 rfl) ?_
    refine fw_get (X := X) (v := .ref (X.2.2 (14, k, 0))) hx hb hts hin_C hown hK hW (10, k, 0) (cve10 hk) rfl rfl 1 (by decide) (htb _ m_85 rfl) (fun _ h => h) rfl rfl dC_draftTap_38 ?_
    refine lv_iconst (v := 0) hx hb dC_draftTap_41 (by decide) ?_
    refine lv_dup2_11 hx hb dC_draftTap_42 rfl rfl ?_
    refine fw_iald (X := X) hx hb hK hW (14, k, 0) (cvs14 (cve10 hk)) rfl 0 rfl 0 (by decide) (by unfold vp_in; decide) dC_draftTap_43 ?_
    refine lv_iload hx hb dC_draftTap_44 (lv_at hl 0 rfl) ?_
    refine lv_isub hx hb dC_draftTap_46 ?_
    refine fw_iast (X := X) hx hb hK hW hI hA hS (14, k, 0) (cvs14 (cve10 hk)) rfl 0 rfl 0 (by decide) (by unfold vp_in; decide) dC_draftTap_47 (fun H locs hW hS => ?_)
    obtain ⟨σ14, e15⟩ : ∃ z : fw_S, z = fw_st σ12 (14, k, 0) 0 ((σ12 (14, k, 0) 0) - r11) := ⟨_, rfl⟩
    rw [← e15] at hW
    try rw [← e15] at he
    unfold cs_draftTap_s6 at he
    refine lv_aload_n hx hb dC_draftTap_48 rfl (lv_at hl 1 rfl) ?_
    refine fw_get (X := X) (v := .ref (X.2.2 (14, k, 0))) hx hb hts hin_C hown hK hW (10, k, 0) (cve10 hk) rfl rfl 1 (by decide) (htb _ m_85 rfl) (fun _ h => h) rfl rfl dC_draftTap_49 ?_
    refine lv_bipush (v := 6) hx hb dC_draftTap_52 (by decide) ?_
    refine lv_dup2_11 hx hb dC_draftTap_54 rfl rfl ?_
    refine fw_iald (X := X) hx hb hK hW (14, k, 0) (cvs14 (cve10 hk)) rfl 0 rfl 6 (by decide) (by unfold vp_in; decide) dC_draftTap_55 ?_
    refine lv_iload hx hb dC_draftTap_56 (lv_at hl 0 rfl) ?_
    refine lv_iadd hx hb dC_draftTap_58 ?_
    refine fw_iast (X := X) hx hb hK hW hI hA hS (14, k, 0) (cvs14 (cve10 hk)) rfl 0 rfl 6 (by decide) (by unfold vp_in; decide) dC_draftTap_59 (fun H locs hW hS => ?_)
    obtain ⟨σ16, e17⟩ : ∃ z : fw_S, z = fw_st σ14 (14, k, 0) 6 ((σ14 (14, k, 0) 6) + r11) := ⟨_, rfl⟩
    rw [← e17] at hW
    try rw [← e17] at he
    unfold cs_draftTap_s7 at he
    refine lv_iload hx hb dC_draftTap_60 (lv_at hl 0 rfl) ?_
    exact fw_iret hx hb hr hlocks hK hnb hW hS he dC_draftTap_62
theorem fr_draftTap (σ : fw_S) (k v : Nat) (a : Int32) (u : fw_T) (h : u.1 ≠ 14) : (cs_draftTap σ k v a).2 u = σ u := by
  simp only [cs_draftTap, cs_draftTap_s4, cs_draftTap_s3, cs_draftTap_s2, cs_draftTap_s7, cs_draftTap_s6, cs_draftTap_s5, cs_draftTap_s1]
  split
  all_goals simp only [fw_st_off (t := (14, k, 0)) h, fr_draftEntry _ _ _ _ _ h, fr_draftExit _ _ _ _ _ h, fr_startDraft _ _ _ _ h]
def cs_writeDraft_s1 (x3 : Int32) (rec : Int32 → fw_S → fw_S) (σ4 : fw_S) : fw_S :=
  rec (x3 + 1) σ4
def cs_writeDraft_lp (k : Nat) (a1 : Int32) (σ : fw_S) : Nat → Int32 → fw_S → fw_S
  | 0, _, τ => τ
  | n + 1, x3, τ => if a1 ≤ x3 then τ else if 8 ≤ x3 then τ else cs_writeDraft_s1 x3 (cs_writeDraft_lp k a1 σ n) (fw_st τ (19, k, (1 - (cs_recordCopy σ k)).toNatClampNeg) x3.toNatClampNeg (τ (14, k, 0) x3.toNatClampNeg))
def cs_writeDraft (σ : fw_S) (k : Nat) (a1 : Int32) : fw_S :=
  cs_writeDraft_lp k a1 σ (8 + 1) 0 σ
set_option maxHeartbeats 4000000 in
set_option maxRecDepth 100000 in
theorem c_writeDraft_lp {p : Program} {e : Env} {s : State} {m : MethodId} {below : List Frame} {meth : Method} {c : Code} {args : Array Value} (l : Launch) (X : fw_X) (hI : fw_I cV X) (σ : fw_S) (k : Nat) (hk : k < 4) (a1 : Int32)   (hV1 : cV (19, k, (1 - (cs_recordCopy σ k)).toNatClampNeg)) (out : fw_S)
    (hx : p.tables.exec = Jvm.exec) (hb : c.code = bC_writeDraft) (hr : meth.sig.returnType = none) (hml : c.maxLocals = 4) (hlocks : meth.locks = false) (hown : s.vm.findClass "TapOffice$Card" = some m.cls) (hts : ∀ w ∈ wC_writeDraft, w.before args s = true) (hK : va_K X.1 fw_cl (fw_tys X.2.1) s) (hnb : va_Nw fw_nb s) :
    ∀ (n : Nat) (x3 : Int32) (j : Nat), x3 = nI j → j ≤ 8 → 8 + 1 ≤ j + n → ∀ (τ : fw_S), ∀ (H : Heap) (locs : List Loc), fw_W fw_cl csh cV X τ H → va_S (fw_A cV X) s.heap H locs → ∀ (ls : Array Slot), lv_has ls 4 [(0, .ref (X.2.2 (10, k, 0))), (1, .int a1), (2, .ref (X.2.2 (19, k, (1 - (cs_recordCopy σ k)).toNatClampNeg))), (3, .int x3)] → out = cs_writeDraft_lp k a1 σ n x3 τ → W p l e (fw_rm 1) s m args below meth c H locs 0 0 (MQ below (va_Qv (fun u => u = out) (fun u t => fw_O fw_cl csh cV fw_tys X u t) (fw_A cV X)) args s 0 0 (fw_A cV X)) (F0 m 14 ls []) := by
  have hA : ∀ t, cV t → fw_A cV X (X.2.2 t) := fun t h => ⟨t, h, rfl⟩
  have htb := tb_use hts
  intro n
  induction n with
  | zero =>
    intro x3 j hj h1 h2
    exact absurd h2 (by omega)
  | succ n ih =>
    intro x3 j hj hj1 hj2 τ H locs hW hS ls hl he
    rw [cs_writeDraft_lp] at he
    refine lv_iload_n hx hb dC_writeDraft_14 rfl (lv_at hl 3 rfl) ?_
    refine lv_iload_n hx hb dC_writeDraft_15 rfl (lv_at hl 1 rfl) ?_
    refine lv_icmp_ge (tgt := 40) hx hb dC_writeDraft_16 (by decide) (fun c2 => ?_) (fun c2 => ?_)
    · rw [if_pos c2] at he
      exact fw_vret hx hb hr hlocks hK hnb hW hS he dC_writeDraft_40
    · rw [if_neg c2] at he
      refine lv_iload_n hx hb dC_writeDraft_19 rfl (lv_at hl 3 rfl) ?_
      refine lv_bipush (v := 8) hx hb dC_writeDraft_20 (by decide) ?_
      refine lv_icmp_ge (tgt := 40) hx hb dC_writeDraft_22 (by decide) (fun c3 => ?_) (fun c3 => ?_)
      · rw [if_pos c3] at he
        exact fw_vret hx hb hr hlocks hK hnb hW hS he dC_writeDraft_40
      · rw [if_neg c3] at he
        have hlt : j < 8 := lp_lt (B := 8) hj rfl (by decide) hj1 c3
        have hin : vp_in x3 8 := by rw [hj]; exact vp_in_nI hlt (by decide)
        refine lv_aload_n hx hb dC_writeDraft_25 rfl (lv_at hl 2 rfl) ?_
        refine lv_iload_n hx hb dC_writeDraft_26 rfl (lv_at hl 3 rfl) ?_
        refine lv_aload_n hx hb dC_writeDraft_27 rfl (lv_at hl 0 rfl) ?_
        refine fw_get (X := X) (v := .ref (X.2.2 (14, k, 0))) hx hb hts hin_C hown hK hW (10, k, 0) (cve10 hk) rfl rfl 1 (by decide) (htb _ m_85 rfl) (fun _ h => h) rfl rfl dC_writeDraft_28 ?_
        refine lv_iload_n hx hb dC_writeDraft_31 rfl (lv_at hl 3 rfl) ?_
        refine fw_iald (X := X) hx hb hK hW (14, k, 0) (cvs14 (cve10 hk)) rfl 0 rfl x3.toNatClampNeg rfl hin dC_writeDraft_32 ?_
        refine fw_iast (X := X) hx hb hK hW hI hA hS (19, k, (1 - (cs_recordCopy σ k)).toNatClampNeg) hV1 rfl 0 rfl x3.toNatClampNeg rfl hin dC_writeDraft_33 (fun H locs hW hS => ?_)
        obtain ⟨σ4, e5⟩ : ∃ z : fw_S, z = fw_st τ (19, k, (1 - (cs_recordCopy σ k)).toNatClampNeg) x3.toNatClampNeg (τ (14, k, 0) x3.toNatClampNeg) := ⟨_, rfl⟩
        rw [← e5] at hW
        try rw [← e5] at he
        unfold cs_writeDraft_s1 at he
        refine lv_iinc (v := x3 + 1) (lv' := [(3, .int (x3 + 1)), (0, .ref (X.2.2 (10, k, 0))), (1, .int a1), (2, .ref (X.2.2 (19, k, (1 - (cs_recordCopy σ k)).toNatClampNeg)))]) hx hb dC_writeDraft_34 hl (k := 3) rfl (by rfl) (by decide) rfl (fun ls hl => ?_)
        refine lv_goto (tgt := 14) hx hb dC_writeDraft_37 (by decide) ?_
        exact ih (x3 + 1) (j + 1) (by rw [hj]; exact nI_1 j) hlt (by omega) σ4 _ _ hW hS ls (lv_sub hl [1, 2, 3, 0] rfl) he
set_option maxHeartbeats 4000000 in
set_option maxRecDepth 100000 in
theorem c_writeDraft (l : Launch) (X : fw_X) (hI : fw_I cV X) (σ : fw_S) (k : Nat) (hk : k < 4) (a1 : Int32)  : fw_Mv fw_cl csh cV fw_tys l yC_writeDraft wC_writeDraft (fw_rm 1) X σ [.ref (X.2.2 (10, k, 0)), .int a1] (cs_writeDraft σ k a1) := by
  obtain ⟨out, he⟩ : ∃ z : fw_S, z = cs_writeDraft σ k a1 := ⟨_, rfl⟩
  rw [← he]
  refine fw_Mv_of (cc := bC_writeDraft) (maxL := 4) (ret := none) (by decide) rfl (Nat.le_of_ble_eq_true rfl) ?_
  intro p e s m below meth c ls hx hb hr hml hlocks hown hts hK hnb hW hl
  have hS : va_S (fw_A cV X) s.heap s.heap [] := va_S.rf
  have hA : ∀ t, cV t → fw_A cV X (X.2.2 t) := fun t h => ⟨t, h, rfl⟩
  have htb := tb_use hts
  have hl : lv_has ls 4 [(0, .ref (X.2.2 (10, k, 0))), (1, .int a1)] := hl
  have hown : s.vm.findClass "TapOffice$Card" = some m.cls := hown
  unfold cs_writeDraft at he
  refine lv_aload_n hx hb dC_writeDraft_0 rfl (lv_at hl 0 rfl) ?_
  refine fw_get (X := X) (v := .ref (X.2.2 (13, k, 0))) hx hb hts hin_C hown hK hW (10, k, 0) (cve10 hk) rfl rfl 0 (by decide) (htb _ m_84 rfl) (fun _ h => h) rfl rfl dC_writeDraft_1 ?_
  refine lv_iconst (v := 1) hx hb dC_writeDraft_4 (by decide) ?_
  refine lv_aload_n hx hb dC_writeDraft_5 rfl (lv_at hl 0 rfl) ?_
  refine fw_kp (va_runV (As := []) (rest := [.int 1, .ref (X.2.2 (13, k, 0))]) ⟨hx, hb, hml, hown, hts⟩ (c_recordCopy l X hI σ k ((cve10 hk)).1 ) (cwV 0 hts (tb_V m_222 m_219 m_221 m_0 m_27) rfl rfl rfl (by decide +kernel) ⟨Nat.le_of_ble_eq_true rfl, Nat.le_of_ble_eq_true rfl⟩) (fw_preV (X := X) hK hnb hW (10, k, 0) (cve10 hk) rfl rfl []) rfl rfl hl.1 rfl (lv_room (Nat.le_of_ble_eq_true rfl)) dC_writeDraft_6 ⟨Nat.zero_le _, Nat.zero_le _⟩) hS (fun H locs hW hS => ?_)
  refine lv_isub hx hb dC_writeDraft_9 ?_
  refine fw_aald (X := X) hx hb hK hW (13, k, 0) (cvs13 (cve10 hk)) rfl 1 rfl rfl (1 - (cs_recordCopy σ k)).toNatClampNeg rfl (19, k, (1 - (cs_recordCopy σ k)).toNatClampNeg) rfl (rc1_in σ k) dC_writeDraft_10 ?_
  have hV1 : cV (19, k, (1 - (cs_recordCopy σ k)).toNatClampNeg) := (cvj19 (cvs13 (cve10 hk)) (vi_lt (rc1_in σ k)))
  refine lv_astore_n (lv' := [(2, .ref (X.2.2 (19, k, (1 - (cs_recordCopy σ k)).toNatClampNeg))), (0, .ref (X.2.2 (10, k, 0))), (1, .int a1)]) hx hb dC_writeDraft_11 rfl hl (by decide) rfl (fun ls hl => ?_)
  refine lv_iconst (v := 0) hx hb dC_writeDraft_12 (by decide) ?_
  refine lv_istore_n (lv' := [(3, .int 0), (2, .ref (X.2.2 (19, k, (1 - (cs_recordCopy σ k)).toNatClampNeg))), (0, .ref (X.2.2 (10, k, 0))), (1, .int a1)]) hx hb dC_writeDraft_13 rfl hl (by decide) rfl (fun ls hl => ?_)
  exact c_writeDraft_lp l X hI σ k hk a1  hV1 out hx hb hr hml hlocks hown hts hK hnb (8 + 1) 0 0 nI_0.symm (by decide) (by decide) σ _ _ hW hS ls (lv_sub hl [2, 3, 1, 0] rfl) he
theorem fr_writeDraft_lp (σ : fw_S) (k : Nat) (a : Int32) (u : fw_T) (h : u.1 ≠ 19) : ∀ (n : Nat) (x : Int32) (τ : fw_S), cs_writeDraft_lp k a σ n x τ u = τ u := by
  intro n
  induction n with
  | zero => intro x τ; rfl
  | succ n ih =>
    intro x τ
    simp only [cs_writeDraft, cs_writeDraft_s1, cs_writeDraft_lp]
    repeat' split
    all_goals simp only [ih, fw_st_off (t := (19, k, (1 - cs_recordCopy σ k).toNatClampNeg)) h]
theorem fr_writeDraft (σ : fw_S) (k : Nat) (a : Int32) (u : fw_T) (h : u.1 ≠ 19) : cs_writeDraft σ k a u = σ u := by
  unfold cs_writeDraft
  exact fr_writeDraft_lp _ _ _ _ h _ _ _

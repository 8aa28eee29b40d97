def cs_moveTo_s2 (σ3 : fw_S) : fw_S :=
  σ3
def cs_moveTo_s1 (v : Nat) (a2 : Int32) (σ1 : fw_S) : fw_S :=
  cs_moveTo_s2 (fw_st σ1 (12, v, 0) 3 a2)
def cs_moveTo (σ : fw_S) (v : Nat) (a1 : Int32) (a2 : Int32) : fw_S :=
  cs_moveTo_s1 v a2 (fw_st σ (12, v, 0) 2 a1)
set_option maxHeartbeats 4000000 in
set_option maxRecDepth 100000 in
theorem c_moveTo (l : Launch) (X : fw_X) (hI : fw_I cV X) (σ : fw_S) (v : Nat) (hv : v < 4) (a1 a2 : Int32) (hz : a2 = 0 ∨ a2 = 1) : fw_Mv fw_cl csh cV fw_tys l yV_moveTo wV_moveTo (fw_rm 0) X σ [.ref (X.2.2 (12, v, 0)), .int a1, .int a2] (cs_moveTo σ v a1 a2) := by
  obtain ⟨out, he⟩ : ∃ z : fw_S, z = cs_moveTo σ v a1 a2 := ⟨_, rfl⟩
  rw [← he]
  refine fw_Mv_of (cc := bV_moveTo) (maxL := 3) (ret := none) (by decide) rfl (Nat.le_of_ble_eq_true rfl) ?_
  intro p e s m below meth c ls hx hb hr hml hlocks hown hts hK hnb hW hl
  have hS : va_S (fw_A cV X) s.heap s.heap [] := va_S.rf
  have hA : ∀ t, cV t → fw_A cV X (X.2.2 t) := fun t h => ⟨t, h, rfl⟩
  have htb := tb_use hts
  have hl : lv_has ls 3 [(0, .ref (X.2.2 (12, v, 0))), (1, .int a1), (2, .int a2)] := hl
  have hown : s.vm.findClass "TapOffice$Validator" = some m.cls := hown
  unfold cs_moveTo at he
  refine lv_aload_n hx hb dV_moveTo_0 rfl (lv_at hl 0 rfl) ?_
  refine lv_iload_n hx hb dV_moveTo_1 rfl (lv_at hl 1 rfl) ?_
  refine fw_put (X := X) hx hb hts hin_V ty_V ty_V_ok nm_V hown hK hW hI hA hS (12, v, 0) (cve12 hv) rfl rfl rfl 2 (by decide) (htb _ m_127 rfl) (fun _ h => h) rfl rfl (ty := .int) (by decide +kernel) rfl rfl dV_moveTo_2 (fun H locs hW hS => ?_)
  obtain ⟨σ1, e2⟩ : ∃ z : fw_S, z = fw_st σ (12, v, 0) 2 a1 := ⟨_, rfl⟩
  rw [← e2] at hW
  try rw [← e2] at he
  unfold cs_moveTo_s1 at he
  refine lv_aload_n hx hb dV_moveTo_5 rfl (lv_at hl 0 rfl) ?_
  refine lv_iload_n hx hb dV_moveTo_6 rfl (lv_at hl 2 rfl) ?_
  refine fw_put (X := X) hx hb hts hin_V ty_V ty_V_ok nm_V hown hK hW hI hA hS (12, v, 0) (cve12 hv) rfl rfl rfl 3 (by decide) (htb _ m_128 rfl) (fun _ h => h) rfl rfl (ty := .boolean) (by decide +kernel) (bo_n (hz)) (bo_f (hz)) dV_moveTo_7 (fun H locs hW hS => ?_)
  obtain ⟨σ3, e4⟩ : ∃ z : fw_S, z = fw_st σ1 (12, v, 0) 3 a2 := ⟨_, rfl⟩
  rw [← e4] at hW
  try rw [← e4] at he
  unfold cs_moveTo_s2 at he
  exact fw_vret hx hb hr hlocks hK hnb hW hS he dV_moveTo_10
def cs_zone (σ : fw_S) (v : Nat) : Int32 :=
  (σ (12, v, 0) 2)
set_option maxHeartbeats 4000000 in
set_option maxRecDepth 100000 in
theorem c_zone (l : Launch) (X : fw_X) (hI : fw_I cV X) (σ : fw_S) (v : Nat) (hv : v < 4)  : fw_Mi fw_cl csh cV fw_tys l yV_zone wV_zone (fw_rm 0) X σ [.ref (X.2.2 (12, v, 0))] ((cs_zone σ v, σ)) := by
  obtain ⟨out, he⟩ : ∃ z : Int32, z = cs_zone σ v := ⟨_, rfl⟩
  rw [← he]
  refine fw_Mi_of (cc := bV_zone) (maxL := 1) (ret := (some .int)) (by decide) rfl (Nat.le_of_ble_eq_true rfl) ?_
  intro p e s m below meth c ls hx hb hr hml hlocks hown hts hK hnb hW hl
  have hS : va_S (fw_A cV X) s.heap s.heap [] := va_S.rf
  have hA : ∀ t, cV t → fw_A cV X (X.2.2 t) := fun t h => ⟨t, h, rfl⟩
  have htb := tb_use hts
  have hl : lv_has ls 1 [(0, .ref (X.2.2 (12, v, 0)))] := hl
  have hown : s.vm.findClass "TapOffice$Validator" = some m.cls := hown
  unfold cs_zone at he
  refine lv_aload_n hx hb dV_zone_0 rfl (lv_at hl 0 rfl) ?_
  refine fw_get (X := X) (v := .int (σ (12, v, 0) 2)) hx hb hts hin_V hown hK hW (12, v, 0) (cve12 hv) rfl rfl 2 (by decide) (htb _ m_127 rfl) (fun _ h => h) rfl rfl dV_zone_1 ?_
  exact fw_iret hx hb hr hlocks hK hnb hW hS (by rw [he]) dV_zone_4
def cs_isExit (σ : fw_S) (v : Nat) : Int32 :=
  (σ (12, v, 0) 3)
set_option maxHeartbeats 4000000 in
set_option maxRecDepth 100000 in
theorem c_isExit (l : Launch) (X : fw_X) (hI : fw_I cV X) (σ : fw_S) (v : Nat) (hv : v < 4) (hz : σ (12, v, 0) 3 = 0 ∨ σ (12, v, 0) 3 = 1) : fw_Mi fw_cl csh cV fw_tys l yV_isExit wV_isExit (fw_rm 0) X σ [.ref (X.2.2 (12, v, 0))] ((cs_isExit σ v, σ)) := by
  obtain ⟨out, he⟩ : ∃ z : Int32, z = cs_isExit σ v := ⟨_, rfl⟩
  rw [← he]
  refine fw_Mi_of (cc := bV_isExit) (maxL := 1) (ret := (some .boolean)) (by decide) rfl (Nat.le_of_ble_eq_true rfl) ?_
  intro p e s m below meth c ls hx hb hr hml hlocks hown hts hK hnb hW hl
  have hS : va_S (fw_A cV X) s.heap s.heap [] := va_S.rf
  have hA : ∀ t, cV t → fw_A cV X (X.2.2 t) := fun t h => ⟨t, h, rfl⟩
  have htb := tb_use hts
  have hl : lv_has ls 1 [(0, .ref (X.2.2 (12, v, 0)))] := hl
  have hown : s.vm.findClass "TapOffice$Validator" = some m.cls := hown
  unfold cs_isExit at he
  refine lv_aload_n hx hb dV_isExit_0 rfl (lv_at hl 0 rfl) ?_
  refine fw_get (X := X) (v := .int (σ (12, v, 0) 3)) hx hb hts hin_V hown hK hW (12, v, 0) (cve12 hv) rfl rfl 3 (by decide) (htb _ m_128 rfl) (fun _ h => h) rfl rfl dV_isExit_1 ?_
  exact fw_zret hx hb hr hlocks hK hnb hW hS hz (by rw [he]) dV_isExit_4
def cs_denies (σ : fw_S) (v : Nat) (a1 : Int32) : Int32 :=
  if (((σ (12, v, 0) 4) >>> (a1 &&& 31)) &&& 1) = 1 then 1 else 0
set_option maxHeartbeats 4000000 in
set_option maxRecDepth 100000 in
theorem c_denies (l : Launch) (X : fw_X) (hI : fw_I cV X) (σ : fw_S) (v : Nat) (hv : v < 4) (a1 : Int32)  : fw_Mi fw_cl csh cV fw_tys l yV_denies wV_denies (fw_rm 0) X σ [.ref (X.2.2 (12, v, 0)), .int a1] ((cs_denies σ v a1, σ)) := by
  obtain ⟨out, he⟩ : ∃ z : Int32, z = cs_denies σ v a1 := ⟨_, rfl⟩
  rw [← he]
  refine fw_Mi_of (cc := bV_denies) (maxL := 2) (ret := (some .boolean)) (by decide) rfl (Nat.le_of_ble_eq_true rfl) ?_
  intro p e s m below meth c ls hx hb hr hml hlocks hown hts hK hnb hW hl
  have hS : va_S (fw_A cV X) s.heap s.heap [] := va_S.rf
  have hA : ∀ t, cV t → fw_A cV X (X.2.2 t) := fun t h => ⟨t, h, rfl⟩
  have htb := tb_use hts
  have hl : lv_has ls 2 [(0, .ref (X.2.2 (12, v, 0))), (1, .int a1)] := hl
  have hown : s.vm.findClass "TapOffice$Validator" = some m.cls := hown
  unfold cs_denies at he
  refine lv_aload_n hx hb dV_denies_0 rfl (lv_at hl 0 rfl) ?_
  refine fw_get (X := X) (v := .int (σ (12, v, 0) 4)) hx hb hts hin_V hown hK hW (12, v, 0) (cve12 hv) rfl rfl 4 (by decide) (htb _ m_129 rfl) (fun _ h => h) rfl rfl dV_denies_1 ?_
  refine lv_iload_n hx hb dV_denies_4 rfl (lv_at hl 1 rfl) ?_
  refine lv_ishr hx hb dV_denies_5 ?_
  refine lv_iconst (v := 1) hx hb dV_denies_6 (by decide) ?_
  refine lv_iand hx hb dV_denies_7 ?_
  refine lv_iconst (v := 1) hx hb dV_denies_8 (by decide) ?_
  refine lv_icmp_ne (tgt := 16) hx hb dV_denies_9 (by decide) (fun c1 => ?_) (fun c1 => ?_)
  · rw [if_neg c1] at he
    refine lv_iconst (v := 0) hx hb dV_denies_16 (by decide) ?_
    exact fw_zret hx hb hr hlocks hK hnb hW hS (by decide) (by rw [he]) dV_denies_17
  · rw [if_pos c1] at he
    refine lv_iconst (v := 1) hx hb dV_denies_12 (by decide) ?_
    refine lv_goto (tgt := 17) hx hb dV_denies_13 (by decide) ?_
    exact fw_zret hx hb hr hlocks hK hnb hW hS (by decide) (by rw [he]) dV_denies_17
def cs_takeDenied_s1 (σ1 : fw_S) : fw_S :=
  σ1
def cs_takeDenied (σ : fw_S) (v : Nat) (a1 : Int32) : fw_S :=
  cs_takeDenied_s1 (fw_st σ (12, v, 0) 4 a1)
set_option maxHeartbeats 4000000 in
set_option maxRecDepth 100000 in
theorem c_takeDenied (l : Launch) (X : fw_X) (hI : fw_I cV X) (σ : fw_S) (v : Nat) (hv : v < 4) (a1 : Int32)  : fw_Mv fw_cl csh cV fw_tys l yV_takeDenied wV_takeDenied (fw_rm 0) X σ [.ref (X.2.2 (12, v, 0)), .int a1] (cs_takeDenied σ v a1) := by
  obtain ⟨out, he⟩ : ∃ z : fw_S, z = cs_takeDenied σ v a1 := ⟨_, rfl⟩
  rw [← he]
  refine fw_Mv_of (cc := bV_takeDenied) (maxL := 2) (ret := none) (by decide) rfl (Nat.le_of_ble_eq_true rfl) ?_
  intro p e s m below meth c ls hx hb hr hml hlocks hown hts hK hnb hW hl
  have hS : va_S (fw_A cV X) s.heap s.heap [] := va_S.rf
  have hA : ∀ t, cV t → fw_A cV X (X.2.2 t) := fun t h => ⟨t, h, rfl⟩
  have htb := tb_use hts
  have hl : lv_has ls 2 [(0, .ref (X.2.2 (12, v, 0))), (1, .int a1)] := hl
  have hown : s.vm.findClass "TapOffice$Validator" = some m.cls := hown
  unfold cs_takeDenied at he
  refine lv_aload_n hx hb dV_takeDenied_0 rfl (lv_at hl 0 rfl) ?_
  refine lv_iload_n hx hb dV_takeDenied_1 rfl (lv_at hl 1 rfl) ?_
  refine fw_put (X := X) hx hb hts hin_V ty_V ty_V_ok nm_V hown hK hW hI hA hS (12, v, 0) (cve12 hv) rfl rfl rfl 4 (by decide) (htb _ m_129 rfl) (fun _ h => h) rfl rfl (ty := .int) (by decide +kernel) rfl rfl dV_takeDenied_2 (fun H locs hW hS => ?_)
  obtain ⟨σ1, e2⟩ : ∃ z : fw_S, z = fw_st σ (12, v, 0) 4 a1 := ⟨_, rfl⟩
  rw [← e2] at hW
  try rw [← e2] at he
  unfold cs_takeDenied_s1 at he
  exact fw_vret hx hb hr hlocks hK hnb hW hS he dV_takeDenied_5
def cs_isFull (σ : fw_S) (v : Nat) : Int32 :=
  if (σ (12, v, 0) 1) < 8 then 0 else 1
set_option maxHeartbeats 4000000 in
set_option maxRecDepth 100000 in
theorem c_isFull (l : Launch) (X : fw_X) (hI : fw_I cV X) (σ : fw_S) (v : Nat) (hv : v < 4)  : fw_Mi fw_cl csh cV fw_tys l yV_isFull wV_isFull (fw_rm 0) X σ [.ref (X.2.2 (12, v, 0))] ((cs_isFull σ v, σ)) := by
  obtain ⟨out, he⟩ : ∃ z : Int32, z = cs_isFull σ v := ⟨_, rfl⟩
  rw [← he]
  refine fw_Mi_of (cc := bV_isFull) (maxL := 1) (ret := (some .boolean)) (by decide) rfl (Nat.le_of_ble_eq_true rfl) ?_
  intro p e s m below meth c ls hx hb hr hml hlocks hown hts hK hnb hW hl
  have hS : va_S (fw_A cV X) s.heap s.heap [] := va_S.rf
  have hA : ∀ t, cV t → fw_A cV X (X.2.2 t) := fun t h => ⟨t, h, rfl⟩
  have htb := tb_use hts
  have hl : lv_has ls 1 [(0, .ref (X.2.2 (12, v, 0)))] := hl
  have hown : s.vm.findClass "TapOffice$Validator" = some m.cls := hown
  unfold cs_isFull at he
  refine lv_aload_n hx hb dV_isFull_0 rfl (lv_at hl 0 rfl) ?_
  refine fw_get (X := X) (v := .int (σ (12, v, 0) 1)) hx hb hts hin_V hown hK hW (12, v, 0) (cve12 hv) rfl rfl 1 (by decide) (htb _ m_126 rfl) (fun _ h => h) rfl rfl dV_isFull_1 ?_
  refine lv_bipush (v := 8) hx hb dV_isFull_4 (by decide) ?_
  refine lv_icmp_lt (tgt := 13) hx hb dV_isFull_6 (by decide) (fun c1 => ?_) (fun c1 => ?_)
  · rw [if_pos c1] at he
    refine lv_iconst (v := 0) hx hb dV_isFull_13 (by decide) ?_
    exact fw_zret hx hb hr hlocks hK hnb hW hS (by decide) (by rw [he]) dV_isFull_14
  · rw [if_neg c1] at he
    refine lv_iconst (v := 1) hx hb dV_isFull_9 (by decide) ?_
    refine lv_goto (tgt := 14) hx hb dV_isFull_10 (by decide) ?_
    exact fw_zret hx hb hr hlocks hK hnb hW hS (by decide) (by rw [he]) dV_isFull_14
theorem ke_in {σ : fw_S} {v : Nat} (h1 : 0 ≤ σ (12, v, 0) 1) (h2 : cs_isFull σ v = 0) : vp_in (σ (12, v, 0) 1) 8 := by
  unfold cs_isFull at h2
  by_cases h3 : σ (12, v, 0) 1 < 8
  · refine vi_of ?_ ?_
    · have := Int32.le_iff_toInt_le.mp h1
      simpa using this
    · have := Int32.lt_iff_toInt_lt.mp h3
      simpa using this
  · rw [if_neg h3] at h2
    exact absurd h2 (by decide)
def cs_logSize (σ : fw_S) (v : Nat) : Int32 :=
  (σ (12, v, 0) 1)
set_option maxHeartbeats 4000000 in
set_option maxRecDepth 100000 in
theorem c_logSize (l : Launch) (X : fw_X) (hI : fw_I cV X) (σ : fw_S) (v : Nat) (hv : v < 4)  : fw_Mi fw_cl csh cV fw_tys l yV_logSize wV_logSize (fw_rm 0) X σ [.ref (X.2.2 (12, v, 0))] ((cs_logSize σ v, σ)) := by
  obtain ⟨out, he⟩ : ∃ z : Int32, z = cs_logSize σ v := ⟨_, rfl⟩
  rw [← he]
  refine fw_Mi_of (cc := bV_logSize) (maxL := 1) (ret := (some .int)) (by decide) rfl (Nat.le_of_ble_eq_true rfl) ?_
  intro p e s m below meth c ls hx hb hr hml hlocks hown hts hK hnb hW hl
  have hS : va_S (fw_A cV X) s.heap s.heap [] := va_S.rf
  have hA : ∀ t, cV t → fw_A cV X (X.2.2 t) := fun t h => ⟨t, h, rfl⟩
  have htb := tb_use hts
  have hl : lv_has ls 1 [(0, .ref (X.2.2 (12, v, 0)))] := hl
  have hown : s.vm.findClass "TapOffice$Validator" = some m.cls := hown
  unfold cs_logSize at he
  refine lv_aload_n hx hb dV_logSize_0 rfl (lv_at hl 0 rfl) ?_
  refine fw_get (X := X) (v := .int (σ (12, v, 0) 1)) hx hb hts hin_V hown hK hW (12, v, 0) (cve12 hv) rfl rfl 1 (by decide) (htb _ m_126 rfl) (fun _ h => h) rfl rfl dV_logSize_1 ?_
  exact fw_iret hx hb hr hlocks hK hnb hW hS (by rw [he]) dV_logSize_4
def cs_readEntry (σ : fw_S) (v : Nat) (a1 : Int32) (a2 : Int32) : Int32 :=
  (σ (20, v, a1.toNatClampNeg) a2.toNatClampNeg)
set_option maxHeartbeats 4000000 in
set_option maxRecDepth 100000 in
theorem c_readEntry (l : Launch) (X : fw_X) (hI : fw_I cV X) (σ : fw_S) (v : Nat) (hv : v < 4) (a1 a2 : Int32) (h1 : vp_in a1 8) (h2 : vp_in a2 4) : fw_Mi fw_cl csh cV fw_tys l yV_readEntry wV_readEntry (fw_rm 0) X σ [.ref (X.2.2 (12, v, 0)), .int a1, .int a2] ((cs_readEntry σ v a1 a2, σ)) := by
  obtain ⟨out, he⟩ : ∃ z : Int32, z = cs_readEntry σ v a1 a2 := ⟨_, rfl⟩
  rw [← he]
  refine fw_Mi_of (cc := bV_readEntry) (maxL := 3) (ret := (some .int)) (by decide) rfl (Nat.le_of_ble_eq_true rfl) ?_
  intro p e s m below meth c ls hx hb hr hml hlocks hown hts hK hnb hW hl
  have hS : va_S (fw_A cV X) s.heap s.heap [] := va_S.rf
  have hA : ∀ t, cV t → fw_A cV X (X.2.2 t) := fun t h => ⟨t, h, rfl⟩
  have htb := tb_use hts
  have hl : lv_has ls 3 [(0, .ref (X.2.2 (12, v, 0))), (1, .int a1), (2, .int a2)] := hl
  have hown : s.vm.findClass "TapOffice$Validator" = some m.cls := hown
  unfold cs_readEntry at he
  refine lv_aload_n hx hb dV_readEntry_0 rfl (lv_at hl 0 rfl) ?_
  refine fw_get (X := X) (v := .ref (X.2.2 (18, v, 0))) hx hb hts hin_V hown hK hW (12, v, 0) (cve12 hv) rfl rfl 0 (by decide) (htb _ m_125 rfl) (fun _ h => h) rfl rfl dV_readEntry_1 ?_
  refine lv_iload_n hx hb dV_readEntry_4 rfl (lv_at hl 1 rfl) ?_
  refine fw_aald (X := X) hx hb hK hW (18, v, 0) (cvs18 (cve12 hv)) rfl 1 rfl rfl a1.toNatClampNeg rfl (20, v, a1.toNatClampNeg) rfl h1 dV_readEntry_5 ?_
  have hV1 : cV (20, v, a1.toNatClampNeg) := (cvj20 (cvs18 (cve12 hv)) (vi_lt h1))
  refine lv_iload_n hx hb dV_readEntry_6 rfl (lv_at hl 2 rfl) ?_
  refine fw_iald (X := X) hx hb hK hW (20, v, a1.toNatClampNeg) hV1 rfl 0 rfl a2.toNatClampNeg rfl h2 dV_readEntry_7 ?_
  exact fw_iret hx hb hr hlocks hK hnb hW hS (by rw [he]) dV_readEntry_8
def cs_keepEntry_s5 (σ11 : fw_S) : fw_S :=
  σ11
def cs_keepEntry_s4 (v : Nat) (σ9 : fw_S) : fw_S :=
  cs_keepEntry_s5 (fw_st σ9 (12, v, 0) 1 ((σ9 (12, v, 0) 1) + 1))
def cs_keepEntry_s3 (v : Nat) (a4 : Int32) (σ : fw_S) (σ7 : fw_S) : fw_S :=
  cs_keepEntry_s4 v (fw_st σ7 (20, v, (σ (12, v, 0) 1).toNatClampNeg) 3 a4)
def cs_keepEntry_s2 (v : Nat) (a3 : Int32) (a4 : Int32) (σ : fw_S) (σ5 : fw_S) : fw_S :=
  cs_keepEntry_s3 v a4 σ (fw_st σ5 (20, v, (σ (12, v, 0) 1).toNatClampNeg) 2 a3)
def cs_keepEntry_s1 (v : Nat) (a2 : Int32) (a3 : Int32) (a4 : Int32) (σ : fw_S) (σ3 : fw_S) : fw_S :=
  cs_keepEntry_s2 v a3 a4 σ (fw_st σ3 (20, v, (σ (12, v, 0) 1).toNatClampNeg) 1 a2)
def cs_keepEntry (σ : fw_S) (v : Nat) (a1 : Int32) (a2 : Int32) (a3 : Int32) (a4 : Int32) : fw_S :=
  if (cs_isFull σ v) = 0 then cs_keepEntry_s1 v a2 a3 a4 σ (fw_st σ (20, v, (σ (12, v, 0) 1).toNatClampNeg) 0 a1) else σ
set_option maxHeartbeats 4000000 in
set_option maxRecDepth 100000 in
theorem c_keepEntry (l : Launch) (X : fw_X) (hI : fw_I cV X) (σ : fw_S) (v : Nat) (hv : v < 4) (a1 a2 a3 a4 : Int32) (h1 : 0 ≤ σ (12, v, 0) 1) : fw_Mv fw_cl csh cV fw_tys l yV_keepEntry wV_keepEntry (fw_rm 1) X σ [.ref (X.2.2 (12, v, 0)), .int a1, .int a2, .int a3, .int a4] (cs_keepEntry σ v a1 a2 a3 a4) := by
  obtain ⟨out, he⟩ : ∃ z : fw_S, z = cs_keepEntry σ v a1 a2 a3 a4 := ⟨_, rfl⟩
  rw [← he]
  refine fw_Mv_of (cc := bV_keepEntry) (maxL := 6) (ret := none) (by decide) rfl (Nat.le_of_ble_eq_true rfl) ?_
  intro p e s m below meth c ls hx hb hr hml hlocks hown hts hK hnb hW hl
  have hS : va_S (fw_A cV X) s.heap s.heap [] := va_S.rf
  have hA : ∀ t, cV t → fw_A cV X (X.2.2 t) := fun t h => ⟨t, h, rfl⟩
  have htb := tb_use hts
  have hl : lv_has ls 6 [(0, .ref (X.2.2 (12, v, 0))), (1, .int a1), (2, .int a2), (3, .int a3), (4, .int a4)] := hl
  have hown : s.vm.findClass "TapOffice$Validator" = some m.cls := hown
  unfold cs_keepEntry at he
  refine lv_aload_n hx hb dV_keepEntry_0 rfl (lv_at hl 0 rfl) ?_
  refine fw_kp (va_runV (As := []) (rest := []) ⟨hx, hb, hml, hown, hts⟩ (c_isFull l X hI σ v ((cve12 hv)).1 ) (cwV 0 hts (tb_V m_206 m_293 m_204 m_205 m_30) rfl rfl rfl (by decide +kernel) ⟨Nat.le_of_ble_eq_true rfl, Nat.le_of_ble_eq_true rfl⟩) (fw_preV (X := X) hK hnb hW (12, v, 0) (cve12 hv) rfl rfl []) rfl rfl hl.1 rfl (lv_room (Nat.le_of_ble_eq_true rfl)) dV_keepEntry_1 ⟨Nat.zero_le _, Nat.zero_le _⟩) hS (fun H locs hW hS => ?_)
  refine lv_if_eq (tgt := 8) hx hb dV_keepEntry_4 (by decide) (fun c1 => ?_) (fun c1 => ?_)
  · rw [if_pos c1] at he
    refine lv_aload_n hx hb dV_keepEntry_8 rfl (lv_at hl 0 rfl) ?_
    refine fw_get (X := X) (v := .ref (X.2.2 (18, v, 0))) hx hb hts hin_V hown hK hW (12, v, 0) (cve12 hv) rfl rfl 0 (by decide) (htb _ m_125 rfl) (fun _ h => h) rfl rfl dV_keepEntry_9 ?_
    refine lv_aload_n hx hb dV_keepEntry_12 rfl (lv_at hl 0 rfl) ?_
    refine fw_get (X := X) (v := .int (σ (12, v, 0) 1)) hx hb hts hin_V hown hK hW (12, v, 0) (cve12 hv) rfl rfl 1 (by decide) (htb _ m_126 rfl) (fun _ h => h) rfl rfl dV_keepEntry_13 ?_
    refine fw_aald (X := X) hx hb hK hW (18, v, 0) (cvs18 (cve12 hv)) rfl 1 rfl rfl (σ (12, v, 0) 1).toNatClampNeg rfl (20, v, (σ (12, v, 0) 1).toNatClampNeg) rfl (ke_in h1 ‹cs_isFull σ v = 0›) dV_keepEntry_16 ?_
    have hV2 : cV (20, v, (σ (12, v, 0) 1).toNatClampNeg) := (cvj20 (cvs18 (cve12 hv)) (vi_lt (ke_in h1 ‹cs_isFull σ v = 0›)))
    refine lv_astore (lv' := [(5, .ref (X.2.2 (20, v, (σ (12, v, 0) 1).toNatClampNeg))), (0, .ref (X.2.2 (12, v, 0))), (1, .int a1), (2, .int a2), (3, .int a3), (4, .int a4)]) hx hb dV_keepEntry_17 hl (by decide) rfl (fun ls hl => ?_)
    refine lv_aload hx hb dV_keepEntry_19 (lv_at hl 0 rfl) ?_
    refine lv_iconst (v := 0) hx hb dV_keepEntry_21 (by decide) ?_
    refine lv_iload_n hx hb dV_keepEntry_22 rfl (lv_at hl 2 rfl) ?_
    refine fw_iast (X := X) hx hb hK hW hI hA hS (20, v, (σ (12, v, 0) 1).toNatClampNeg) hV2 rfl 0 rfl 0 (by decide) (by unfold vp_in; decide) dV_keepEntry_23 (fun H locs hW hS => ?_)
    obtain ⟨σ3, e4⟩ : ∃ z : fw_S, z = fw_st σ (20, v, (σ (12, v, 0) 1).toNatClampNeg) 0 a1 := ⟨_, rfl⟩
    rw [← e4] at hW
    try rw [← e4] at he
    unfold cs_keepEntry_s1 at he
    refine lv_aload hx hb dV_keepEntry_24 (lv_at hl 0 rfl) ?_
    refine lv_iconst (v := 1) hx hb dV_keepEntry_26 (by decide) ?_
    refine lv_iload_n hx hb dV_keepEntry_27 rfl (lv_at hl 3 rfl) ?_
    refine fw_iast (X := X) hx hb hK hW hI hA hS (20, v, (σ (12, v, 0) 1).toNatClampNeg) hV2 rfl 0 rfl 1 (by decide) (by unfold vp_in; decide) dV_keepEntry_28 (fun H locs hW hS => ?_)
    obtain ⟨σ5, e6⟩ : ∃ z : fw_S, z = fw_st σ3 (20, v, (σ (12, v, 0) 1).toNatClampNeg) 1 a2 := ⟨_, rfl⟩
    rw [← e6] at hW
    try rw [← e6] at he
    unfold cs_keepEntry_s2 at he
    refine lv_aload hx hb dV_keepEntry_29 (lv_at hl 0 rfl) ?_
    refine lv_iconst (v := 2) hx hb dV_keepEntry_31 (by decide) ?_
    refine lv_iload_n hx hb dV_keepEntry_32 rfl (lv_at hl 4 rfl) ?_
    refine fw_iast (X := X) hx hb hK hW hI hA hS (20, v, (σ (12, v, 0) 1).toNatClampNeg) hV2 rfl 0 rfl 2 (by decide) (by unfold vp_in; decide) dV_keepEntry_33 (fun H locs hW hS => ?_)
    obtain ⟨σ7, e8⟩ : ∃ z : fw_S, z = fw_st σ5 (20, v, (σ (12, v, 0) 1).toNatClampNeg) 2 a3 := ⟨_, rfl⟩
    rw [← e8] at hW
    try rw [← e8] at he
    unfold cs_keepEntry_s3 at he
    refine lv_aload hx hb dV_keepEntry_34 (lv_at hl 0 rfl) ?_
    refine lv_iconst (v := 3) hx hb dV_keepEntry_36 (by decide) ?_
    refine lv_iload hx hb dV_keepEntry_37 (lv_at hl 5 rfl) ?_
    refine fw_iast (X := X) hx hb hK hW hI hA hS (20, v, (σ (12, v, 0) 1).toNatClampNeg) hV2 rfl 0 rfl 3 (by decide) (by unfold vp_in; decide) dV_keepEntry_39 (fun H locs hW hS => ?_)
    obtain ⟨σ9, e10⟩ : ∃ z : fw_S, z = fw_st σ7 (20, v, (σ (12, v, 0) 1).toNatClampNeg) 3 a4 := ⟨_, rfl⟩
    rw [← e10] at hW
    try rw [← e10] at he
    unfold cs_keepEntry_s4 at he
    refine lv_aload_n hx hb dV_keepEntry_40 rfl (lv_at hl 1 rfl) ?_
    refine lv_dup hx hb dV_keepEntry_41 rfl ?_
    refine fw_get (X := X) (v := .int (σ9 (12, v, 0) 1)) hx hb hts hin_V hown hK hW (12, v, 0) (cve12 hv) rfl rfl 1 (by decide) (htb _ m_126 rfl) (fun _ h => h) rfl rfl dV_keepEntry_42 ?_
    refine lv_iconst (v := 1) hx hb dV_keepEntry_45 (by decide) ?_
    refine lv_iadd hx hb dV_keepEntry_46 ?_
    refine fw_put (X := X) hx hb hts hin_V ty_V ty_V_ok nm_V hown hK hW hI hA hS (12, v, 0) (cve12 hv) rfl rfl rfl 1 (by decide) (htb _ m_126 rfl) (fun _ h => h) rfl rfl (ty := .int) (by decide +kernel) rfl rfl dV_keepEntry_47 (fun H locs hW hS => ?_)
    obtain ⟨σ11, e12⟩ : ∃ z : fw_S, z = fw_st σ9 (12, v, 0) 1 ((σ9 (12, v, 0) 1) + 1) := ⟨_, rfl⟩
    rw [← e12] at hW
    try rw [← e12] at he
    unfold cs_keepEntry_s5 at he
    exact fw_vret hx hb hr hlocks hK hnb hW hS he dV_keepEntry_50
  · rw [if_neg c1] at he
    exact fw_vret hx hb hr hlocks hK hnb hW hS he dV_keepEntry_7
def cs_emptyLog_s1 (σ1 : fw_S) : fw_S :=
  σ1
def cs_emptyLog (σ : fw_S) (v : Nat) : fw_S :=
  cs_emptyLog_s1 (fw_st σ (12, v, 0) 1 0)
set_option maxHeartbeats 4000000 in
set_option maxRecDepth 100000 in
theorem c_emptyLog (l : Launch) (X : fw_X) (hI : fw_I cV X) (σ : fw_S) (v : Nat) (hv : v < 4)  : fw_Mv fw_cl csh cV fw_tys l yV_emptyLog wV_emptyLog (fw_rm 0) X σ [.ref (X.2.2 (12, v, 0))] (cs_emptyLog σ v) := by
  obtain ⟨out, he⟩ : ∃ z : fw_S, z = cs_emptyLog σ v := ⟨_, rfl⟩
  rw [← he]
  refine fw_Mv_of (cc := bV_emptyLog) (maxL := 1) (ret := none) (by decide) rfl (Nat.le_of_ble_eq_true rfl) ?_
  intro p e s m below meth c ls hx hb hr hml hlocks hown hts hK hnb hW hl
  have hS : va_S (fw_A cV X) s.heap s.heap [] := va_S.rf
  have hA : ∀ t, cV t → fw_A cV X (X.2.2 t) := fun t h => ⟨t, h, rfl⟩
  have htb := tb_use hts
  have hl : lv_has ls 1 [(0, .ref (X.2.2 (12, v, 0)))] := hl
  have hown : s.vm.findClass "TapOffice$Validator" = some m.cls := hown
  unfold cs_emptyLog at he
  refine lv_aload_n hx hb dV_emptyLog_0 rfl (lv_at hl 0 rfl) ?_
  refine lv_iconst (v := 0) hx hb dV_emptyLog_1 (by decide) ?_
  refine fw_put (X := X) hx hb hts hin_V ty_V ty_V_ok nm_V hown hK hW hI hA hS (12, v, 0) (cve12 hv) rfl rfl rfl 1 (by decide) (htb _ m_126 rfl) (fun _ h => h) rfl rfl (ty := .int) (by decide +kernel) rfl rfl dV_emptyLog_2 (fun H locs hW hS => ?_)
  obtain ⟨σ1, e2⟩ : ∃ z : fw_S, z = fw_st σ (12, v, 0) 1 0 := ⟨_, rfl⟩
  rw [← e2] at hW
  try rw [← e2] at he
  unfold cs_emptyLog_s1 at he
  exact fw_vret hx hb hr hlocks hK hnb hW hS he dV_emptyLog_5
def cs_known (σ : fw_S) (k : Nat) : Int32 :=
  (σ (11, k, 0) 3)
set_option maxHeartbeats 4000000 in
set_option maxRecDepth 100000 in
theorem c_known (l : Launch) (X : fw_X) (hI : fw_I cV X) (σ : fw_S) (k : Nat) (hk : k < 4)  : fw_Mi fw_cl csh cV fw_tys l yA_known wA_known (fw_rm 0) X σ [.ref (X.2.2 (11, k, 0))] ((cs_known σ k, σ)) := by
  obtain ⟨out, he⟩ : ∃ z : Int32, z = cs_known σ k := ⟨_, rfl⟩
  rw [← he]
  refine fw_Mi_of (cc := bA_known) (maxL := 1) (ret := (some .int)) (by decide) rfl (Nat.le_of_ble_eq_true rfl) ?_
  intro p e s m below meth c ls hx hb hr hml hlocks hown hts hK hnb hW hl
  have hS : va_S (fw_A cV X) s.heap s.heap [] := va_S.rf
  have hA : ∀ t, cV t → fw_A cV X (X.2.2 t) := fun t h => ⟨t, h, rfl⟩
  have htb := tb_use hts
  have hl : lv_has ls 1 [(0, .ref (X.2.2 (11, k, 0)))] := hl
  have hown : s.vm.findClass "TapOffice$Account" = some m.cls := hown
  unfold cs_known at he
  refine lv_aload_n hx hb dA_known_0 rfl (lv_at hl 0 rfl) ?_
  refine fw_get (X := X) (v := .int (σ (11, k, 0) 3)) hx hb hts hin_A hown hK hW (11, k, 0) (cve11 hk) rfl rfl 3 (by decide) (htb _ m_99 rfl) (fun _ h => h) rfl rfl dA_known_1 ?_
  exact fw_iret hx hb hr hlocks hK hnb hW hS (by rw [he]) dA_known_4
def cs_greatestCounter (σ : fw_S) (k : Nat) : Int32 :=
  (σ (11, k, 0) 4)
set_option maxHeartbeats 4000000 in
set_option maxRecDepth 100000 in
theorem c_greatestCounter (l : Launch) (X : fw_X) (hI : fw_I cV X) (σ : fw_S) (k : Nat) (hk : k < 4)  : fw_Mi fw_cl csh cV fw_tys l yA_greatestCounter wA_greatestCounter (fw_rm 0) X σ [.ref (X.2.2 (11, k, 0))] ((cs_greatestCounter σ k, σ)) := by
  obtain ⟨out, he⟩ : ∃ z : Int32, z = cs_greatestCounter σ k := ⟨_, rfl⟩
  rw [← he]
  refine fw_Mi_of (cc := bA_greatestCounter) (maxL := 1) (ret := (some .int)) (by decide) rfl (Nat.le_of_ble_eq_true rfl) ?_
  intro p e s m below meth c ls hx hb hr hml hlocks hown hts hK hnb hW hl
  have hS : va_S (fw_A cV X) s.heap s.heap [] := va_S.rf
  have hA : ∀ t, cV t → fw_A cV X (X.2.2 t) := fun t h => ⟨t, h, rfl⟩
  have htb := tb_use hts
  have hl : lv_has ls 1 [(0, .ref (X.2.2 (11, k, 0)))] := hl
  have hown : s.vm.findClass "TapOffice$Account" = some m.cls := hown
  unfold cs_greatestCounter at he
  refine lv_aload_n hx hb dA_greatestCounter_0 rfl (lv_at hl 0 rfl) ?_
  refine fw_get (X := X) (v := .int (σ (11, k, 0) 4)) hx hb hts hin_A hown hK hW (11, k, 0) (cve11 hk) rfl rfl 4 (by decide) (htb _ m_100 rfl) (fun _ h => h) rfl rfl dA_greatestCounter_1 ?_
  exact fw_iret hx hb hr hlocks hK hnb hW hS (by rw [he]) dA_greatestCounter_4
def cs_missing (σ : fw_S) (k : Nat) : Int32 :=
  ((σ (11, k, 0) 4) - (σ (11, k, 0) 3))
set_option maxHeartbeats 4000000 in
set_option maxRecDepth 100000 in
theorem c_missing (l : Launch) (X : fw_X) (hI : fw_I cV X) (σ : fw_S) (k : Nat) (hk : k < 4)  : fw_Mi fw_cl csh cV fw_tys l yA_missing wA_missing (fw_rm 0) X σ [.ref (X.2.2 (11, k, 0))] ((cs_missing σ k, σ)) := by
  obtain ⟨out, he⟩ : ∃ z : Int32, z = cs_missing σ k := ⟨_, rfl⟩
  rw [← he]
  refine fw_Mi_of (cc := bA_missing) (maxL := 1) (ret := (some .int)) (by decide) rfl (Nat.le_of_ble_eq_true rfl) ?_
  intro p e s m below meth c ls hx hb hr hml hlocks hown hts hK hnb hW hl
  have hS : va_S (fw_A cV X) s.heap s.heap [] := va_S.rf
  have hA : ∀ t, cV t → fw_A cV X (X.2.2 t) := fun t h => ⟨t, h, rfl⟩
  have htb := tb_use hts
  have hl : lv_has ls 1 [(0, .ref (X.2.2 (11, k, 0)))] := hl
  have hown : s.vm.findClass "TapOffice$Account" = some m.cls := hown
  unfold cs_missing at he
  refine lv_aload_n hx hb dA_missing_0 rfl (lv_at hl 0 rfl) ?_
  refine fw_get (X := X) (v := .int (σ (11, k, 0) 4)) hx hb hts hin_A hown hK hW (11, k, 0) (cve11 hk) rfl rfl 4 (by decide) (htb _ m_100 rfl) (fun _ h => h) rfl rfl dA_missing_1 ?_
  refine lv_aload_n hx hb dA_missing_4 rfl (lv_at hl 0 rfl) ?_
  refine fw_get (X := X) (v := .int (σ (11, k, 0) 3)) hx hb hts hin_A hown hK hW (11, k, 0) (cve11 hk) rfl rfl 3 (by decide) (htb _ m_99 rfl) (fun _ h => h) rfl rfl dA_missing_5 ?_
  refine lv_isub hx hb dA_missing_8 ?_
  exact fw_iret hx hb hr hlocks hK hnb hW hS (by rw [he]) dA_missing_9
def cs_allCharges (σ : fw_S) (k : Nat) : Int32 :=
  (σ (11, k, 0) 5)
set_option maxHeartbeats 4000000 in
set_option maxRecDepth 100000 in
theorem c_allCharges (l : Launch) (X : fw_X) (hI : fw_I cV X) (σ : fw_S) (k : Nat) (hk : k < 4)  : fw_Mi fw_cl csh cV fw_tys l yA_allCharges wA_allCharges (fw_rm 0) X σ [.ref (X.2.2 (11, k, 0))] ((cs_allCharges σ k, σ)) := by
  obtain ⟨out, he⟩ : ∃ z : Int32, z = cs_allCharges σ k := ⟨_, rfl⟩
  rw [← he]
  refine fw_Mi_of (cc := bA_allCharges) (maxL := 1) (ret := (some .int)) (by decide) rfl (Nat.le_of_ble_eq_true rfl) ?_
  intro p e s m below meth c ls hx hb hr hml hlocks hown hts hK hnb hW hl
  have hS : va_S (fw_A cV X) s.heap s.heap [] := va_S.rf
  have hA : ∀ t, cV t → fw_A cV X (X.2.2 t) := fun t h => ⟨t, h, rfl⟩
  have htb := tb_use hts
  have hl : lv_has ls 1 [(0, .ref (X.2.2 (11, k, 0)))] := hl
  have hown : s.vm.findClass "TapOffice$Account" = some m.cls := hown
  unfold cs_allCharges at he
  refine lv_aload_n hx hb dA_allCharges_0 rfl (lv_at hl 0 rfl) ?_
  refine fw_get (X := X) (v := .int (σ (11, k, 0) 5)) hx hb hts hin_A hown hK hW (11, k, 0) (cve11 hk) rfl rfl 5 (by decide) (htb _ m_101 rfl) (fun _ h => h) rfl rfl dA_allCharges_1 ?_
  exact fw_iret hx hb hr hlocks hK hnb hW hS (by rw [he]) dA_allCharges_4
def cs_allTopUps (σ : fw_S) (k : Nat) : Int32 :=
  (σ (11, k, 0) 6)
set_option maxHeartbeats 4000000 in
set_option maxRecDepth 100000 in
theorem c_allTopUps (l : Launch) (X : fw_X) (hI : fw_I cV X) (σ : fw_S) (k : Nat) (hk : k < 4)  : fw_Mi fw_cl csh cV fw_tys l yA_allTopUps wA_allTopUps (fw_rm 0) X σ [.ref (X.2.2 (11, k, 0))] ((cs_allTopUps σ k, σ)) := by
  obtain ⟨out, he⟩ : ∃ z : Int32, z = cs_allTopUps σ k := ⟨_, rfl⟩
  rw [← he]
  refine fw_Mi_of (cc := bA_allTopUps) (maxL := 1) (ret := (some .int)) (by decide) rfl (Nat.le_of_ble_eq_true rfl) ?_
  intro p e s m below meth c ls hx hb hr hml hlocks hown hts hK hnb hW hl
  have hS : va_S (fw_A cV X) s.heap s.heap [] := va_S.rf
  have hA : ∀ t, cV t → fw_A cV X (X.2.2 t) := fun t h => ⟨t, h, rfl⟩
  have htb := tb_use hts
  have hl : lv_has ls 1 [(0, .ref (X.2.2 (11, k, 0)))] := hl
  have hown : s.vm.findClass "TapOffice$Account" = some m.cls := hown
  unfold cs_allTopUps at he
  refine lv_aload_n hx hb dA_allTopUps_0 rfl (lv_at hl 0 rfl) ?_
  refine fw_get (X := X) (v := .int (σ (11, k, 0) 6)) hx hb hts hin_A hown hK hW (11, k, 0) (cve11 hk) rfl rfl 6 (by decide) (htb _ m_102 rfl) (fun _ h => h) rfl rfl dA_allTopUps_1 ?_
  exact fw_iret hx hb hr hlocks hK hnb hW hS (by rw [he]) dA_allTopUps_4
theorem en_in {x : Int32} (h1 : ¬ x < 1) (h2 : ¬ 512 < x) : vp_in x 513 := by
  have h3 := Int32.le_iff_toInt_le.mp (Int32.not_lt.mp h1)
  have h4 := Int32.le_iff_toInt_le.mp (Int32.not_lt.mp h2)
  have e1 : (1 : Int32).toInt = 1 := by decide
  have e2 : (512 : Int32).toInt = 512 := by decide
  exact vi_of (by omega) (by omega)
def cs_enter_s5 (σ12 : fw_S) : Int32 × fw_S :=
  (1, σ12)
def cs_enter_s4 (k : Nat) (a1 : Int32) (σ10 : fw_S) : Int32 × fw_S :=
  cs_enter_s5 (fw_st σ10 (11, k, 0) 4 (if (σ10 (11, k, 0) 4) < a1 then a1 else (σ10 (11, k, 0) 4)))
def cs_enter_s3 (k : Nat) (a1 : Int32) (σ8 : fw_S) : Int32 × fw_S :=
  cs_enter_s4 k a1 (fw_st σ8 (11, k, 0) 3 ((σ8 (11, k, 0) 3) + 1))
def cs_enter_s2 (k : Nat) (a1 : Int32) (a3 : Int32) (σ6 : fw_S) : Int32 × fw_S :=
  cs_enter_s3 k a1 (fw_st σ6 (17, k, 0) a1.toNatClampNeg a3)
def cs_enter_s1 (k : Nat) (a1 : Int32) (a2 : Int32) (a3 : Int32) (σ4 : fw_S) : Int32 × fw_S :=
  cs_enter_s2 k a1 a3 (fw_st σ4 (16, k, 0) a1.toNatClampNeg a2)
def cs_enter (σ : fw_S) (k : Nat) (a1 : Int32) (a2 : Int32) (a3 : Int32) : Int32 × fw_S :=
  if a1 < 1 then (0, σ) else if 512 < a1 then (0, σ) else if (σ (15, k, 0) a1.toNatClampNeg) = 0 then cs_enter_s1 k a1 a2 a3 (fw_st σ (15, k, 0) a1.toNatClampNeg 1) else (0, σ)
set_option maxHeartbeats 4000000 in
set_option maxRecDepth 100000 in
theorem c_enter (l : Launch) (X : fw_X) (hI : fw_I cV X) (σ : fw_S) (k : Nat) (hk : k < 4) (a1 a2 a3 : Int32)  : fw_Mi fw_cl csh cV fw_tys l yA_enter wA_enter (fw_rm 1) X σ [.ref (X.2.2 (11, k, 0)), .int a1, .int a2, .int a3] (cs_enter σ k a1 a2 a3) := by
  obtain ⟨out, he⟩ : ∃ z : Int32 × fw_S, z = cs_enter σ k a1 a2 a3 := ⟨_, rfl⟩
  rw [← he]
  refine fw_Mi_of (cc := bA_enter) (maxL := 4) (ret := (some .boolean)) (by decide) rfl (Nat.le_of_ble_eq_true rfl) ?_
  intro p e s m below meth c ls hx hb hr hml hlocks hown hts hK hnb hW hl
  have hS : va_S (fw_A cV X) s.heap s.heap [] := va_S.rf
  have hA : ∀ t, cV t → fw_A cV X (X.2.2 t) := fun t h => ⟨t, h, rfl⟩
  have htb := tb_use hts
  have hl : lv_has ls 4 [(0, .ref (X.2.2 (11, k, 0))), (1, .int a1), (2, .int a2), (3, .int a3)] := hl
  have hown : s.vm.findClass "TapOffice$Account" = some m.cls := hown
  unfold cs_enter at he
  refine lv_iload_n hx hb dA_enter_0 rfl (lv_at hl 1 rfl) ?_
  refine lv_iconst (v := 1) hx hb dA_enter_1 (by decide) ?_
  refine lv_icmp_lt (tgt := 21) hx hb dA_enter_2 (by decide) (fun c1 => ?_) (fun c1 => ?_)
  · rw [if_pos c1] at he
    refine lv_iconst (v := 0) hx hb dA_enter_21 (by decide) ?_
    exact fw_zret hx hb hr hlocks hK hnb hW hS (by decide) he dA_enter_22
  · rw [if_neg c1] at he
    refine lv_iload_n hx hb dA_enter_5 rfl (lv_at hl 1 rfl) ?_
    refine lv_sipush (v := 512) hx hb dA_enter_6 (by decide) ?_
    refine lv_icmp_gt (tgt := 21) hx hb dA_enter_9 (by decide) (fun c2 => ?_) (fun c2 => ?_)
    · rw [if_pos c2] at he
      refine lv_iconst (v := 0) hx hb dA_enter_21 (by decide) ?_
      exact fw_zret hx hb hr hlocks hK hnb hW hS (by decide) he dA_enter_22
    · rw [if_neg c2] at he
      refine lv_aload_n hx hb dA_enter_12 rfl (lv_at hl 0 rfl) ?_
      refine fw_get (X := X) (v := .ref (X.2.2 (15, k, 0))) hx hb hts hin_A hown hK hW (11, k, 0) (cve11 hk) rfl rfl 0 (by decide) (htb _ m_96 rfl) (fun _ h => h) rfl rfl dA_enter_13 ?_
      refine lv_iload_n hx hb dA_enter_16 rfl (lv_at hl 1 rfl) ?_
      refine fw_zald (X := X) hx hb hK hW (15, k, 0) (cvs15 (cve11 hk)) rfl 5 rfl a1.toNatClampNeg rfl (en_in ‹¬ a1 < 1› ‹¬ 512 < a1›) dA_enter_17 ?_
      refine lv_if_eq (tgt := 23) hx hb dA_enter_18 (by decide) (fun c3 => ?_) (fun c3 => ?_)
      · rw [if_pos c3] at he
        refine lv_aload_n hx hb dA_enter_23 rfl (lv_at hl 0 rfl) ?_
        refine fw_get (X := X) (v := .ref (X.2.2 (15, k, 0))) hx hb hts hin_A hown hK hW (11, k, 0) (cve11 hk) rfl rfl 0 (by decide) (htb _ m_96 rfl) (fun _ h => h) rfl rfl dA_enter_24 ?_
        refine lv_iload_n hx hb dA_enter_27 rfl (lv_at hl 1 rfl) ?_
        refine lv_iconst (v := 1) hx hb dA_enter_28 (by decide) ?_
        refine fw_zast (X := X) hx hb hK hW hI hA hS (15, k, 0) (cvs15 (cve11 hk)) rfl 5 rfl rfl a1.toNatClampNeg rfl (en_in ‹¬ a1 < 1› ‹¬ 512 < a1›) dA_enter_29 (fun H locs hW hS => ?_)
        obtain ⟨σ4, e5⟩ : ∃ z : fw_S, z = fw_st σ (15, k, 0) a1.toNatClampNeg 1 := ⟨_, rfl⟩
        rw [← e5] at hW
        try rw [← e5] at he
        unfold cs_enter_s1 at he
        refine lv_aload_n hx hb dA_enter_30 rfl (lv_at hl 0 rfl) ?_
        refine fw_get (X := X) (v := .ref (X.2.2 (16, k, 0))) hx hb hts hin_A hown hK hW (11, k, 0) (cve11 hk) rfl rfl 1 (by decide) (htb _ m_97 rfl) (fun _ h => h) rfl rfl dA_enter_31 ?_
        refine lv_iload_n hx hb dA_enter_34 rfl (lv_at hl 1 rfl) ?_
        refine lv_iload_n hx hb dA_enter_35 rfl (lv_at hl 2 rfl) ?_
        refine fw_iast (X := X) hx hb hK hW hI hA hS (16, k, 0) (cvs16 (cve11 hk)) rfl 0 rfl a1.toNatClampNeg rfl (en_in ‹¬ a1 < 1› ‹¬ 512 < a1›) dA_enter_36 (fun H locs hW hS => ?_)
        obtain ⟨σ6, e7⟩ : ∃ z : fw_S, z = fw_st σ4 (16, k, 0) a1.toNatClampNeg a2 := ⟨_, rfl⟩
        rw [← e7] at hW
        try rw [← e7] at he
        unfold cs_enter_s2 at he
        refine lv_aload_n hx hb dA_enter_37 rfl (lv_at hl 0 rfl) ?_
        refine fw_get (X := X) (v := .ref (X.2.2 (17, k, 0))) hx hb hts hin_A hown hK hW (11, k, 0) (cve11 hk) rfl rfl 2 (by decide) (htb _ m_98 rfl) (fun _ h => h) rfl rfl dA_enter_38 ?_
        refine lv_iload_n hx hb dA_enter_41 rfl (lv_at hl 1 rfl) ?_
        refine lv_iload_n hx hb dA_enter_42 rfl (lv_at hl 3 rfl) ?_
        refine fw_iast (X := X) hx hb hK hW hI hA hS (17, k, 0) (cvs17 (cve11 hk)) rfl 0 rfl a1.toNatClampNeg rfl (en_in ‹¬ a1 < 1› ‹¬ 512 < a1›) dA_enter_43 (fun H locs hW hS => ?_)
        obtain ⟨σ8, e9⟩ : ∃ z : fw_S, z = fw_st σ6 (17, k, 0) a1.toNatClampNeg a3 := ⟨_, rfl⟩
        rw [← e9] at hW
        try rw [← e9] at he
        unfold cs_enter_s3 at he
        refine lv_aload_n hx hb dA_enter_44 rfl (lv_at hl 0 rfl) ?_
        refine lv_dup hx hb dA_enter_45 rfl ?_
        refine fw_get (X := X) (v := .int (σ8 (11, k, 0) 3)) hx hb hts hin_A hown hK hW (11, k, 0) (cve11 hk) rfl rfl 3 (by decide) (htb _ m_99 rfl) (fun _ h => h) rfl rfl dA_enter_46 ?_
        refine lv_iconst (v := 1) hx hb dA_enter_49 (by decide) ?_
        refine lv_iadd hx hb dA_enter_50 ?_
        refine fw_put (X := X) hx hb hts hin_A ty_A ty_A_ok nm_A hown hK hW hI hA hS (11, k, 0) (cve11 hk) rfl rfl rfl 3 (by decide) (htb _ m_99 rfl) (fun _ h => h) rfl rfl (ty := .int) (by decide +kernel) rfl rfl dA_enter_51 (fun H locs hW hS => ?_)
        obtain ⟨σ10, e11⟩ : ∃ z : fw_S, z = fw_st σ8 (11, k, 0) 3 ((σ8 (11, k, 0) 3) + 1) := ⟨_, rfl⟩
        rw [← e11] at hW
        try rw [← e11] at he
        unfold cs_enter_s4 at he
        refine lv_aload_n hx hb dA_enter_54 rfl (lv_at hl 0 rfl) ?_
        refine lv_aload_n hx hb dA_enter_55 rfl (lv_at hl 0 rfl) ?_
        refine fw_get (X := X) (v := .int (σ10 (11, k, 0) 4)) hx hb hts hin_A hown hK hW (11, k, 0) (cve11 hk) rfl rfl 4 (by decide) (htb _ m_100 rfl) (fun _ h => h) rfl rfl dA_enter_56 ?_
        refine lv_iload_n hx hb dA_enter_59 rfl (lv_at hl 1 rfl) ?_
        refine va_mmax hx hb (hml.trans hl.1.symm) hown (htb _ m_310 rfl) (htb _ m_271 rfl) (htb _ m_32 rfl) (htb _ m_272 rfl) (Nat.le_of_ble_eq_true rfl) (Nat.le_of_ble_eq_true rfl) (Nat.zero_le _) (Nat.zero_le _) dA_enter_60 ?_
        refine fw_put (X := X) hx hb hts hin_A ty_A ty_A_ok nm_A hown hK hW hI hA hS (11, k, 0) (cve11 hk) rfl rfl rfl 4 (by decide) (htb _ m_100 rfl) (fun _ h => h) rfl rfl (ty := .int) (by decide +kernel) rfl rfl dA_enter_63 (fun H locs hW hS => ?_)
        obtain ⟨σ12, e13⟩ : ∃ z : fw_S, z = fw_st σ10 (11, k, 0) 4 (if (σ10 (11, k, 0) 4) < a1 then a1 else (σ10 (11, k, 0) 4)) := ⟨_, rfl⟩
        rw [← e13] at hW
        try rw [← e13] at he
        unfold cs_enter_s5 at he
        refine lv_iconst (v := 1) hx hb dA_enter_66 (by decide) ?_
        exact fw_zret hx hb hr hlocks hK hnb hW hS (by decide) he dA_enter_67
      · rw [if_neg c3] at he
        refine lv_iconst (v := 0) hx hb dA_enter_21 (by decide) ?_
        exact fw_zret hx hb hr hlocks hK hnb hW hS (by decide) he dA_enter_22
def cs_enterCharge_s2 (σ5 : fw_S) : fw_S :=
  σ5
def cs_enterCharge_s1 (k : Nat) (a2 : Int32) (r1 : Int32) (σ2 : fw_S) : fw_S :=
  if r1 = 0 then σ2 else cs_enterCharge_s2 (fw_st σ2 (11, k, 0) 5 ((σ2 (11, k, 0) 5) + a2))
def cs_enterCharge (σ : fw_S) (k : Nat) (a1 : Int32) (a2 : Int32) (a3 : Int32) : fw_S :=
  cs_enterCharge_s1 k a2 ((cs_enter σ k a1 (a3 + a2) a3).1) ((cs_enter σ k a1 (a3 + a2) a3).2)
set_option maxHeartbeats 4000000 in
set_option maxRecDepth 100000 in
theorem c_enterCharge (l : Launch) (X : fw_X) (hI : fw_I cV X) (σ : fw_S) (k : Nat) (hk : k < 4) (a1 a2 a3 : Int32)  : fw_Mv fw_cl csh cV fw_tys l yA_enterCharge wA_enterCharge (fw_rm 2) X σ [.ref (X.2.2 (11, k, 0)), .int a1, .int a2, .int a3] (cs_enterCharge σ k a1 a2 a3) := by
  obtain ⟨out, he⟩ : ∃ z : fw_S, z = cs_enterCharge σ k a1 a2 a3 := ⟨_, rfl⟩
  rw [← he]
  refine fw_Mv_of (cc := bA_enterCharge) (maxL := 4) (ret := none) (by decide) rfl (Nat.le_of_ble_eq_true rfl) ?_
  intro p e s m below meth c ls hx hb hr hml hlocks hown hts hK hnb hW hl
  have hS : va_S (fw_A cV X) s.heap s.heap [] := va_S.rf
  have hA : ∀ t, cV t → fw_A cV X (X.2.2 t) := fun t h => ⟨t, h, rfl⟩
  have htb := tb_use hts
  have hl : lv_has ls 4 [(0, .ref (X.2.2 (11, k, 0))), (1, .int a1), (2, .int a2), (3, .int a3)] := hl
  have hown : s.vm.findClass "TapOffice$Account" = some m.cls := hown
  unfold cs_enterCharge at he
  refine lv_aload_n hx hb dA_enterCharge_0 rfl (lv_at hl 0 rfl) ?_
  refine lv_iload_n hx hb dA_enterCharge_1 rfl (lv_at hl 1 rfl) ?_
  refine lv_iload_n hx hb dA_enterCharge_2 rfl (lv_at hl 3 rfl) ?_
  refine lv_iload_n hx hb dA_enterCharge_3 rfl (lv_at hl 2 rfl) ?_
  refine lv_iadd hx hb dA_enterCharge_4 ?_
  refine lv_iload_n hx hb dA_enterCharge_5 rfl (lv_at hl 3 rfl) ?_
  refine fw_ki (va_runV (As := [.int a1, .int (a3 + a2), .int a3]) (rest := []) ⟨hx, hb, hml, hown, hts⟩ (c_enter l X hI σ k ((cve11 hk)).1 a1 (a3 + a2) a3 ) (cwV 3 hts (tb_V m_309 m_306 m_308 m_6 m_29) rfl rfl rfl (by decide +kernel) ⟨Nat.le_of_ble_eq_true rfl, Nat.le_of_ble_eq_true rfl⟩) (fw_preV (X := X) hK hnb hW (11, k, 0) (cve11 hk) rfl rfl [.int a1, .int (a3 + a2), .int a3]) rfl rfl hl.1 rfl (lv_room (Nat.le_of_ble_eq_true rfl)) dA_enterCharge_6 ⟨Nat.zero_le _, Nat.zero_le _⟩) hS (fun r1 σ2 H locs o3 hW hS => ?_)
  rw [o3] at he
  unfold cs_enterCharge_s1 at he
  dsimp only at he
  refine lv_if_eq (tgt := 22) hx hb dA_enterCharge_9 (by decide) (fun c4 => ?_) (fun c4 => ?_)
  · rw [if_pos c4] at he
    exact fw_vret hx hb hr hlocks hK hnb hW hS he dA_enterCharge_22
  · rw [if_neg c4] at he
    refine lv_aload_n hx hb dA_enterCharge_12 rfl (lv_at hl 0 rfl) ?_
    refine lv_dup hx hb dA_enterCharge_13 rfl ?_
    refine fw_get (X := X) (v := .int (σ2 (11, k, 0) 5)) hx hb hts hin_A hown hK hW (11, k, 0) (cve11 hk) rfl rfl 5 (by decide) (htb _ m_101 rfl) (fun _ h => h) rfl rfl dA_enterCharge_14 ?_
    refine lv_iload_n hx hb dA_enterCharge_17 rfl (lv_at hl 2 rfl) ?_
    refine lv_iadd hx hb dA_enterCharge_18 ?_
    refine fw_put (X := X) hx hb hts hin_A ty_A ty_A_ok nm_A hown hK hW hI hA hS (11, k, 0) (cve11 hk) rfl rfl rfl 5 (by decide) (htb _ m_101 rfl) (fun _ h => h) rfl rfl (ty := .int) (by decide +kernel) rfl rfl dA_enterCharge_19 (fun H locs hW hS => ?_)
    obtain ⟨σ5, e6⟩ : ∃ z : fw_S, z = fw_st σ2 (11, k, 0) 5 ((σ2 (11, k, 0) 5) + a2) := ⟨_, rfl⟩
    rw [← e6] at hW
    try rw [← e6] at he
    unfold cs_enterCharge_s2 at he
    exact fw_vret hx hb hr hlocks hK hnb hW hS he dA_enterCharge_22
def cs_enterTopUp_s2 (σ5 : fw_S) : fw_S :=
  σ5
def cs_enterTopUp_s1 (k : Nat) (a2 : Int32) (r1 : Int32) (σ2 : fw_S) : fw_S :=
  if r1 = 0 then σ2 else cs_enterTopUp_s2 (fw_st σ2 (11, k, 0) 6 ((σ2 (11, k, 0) 6) + a2))
def cs_enterTopUp (σ : fw_S) (k : Nat) (a1 : Int32) (a2 : Int32) (a3 : Int32) : fw_S :=
  cs_enterTopUp_s1 k a2 ((cs_enter σ k a1 (a3 - a2) a3).1) ((cs_enter σ k a1 (a3 - a2) a3).2)
set_option maxHeartbeats 4000000 in
set_option maxRecDepth 100000 in
theorem c_enterTopUp (l : Launch) (X : fw_X) (hI : fw_I cV X) (σ : fw_S) (k : Nat) (hk : k < 4) (a1 a2 a3 : Int32)  : fw_Mv fw_cl csh cV fw_tys l yA_enterTopUp wA_enterTopUp (fw_rm 2) X σ [.ref (X.2.2 (11, k, 0)), .int a1, .int a2, .int a3] (cs_enterTopUp σ k a1 a2 a3) := by
  obtain ⟨out, he⟩ : ∃ z : fw_S, z = cs_enterTopUp σ k a1 a2 a3 := ⟨_, rfl⟩
  rw [← he]
  refine fw_Mv_of (cc := bA_enterTopUp) (maxL := 4) (ret := none) (by decide) rfl (Nat.le_of_ble_eq_true rfl) ?_
  intro p e s m below meth c ls hx hb hr hml hlocks hown hts hK hnb hW hl
  have hS : va_S (fw_A cV X) s.heap s.heap [] := va_S.rf
  have hA : ∀ t, cV t → fw_A cV X (X.2.2 t) := fun t h => ⟨t, h, rfl⟩
  have htb := tb_use hts
  have hl : lv_has ls 4 [(0, .ref (X.2.2 (11, k, 0))), (1, .int a1), (2, .int a2), (3, .int a3)] := hl
  have hown : s.vm.findClass "TapOffice$Account" = some m.cls := hown
  unfold cs_enterTopUp at he
  refine lv_aload_n hx hb dA_enterTopUp_0 rfl (lv_at hl 0 rfl) ?_
  refine lv_iload_n hx hb dA_enterTopUp_1 rfl (lv_at hl 1 rfl) ?_
  refine lv_iload_n hx hb dA_enterTopUp_2 rfl (lv_at hl 3 rfl) ?_
  refine lv_iload_n hx hb dA_enterTopUp_3 rfl (lv_at hl 2 rfl) ?_
  refine lv_isub hx hb dA_enterTopUp_4 ?_
  refine lv_iload_n hx hb dA_enterTopUp_5 rfl (lv_at hl 3 rfl) ?_
  refine fw_ki (va_runV (As := [.int a1, .int (a3 - a2), .int a3]) (rest := []) ⟨hx, hb, hml, hown, hts⟩ (c_enter l X hI σ k ((cve11 hk)).1 a1 (a3 - a2) a3 ) (cwV 3 hts (tb_V m_309 m_306 m_308 m_6 m_29) rfl rfl rfl (by decide +kernel) ⟨Nat.le_of_ble_eq_true rfl, Nat.le_of_ble_eq_true rfl⟩) (fw_preV (X := X) hK hnb hW (11, k, 0) (cve11 hk) rfl rfl [.int a1, .int (a3 - a2), .int a3]) rfl rfl hl.1 rfl (lv_room (Nat.le_of_ble_eq_true rfl)) dA_enterTopUp_6 ⟨Nat.zero_le _, Nat.zero_le _⟩) hS (fun r1 σ2 H locs o3 hW hS => ?_)
  rw [o3] at he
  unfold cs_enterTopUp_s1 at he
  dsimp only at he
  refine lv_if_eq (tgt := 22) hx hb dA_enterTopUp_9 (by decide) (fun c4 => ?_) (fun c4 => ?_)
  · rw [if_pos c4] at he
    exact fw_vret hx hb hr hlocks hK hnb hW hS he dA_enterTopUp_22
  · rw [if_neg c4] at he
    refine lv_aload_n hx hb dA_enterTopUp_12 rfl (lv_at hl 0 rfl) ?_
    refine lv_dup hx hb dA_enterTopUp_13 rfl ?_
    refine fw_get (X := X) (v := .int (σ2 (11, k, 0) 6)) hx hb hts hin_A hown hK hW (11, k, 0) (cve11 hk) rfl rfl 6 (by decide) (htb _ m_102 rfl) (fun _ h => h) rfl rfl dA_enterTopUp_14 ?_
    refine lv_iload_n hx hb dA_enterTopUp_17 rfl (lv_at hl 2 rfl) ?_
    refine lv_iadd hx hb dA_enterTopUp_18 ?_
    refine fw_put (X := X) hx hb hts hin_A ty_A ty_A_ok nm_A hown hK hW hI hA hS (11, k, 0) (cve11 hk) rfl rfl rfl 6 (by decide) (htb _ m_102 rfl) (fun _ h => h) rfl rfl (ty := .int) (by decide +kernel) rfl rfl dA_enterTopUp_19 (fun H locs hW hS => ?_)
    obtain ⟨σ5, e6⟩ : ∃ z : fw_S, z = fw_st σ2 (11, k, 0) 6 ((σ2 (11, k, 0) 6) + a2) := ⟨_, rfl⟩
    rw [← e6] at hW
    try rw [← e6] at he
    unfold cs_enterTopUp_s2 at he
    exact fw_vret hx hb hr hlocks hK hnb hW hS he dA_enterTopUp_22
def cs_lostMoney_s1 (x4 : Int32) (x1 : Int32) (rec : Int32 → Int32 → Int32 → Int32 → Int32) (z4 : Int32) : Int32 :=
  rec (x4 + 1) x1 x4 z4
def cs_lostMoney_s3 (x4 : Int32) (rec : Int32 → Int32 → Int32 → Int32 → Int32) (z6 : Int32) (z8 : Int32) : Int32 :=
  rec (x4 + 1) z6 x4 z8
def cs_lostMoney_s2 (k : Nat) (σ : fw_S) (x4 : Int32) (rec : Int32 → Int32 → Int32 → Int32 → Int32) (z6 : Int32) : Int32 :=
  cs_lostMoney_s3 x4 rec z6 (σ (17, k, 0) x4.toNatClampNeg)
def cs_lostMoney_lp (k : Nat) (σ : fw_S) : Nat → Int32 → Int32 → Int32 → Int32 → Int32
  | 0, _, _, _, _ => 0
  | n + 1, x4, x1, x2, x3 => if 512 < x4 then x1 else if (σ (15, k, 0) x4.toNatClampNeg) = 0 then (cs_lostMoney_lp k σ n) (x4 + 1) x1 x2 x3 else if x4 = (x2 + 1) then cs_lostMoney_s1 x4 x1 (cs_lostMoney_lp k σ n) (σ (17, k, 0) x4.toNatClampNeg) else cs_lostMoney_s2 k σ x4 (cs_lostMoney_lp k σ n) (x1 + (x3 - (σ (16, k, 0) x4.toNatClampNeg)))
def cs_lostMoney (σ : fw_S) (k : Nat) : Int32 :=
  cs_lostMoney_lp k σ (513 + 1) 1 0 0 0
set_option maxHeartbeats 4000000 in
set_option maxRecDepth 100000 in
theorem c_lostMoney_lp {p : Program} {e : Env} {s : State} {m : MethodId} {below : List Frame} {meth : Method} {c : Code} {args : Array Value} (l : Launch) (X : fw_X) (hI : fw_I cV X) (σ : fw_S) (k : Nat) (hk : k < 4)    (out : Int32)
    (hx : p.tables.exec = Jvm.exec) (hb : c.code = bA_lostMoney) (hr : meth.sig.returnType = (some .int)) (hml : c.maxLocals = 5) (hlocks : meth.locks = false) (hown : s.vm.findClass "TapOffice$Account" = some m.cls) (hts : ∀ w ∈ wA_lostMoney, w.before args s = true) (hK : va_K X.1 fw_cl (fw_tys X.2.1) s) (hnb : va_Nw fw_nb s) :
    ∀ (n : Nat) (x4 x1 x2 x3 : Int32) (j : Nat), x4 = nI j → j ≤ 513 → 513 + 1 ≤ j + n → ∀ (H : Heap) (locs : List Loc), fw_W fw_cl csh cV X σ H → va_S (fw_A cV X) s.heap H locs → ∀ (ls : Array Slot), lv_has ls 5 [(0, .ref (X.2.2 (11, k, 0))), (1, .int x1), (2, .int x2), (3, .int x3), (4, .int x4)] → out = cs_lostMoney_lp k σ n x4 x1 x2 x3 → W p l e (fw_rm 0) s m args below meth c H locs 0 0 (MQ below (va_Qi (fun r u => (r, u) = (out, σ)) (fun u t => fw_O fw_cl csh cV fw_tys X u t) (fw_A cV X)) args s 0 0 (fw_A cV X)) (F0 m 9 ls []) := by
  have hA : ∀ t, cV t → fw_A cV X (X.2.2 t) := fun t h => ⟨t, h, rfl⟩
  have htb := tb_use hts
  intro n
  induction n with
  | zero =>
    intro x4 x1 x2 x3 j hj h1 h2
    exact absurd h2 (by omega)
  | succ n ih =>
    intro x4 x1 x2 x3 j hj hj1 hj2 H locs hW hS ls hl he
    rw [cs_lostMoney_lp] at he
    refine lv_iload hx hb dA_lostMoney_9 (lv_at hl 4 rfl) ?_
    refine lv_sipush (v := 512) hx hb dA_lostMoney_11 (by decide) ?_
    refine lv_icmp_gt (tgt := 64) hx hb dA_lostMoney_14 (by decide) (fun c1 => ?_) (fun c1 => ?_)
    · rw [if_pos c1] at he
      refine lv_iload_n hx hb dA_lostMoney_64 rfl (lv_at hl 1 rfl) ?_
      exact fw_iret hx hb hr hlocks hK hnb hW hS (by rw [he]) dA_lostMoney_65
    · rw [if_neg c1] at he
      have hlt : j < 513 := lp_lt2 (B := 512) hj rfl (by decide) hj1 c1
      have hin : vp_in x4 513 := by rw [hj]; exact vp_in_nI hlt (by decide)
      refine lv_aload_n hx hb dA_lostMoney_17 rfl (lv_at hl 0 rfl) ?_
      refine fw_get (X := X) (v := .ref (X.2.2 (15, k, 0))) hx hb hts hin_A hown hK hW (11, k, 0) (cve11 hk) rfl rfl 0 (by decide) (htb _ m_96 rfl) (fun _ h => h) rfl rfl dA_lostMoney_18 ?_
      refine lv_iload hx hb dA_lostMoney_21 (lv_at hl 4 rfl) ?_
      refine fw_zald (X := X) hx hb hK hW (15, k, 0) (cvs15 (cve11 hk)) rfl 5 rfl x4.toNatClampNeg rfl hin dA_lostMoney_23 ?_
      refine lv_if_eq (tgt := 58) hx hb dA_lostMoney_24 (by decide) (fun c2 => ?_) (fun c2 => ?_)
      · rw [if_pos c2] at he
        refine lv_iinc (v := x4 + 1) (lv' := [(4, .int (x4 + 1)), (0, .ref (X.2.2 (11, k, 0))), (1, .int x1), (2, .int x2), (3, .int x3)]) hx hb dA_lostMoney_58 hl (k := 4) rfl (by rfl) (by decide) rfl (fun ls hl => ?_)
        refine lv_goto (tgt := 9) hx hb dA_lostMoney_61 (by decide) ?_
        exact ih (x4 + 1) x1 x2 x3 (j + 1) (by rw [hj]; exact nI_1 j) hlt (by omega) _ _ hW hS ls (lv_sub hl [1, 2, 3, 4, 0] rfl) he
      · rw [if_neg c2] at he
        refine lv_iload hx hb dA_lostMoney_27 (lv_at hl 4 rfl) ?_
        refine lv_iload_n hx hb dA_lostMoney_29 rfl (lv_at hl 2 rfl) ?_
        refine lv_iconst (v := 1) hx hb dA_lostMoney_30 (by decide) ?_
        refine lv_iadd hx hb dA_lostMoney_31 ?_
        refine lv_icmp_eq (tgt := 47) hx hb dA_lostMoney_32 (by decide) (fun c3 => ?_) (fun c3 => ?_)
        · rw [if_pos c3] at he
          refine lv_iload hx hb dA_lostMoney_47 (lv_at hl 4 rfl) ?_
          refine lv_istore_n (lv' := [(2, .int x4), (0, .ref (X.2.2 (11, k, 0))), (1, .int x1), (3, .int x3), (4, .int x4)]) hx hb dA_lostMoney_49 rfl hl (by decide) rfl (fun ls hl => ?_)
          refine lv_aload_n hx hb dA_lostMoney_50 rfl (lv_at hl 1 rfl) ?_
          refine fw_get (X := X) (v := .ref (X.2.2 (17, k, 0))) hx hb hts hin_A hown hK hW (11, k, 0) (cve11 hk) rfl rfl 2 (by decide) (htb _ m_98 rfl) (fun _ h => h) rfl rfl dA_lostMoney_51 ?_
          refine lv_iload hx hb dA_lostMoney_54 (lv_at hl 4 rfl) ?_
          refine fw_iald (X := X) hx hb hK hW (17, k, 0) (cvs17 (cve11 hk)) rfl 0 rfl x4.toNatClampNeg rfl hin dA_lostMoney_56 ?_
          refine lv_topi (fun z4 e5 => ?_)
          try rw [← e5] at he
          unfold cs_lostMoney_s1 at he
          refine lv_istore_n (lv' := [(3, .int z4), (2, .int x4), (0, .ref (X.2.2 (11, k, 0))), (1, .int x1), (4, .int x4)]) hx hb dA_lostMoney_57 rfl hl (by decide) rfl (fun ls hl => ?_)
          refine lv_iinc (v := x4 + 1) (lv' := [(4, .int (x4 + 1)), (3, .int z4), (2, .int x4), (0, .ref (X.2.2 (11, k, 0))), (1, .int x1)]) hx hb dA_lostMoney_58 hl (k := 4) rfl (by rfl) (by decide) rfl (fun ls hl => ?_)
          refine lv_goto (tgt := 9) hx hb dA_lostMoney_61 (by decide) ?_
          exact ih (x4 + 1) x1 x4 z4 (j + 1) (by rw [hj]; exact nI_1 j) hlt (by omega) _ _ hW hS ls (lv_sub hl [3, 4, 2, 1, 0] rfl) he
        · rw [if_neg c3] at he
          refine lv_iload_n hx hb dA_lostMoney_35 rfl (lv_at hl 1 rfl) ?_
          refine lv_iload_n hx hb dA_lostMoney_36 rfl (lv_at hl 3 rfl) ?_
          refine lv_aload_n hx hb dA_lostMoney_37 rfl (lv_at hl 0 rfl) ?_
          refine fw_get (X := X) (v := .ref (X.2.2 (16, k, 0))) hx hb hts hin_A hown hK hW (11, k, 0) (cve11 hk) rfl rfl 1 (by decide) (htb _ m_97 rfl) (fun _ h => h) rfl rfl dA_lostMoney_38 ?_
          refine lv_iload hx hb dA_lostMoney_41 (lv_at hl 4 rfl) ?_
          refine fw_iald (X := X) hx hb hK hW (16, k, 0) (cvs16 (cve11 hk)) rfl 0 rfl x4.toNatClampNeg rfl hin dA_lostMoney_43 ?_
          refine lv_isub hx hb dA_lostMoney_44 ?_
          refine lv_iadd hx hb dA_lostMoney_45 ?_
          refine lv_topi (fun z6 e7 => ?_)
          try rw [← e7] at he
          unfold cs_lostMoney_s2 at he
          refine lv_istore_n (lv' := [(1, .int z6), (0, .ref (X.2.2 (11, k, 0))), (2, .int x2), (3, .int x3), (4, .int x4)]) hx hb dA_lostMoney_46 rfl hl (by decide) rfl (fun ls hl => ?_)
          refine lv_iload hx hb dA_lostMoney_47 (lv_at hl 4 rfl) ?_
          refine lv_istore_n (lv' := [(2, .int x4), (1, .int z6), (0, .ref (X.2.2 (11, k, 0))), (3, .int x3), (4, .int x4)]) hx hb dA_lostMoney_49 rfl hl (by decide) rfl (fun ls hl => ?_)
          refine lv_aload_n hx hb dA_lostMoney_50 rfl (lv_at hl 2 rfl) ?_
          refine fw_get (X := X) (v := .ref (X.2.2 (17, k, 0))) hx hb hts hin_A hown hK hW (11, k, 0) (cve11 hk) rfl rfl 2 (by decide) (htb _ m_98 rfl) (fun _ h => h) rfl rfl dA_lostMoney_51 ?_
          refine lv_iload hx hb dA_lostMoney_54 (lv_at hl 4 rfl) ?_
          refine fw_iald (X := X) hx hb hK hW (17, k, 0) (cvs17 (cve11 hk)) rfl 0 rfl x4.toNatClampNeg rfl hin dA_lostMoney_56 ?_
          refine lv_topi (fun z8 e9 => ?_)
          try rw [← e9] at he
          unfold cs_lostMoney_s3 at he
          refine lv_istore_n (lv' := [(3, .int z8), (2, .int x4), (1, .int z6), (0, .ref (X.2.2 (11, k, 0))), (4, .int x4)]) hx hb dA_lostMoney_57 rfl hl (by decide) rfl (fun ls hl => ?_)
          refine lv_iinc (v := x4 + 1) (lv' := [(4, .int (x4 + 1)), (3, .int z8), (2, .int x4), (1, .int z6), (0, .ref (X.2.2 (11, k, 0)))]) hx hb dA_lostMoney_58 hl (k := 4) rfl (by rfl) (by decide) rfl (fun ls hl => ?_)
          refine lv_goto (tgt := 9) hx hb dA_lostMoney_61 (by decide) ?_
          exact ih (x4 + 1) z6 x4 z8 (j + 1) (by rw [hj]; exact nI_1 j) hlt (by omega) _ _ hW hS ls (lv_sub hl [4, 3, 2, 1, 0] rfl) he
set_option maxHeartbeats 4000000 in
set_option maxRecDepth 100000 in
theorem c_lostMoney (l : Launch) (X : fw_X) (hI : fw_I cV X) (σ : fw_S) (k : Nat) (hk : k < 4)  : fw_Mi fw_cl csh cV fw_tys l yA_lostMoney wA_lostMoney (fw_rm 0) X σ [.ref (X.2.2 (11, k, 0))] ((cs_lostMoney σ k, σ)) := by
  obtain ⟨out, he⟩ : ∃ z : Int32, z = cs_lostMoney σ k := ⟨_, rfl⟩
  rw [← he]
  refine fw_Mi_of (cc := bA_lostMoney) (maxL := 5) (ret := (some .int)) (by decide) rfl (Nat.le_of_ble_eq_true rfl) ?_
  intro p e s m below meth c ls hx hb hr hml hlocks hown hts hK hnb hW hl
  have hS : va_S (fw_A cV X) s.heap s.heap [] := va_S.rf
  have hA : ∀ t, cV t → fw_A cV X (X.2.2 t) := fun t h => ⟨t, h, rfl⟩
  have htb := tb_use hts
  have hl : lv_has ls 5 [(0, .ref (X.2.2 (11, k, 0)))] := hl
  have hown : s.vm.findClass "TapOffice$Account" = some m.cls := hown
  unfold cs_lostMoney at he
  refine lv_iconst (v := 0) hx hb dA_lostMoney_0 (by decide) ?_
  refine lv_istore_n (lv' := [(1, .int 0), (0, .ref (X.2.2 (11, k, 0)))]) hx hb dA_lostMoney_1 rfl hl (by decide) rfl (fun ls hl => ?_)
  refine lv_iconst (v := 0) hx hb dA_lostMoney_2 (by decide) ?_
  refine lv_istore_n (lv' := [(2, .int 0), (1, .int 0), (0, .ref (X.2.2 (11, k, 0)))]) hx hb dA_lostMoney_3 rfl hl (by decide) rfl (fun ls hl => ?_)
  refine lv_iconst (v := 0) hx hb dA_lostMoney_4 (by decide) ?_
  refine lv_istore_n (lv' := [(3, .int 0), (2, .int 0), (1, .int 0), (0, .ref (X.2.2 (11, k, 0)))]) hx hb dA_lostMoney_5 rfl hl (by decide) rfl (fun ls hl => ?_)
  refine lv_iconst (v := 1) hx hb dA_lostMoney_6 (by decide) ?_
  refine lv_istore (lv' := [(4, .int 1), (3, .int 0), (2, .int 0), (1, .int 0), (0, .ref (X.2.2 (11, k, 0)))]) hx hb dA_lostMoney_7 hl (by decide) rfl (fun ls hl => ?_)
  exact c_lostMoney_lp l X hI σ k hk   out hx hb hr hml hlocks hown hts hK hnb (513 + 1) 1 0 0 0 1 rfl (by decide) (by decide) _ _ hW hS ls (lv_sub hl [4, 3, 2, 1, 0] rfl) he

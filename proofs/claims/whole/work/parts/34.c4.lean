theorem up_lt {x z : Int32} {j : Nat} (hj : x = nI j) (hj1 : j ≤ 8) (hq : z ≤ 8) (c : ¬ z ≤ x) : j < 8 := by
  have h1 := Int32.lt_iff_toInt_lt.mp (Int32.not_le.mp c)
  have h2 := Int32.le_iff_toInt_le.mp hq
  have e1 : (8 : Int32).toInt = 8 := by decide
  rw [hj, nI_toInt (by omega)] at h1
  omega
theorem lg_in {σ : fw_S} {v : Nat} {x : Int32} (h8 : σ (12, v, 0) 1 ≤ 8) (h : ¬ cs_isBelow x (cs_logSize σ v) = 0) : vp_in x 8 := by
  unfold cs_isBelow at h
  by_cases h1 : x < 0
  · rw [if_pos h1] at h
    exact absurd rfl h
  · rw [if_neg h1] at h
    by_cases h2 : cs_logSize σ v ≤ x
    · rw [if_pos h2] at h
      exact absurd rfl h
    · have h3 := Int32.lt_iff_toInt_lt.mp (Int32.not_le.mp h2)
      have h4 : (cs_logSize σ v).toInt ≤ (8 : Int32).toInt := Int32.le_iff_toInt_le.mp h8
      have e1 : (8 : Int32).toInt = 8 := by decide
      refine vi_of ?_ (by omega)
      have := Int32.le_iff_toInt_le.mp (Int32.not_lt.mp h1)
      simpa using this
theorem sw_out4 {x : Int32} (h0 : ¬ x = 0) (h1 : ¬ x = 1) (h2 : ¬ x = 2) (h3 : ¬ x = 3) : x.toInt < 0 ∨ 3 < x.toInt := by
  have e0 := lv_neT h0 (a := 0) (by decide)
  have e1 := lv_neT h1 (a := 1) (by decide)
  have e2 := lv_neT h2 (a := 2) (by decide)
  have e3 := lv_neT h3 (a := 3) (by decide)
  omega
theorem sw_out6 {x : Int32} (h0 : ¬ x = 0) (h1 : ¬ x = 1) (h2 : ¬ x = 2) (h3 : ¬ x = 3) (h4 : ¬ x = 4) (h5 : ¬ x = 5) : x.toInt < 0 ∨ 5 < x.toInt := by
  have e4 := lv_neT h4 (a := 4) (by decide)
  have e5 := lv_neT h5 (a := 5) (by decide)
  rcases sw_out4 h0 h1 h2 h3 with h | h
  · exact Or.inl h
  · exact Or.inr (by omega)
theorem sw_out8 {x : Int32} (h0 : ¬ x = 0) (h1 : ¬ x = 1) (h2 : ¬ x = 2) (h3 : ¬ x = 3) (h4 : ¬ x = 4) (h5 : ¬ x = 5) (h6 : ¬ x = 6) (h7 : ¬ x = 7) : x.toInt < 0 ∨ 7 < x.toInt := by
  have e6 := lv_neT h6 (a := 6) (by decide)
  have e7 := lv_neT h7 (a := 7) (by decide)
  rcases sw_out6 h0 h1 h2 h3 h4 h5 with h | h
  · exact Or.inl h
  · exact Or.inr (by omega)
def cs_most (k : Nat) : Int32 := match k with
  | 0 => 1440
  | 1 => 1440
  | 2 => 200
  | 3 => 9999
  | _ => 999
/-- the class's own table of the greatest values, as the Statement gives it -/
def cs_exS (X : fw_X) (tb : Nat) (U : State) : Prop := va_Z "TapOffice" "MOST_SETTINGS" "[I" (.ref tb) (fw_A cV X) U U.heap ∧ va_T .int tb 5 (fun j => .int (cs_most j)) (fw_A cV X) U U.heap
def cs_bitCount_s5 (z9 : Int32) : Int32 :=
  (z9 &&& 63)
def cs_bitCount_s4 (z7 : Int32) : Int32 :=
  cs_bitCount_s5 (z7 + (((z7 : Int32).toUInt32 >>> ((16 : Int32).toUInt32 &&& Int32.toUInt32 31)).toInt32))
def cs_bitCount_s3 (z5 : Int32) : Int32 :=
  cs_bitCount_s4 (z5 + (((z5 : Int32).toUInt32 >>> ((8 : Int32).toUInt32 &&& Int32.toUInt32 31)).toInt32))
def cs_bitCount_s2 (z3 : Int32) : Int32 :=
  cs_bitCount_s3 ((z3 + (((z3 : Int32).toUInt32 >>> ((4 : Int32).toUInt32 &&& Int32.toUInt32 31)).toInt32)) &&& 252645135)
def cs_bitCount_s1 (z1 : Int32) : Int32 :=
  cs_bitCount_s2 ((z1 &&& 858993459) + ((((z1 : Int32).toUInt32 >>> ((2 : Int32).toUInt32 &&& Int32.toUInt32 31)).toInt32) &&& 858993459))
def cs_bitCount (a1 : Int32) : Int32 :=
  cs_bitCount_s1 (a1 - ((((a1 : Int32).toUInt32 >>> ((1 : Int32).toUInt32 &&& Int32.toUInt32 31)).toInt32) &&& 1431655765))
set_option maxHeartbeats 4000000 in
set_option maxRecDepth 100000 in
theorem c_bitCount (l : Launch) (X : fw_X) (hI : fw_I cV X) (σ : fw_S) (a1 : Int32)  : fw_Mi fw_cl csh cV fw_tys l yI_bitCount wI_bitCount (fw_rm 0) X σ [.int a1] ((cs_bitCount a1, σ)) := by
  obtain ⟨out, he⟩ : ∃ z : Int32, z = cs_bitCount a1 := ⟨_, rfl⟩
  rw [← he]
  refine fw_Mi_of (cc := bI_bitCount) (maxL := 1) (ret := (some .int)) (by decide) rfl (Nat.le_of_ble_eq_true rfl) ?_
  intro p e s m below meth c ls hx hb hr hml hlocks hown hts hK hnb hW hl
  have hS : va_S (fw_A cV X) s.heap s.heap [] := va_S.rf
  have hA : ∀ t, cV t → fw_A cV X (X.2.2 t) := fun t h => ⟨t, h, rfl⟩
  have htb := tb_use hts
  have hl : lv_has ls 1 [(0, .int a1)] := hl
  have hown : s.vm.findClass "java/lang/Integer" = some m.cls := hown
  unfold cs_bitCount at he
  refine lv_iload_n hx hb dI_bitCount_0 rfl (lv_at hl 0 rfl) ?_
  refine lv_iload_n hx hb dI_bitCount_1 rfl (lv_at hl 0 rfl) ?_
  refine lv_iconst (v := 1) hx hb dI_bitCount_2 (by decide) ?_
  refine lv_iushr (v := ((a1 : Int32).toUInt32 >>> ((1 : Int32).toUInt32 &&& Int32.toUInt32 31)).toInt32) hx hb dI_bitCount_3 rfl ?_
  refine lv_ldcw (v := 1431655765) hx hb hown (htb _ m_403 rfl) dI_bitCount_4 ?_
  refine lv_iand hx hb dI_bitCount_7 ?_
  refine lv_isub hx hb dI_bitCount_8 ?_
  refine lv_topi (fun z1 e2 => ?_)
  try rw [← e2] at he
  unfold cs_bitCount_s1 at he
  refine lv_istore_n (lv' := [(0, .int z1)]) hx hb dI_bitCount_9 rfl hl (by decide) rfl (fun ls hl => ?_)
  refine lv_iload_n hx hb dI_bitCount_10 rfl (lv_at hl 0 rfl) ?_
  refine lv_ldcw (v := 858993459) hx hb hown (htb _ m_404 rfl) dI_bitCount_11 ?_
  refine lv_iand hx hb dI_bitCount_14 ?_
  refine lv_iload_n hx hb dI_bitCount_15 rfl (lv_at hl 0 rfl) ?_
  refine lv_iconst (v := 2) hx hb dI_bitCount_16 (by decide) ?_
  refine lv_iushr (v := ((z1 : Int32).toUInt32 >>> ((2 : Int32).toUInt32 &&& Int32.toUInt32 31)).toInt32) hx hb dI_bitCount_17 rfl ?_
  refine lv_ldcw (v := 858993459) hx hb hown (htb _ m_404 rfl) dI_bitCount_18 ?_
  refine lv_iand hx hb dI_bitCount_21 ?_
  refine lv_iadd hx hb dI_bitCount_22 ?_
  refine lv_topi (fun z3 e4 => ?_)
  try rw [← e4] at he
  unfold cs_bitCount_s2 at he
  refine lv_istore_n (lv' := [(0, .int z3)]) hx hb dI_bitCount_23 rfl hl (by decide) rfl (fun ls hl => ?_)
  refine lv_iload_n hx hb dI_bitCount_24 rfl (lv_at hl 0 rfl) ?_
  refine lv_iload_n hx hb dI_bitCount_25 rfl (lv_at hl 0 rfl) ?_
  refine lv_iconst (v := 4) hx hb dI_bitCount_26 (by decide) ?_
  refine lv_iushr (v := ((z3 : Int32).toUInt32 >>> ((4 : Int32).toUInt32 &&& Int32.toUInt32 31)).toInt32) hx hb dI_bitCount_27 rfl ?_
  refine lv_iadd hx hb dI_bitCount_28 ?_
  refine lv_ldcw (v := 252645135) hx hb hown (htb _ m_405 rfl) dI_bitCount_29 ?_
  refine lv_iand hx hb dI_bitCount_32 ?_
  refine lv_topi (fun z5 e6 => ?_)
  try rw [← e6] at he
  unfold cs_bitCount_s3 at he
  refine lv_istore_n (lv' := [(0, .int z5)]) hx hb dI_bitCount_33 rfl hl (by decide) rfl (fun ls hl => ?_)
  refine lv_iload_n hx hb dI_bitCount_34 rfl (lv_at hl 0 rfl) ?_
  refine lv_iload_n hx hb dI_bitCount_35 rfl (lv_at hl 0 rfl) ?_
  refine lv_bipush (v := 8) hx hb dI_bitCount_36 (by decide) ?_
  refine lv_iushr (v := ((z5 : Int32).toUInt32 >>> ((8 : Int32).toUInt32 &&& Int32.toUInt32 31)).toInt32) hx hb dI_bitCount_38 rfl ?_
  refine lv_iadd hx hb dI_bitCount_39 ?_
  refine lv_topi (fun z7 e8 => ?_)
  try rw [← e8] at he
  unfold cs_bitCount_s4 at he
  refine lv_istore_n (lv' := [(0, .int z7)]) hx hb dI_bitCount_40 rfl hl (by decide) rfl (fun ls hl => ?_)
  refine lv_iload_n hx hb dI_bitCount_41 rfl (lv_at hl 0 rfl) ?_
  refine lv_iload_n hx hb dI_bitCount_42 rfl (lv_at hl 0 rfl) ?_
  refine lv_bipush (v := 16) hx hb dI_bitCount_43 (by decide) ?_
  refine lv_iushr (v := ((z7 : Int32).toUInt32 >>> ((16 : Int32).toUInt32 &&& Int32.toUInt32 31)).toInt32) hx hb dI_bitCount_45 rfl ?_
  refine lv_iadd hx hb dI_bitCount_46 ?_
  refine lv_topi (fun z9 e10 => ?_)
  try rw [← e10] at he
  unfold cs_bitCount_s5 at he
  refine lv_istore_n (lv' := [(0, .int z9)]) hx hb dI_bitCount_47 rfl hl (by decide) rfl (fun ls hl => ?_)
  refine lv_iload_n hx hb dI_bitCount_48 rfl (lv_at hl 0 rfl) ?_
  refine lv_bipush (v := 63) hx hb dI_bitCount_49 (by decide) ?_
  refine lv_iand hx hb dI_bitCount_51 ?_
  exact fw_iret hx hb hr hlocks hK hnb hW hS (by rw [he]) dI_bitCount_52
def cs_fare_s1 (σ5 : fw_S) : Int32 × fw_S :=
  (0, σ5)
def cs_fare (σ : fw_S) (a1 : Int32) (a2 : Int32) (a3 : Int32) : Int32 × fw_S :=
  if (cs_isBelow a1 6) = 0 then ((-1), σ) else if (cs_isBelow a2 6) = 0 then ((-1), σ) else if a3 < 0 then ((-1), σ) else if a3 ≤ 999 then cs_fare_s1 (cs_putFare σ a1 a2 a3) else ((-1), σ)
set_option maxHeartbeats 4000000 in
set_option maxRecDepth 100000 in
theorem c_fare (l : Launch) (X : fw_X) (hI : fw_I cV X) (σ : fw_S) (a1 a2 a3 : Int32)  : fw_Mi fw_cl csh cV fw_tys l yO_fare wO_fare (fw_rm 2) X σ [.ref (X.2.2 (0, 0, 0)), .int a1, .int a2, .int a3] (cs_fare σ a1 a2 a3) := by
  obtain ⟨out, he⟩ : ∃ z : Int32 × fw_S, z = cs_fare σ a1 a2 a3 := ⟨_, rfl⟩
  rw [← he]
  refine fw_Mi_of (cc := bO_fare) (maxL := 4) (ret := (some .int)) (by decide) rfl (Nat.le_of_ble_eq_true rfl) ?_
  intro p e s m below meth c ls hx hb hr hml hlocks hown hts hK hnb hW hl
  have hS : va_S (fw_A cV X) s.heap s.heap [] := va_S.rf
  have hA : ∀ t, cV t → fw_A cV X (X.2.2 t) := fun t h => ⟨t, h, rfl⟩
  have htb := tb_use hts
  have hl : lv_has ls 4 [(0, .ref (X.2.2 (0, 0, 0))), (1, .int a1), (2, .int a2), (3, .int a3)] := hl
  have hown : s.vm.findClass "TapOffice" = some m.cls := hown
  unfold cs_fare at he
  refine lv_iload_n hx hb dO_fare_0 rfl (lv_at hl 1 rfl) ?_
  refine lv_bipush (v := 6) hx hb dO_fare_1 (by decide) ?_
  refine fw_kp (va_runS (As := [.int a1, .int 6]) (rest := []) ⟨hx, hb, hml, hown, hts⟩ (c_isBelow l X hI σ a1 6 ) (va_cwS 2 hts (tb_S m_172 m_170 m_171 m_25) rfl rfl rfl (by decide +kernel) ⟨Nat.le_of_ble_eq_true rfl, Nat.le_of_ble_eq_true rfl⟩) (fw_preS (X := X) hK hnb hW [.int a1, .int 6]) rfl rfl hl.1 rfl (lv_room (Nat.le_of_ble_eq_true rfl)) dO_fare_3 ⟨Nat.zero_le _, Nat.zero_le _⟩) hS (fun H locs hW hS => ?_)
  refine lv_if_eq (tgt := 29) hx hb dO_fare_6 (by decide) (fun c1 => ?_) (fun c1 => ?_)
  · rw [if_pos c1] at he
    refine lv_iconst (v := (-1)) hx hb dO_fare_29 (by decide) ?_
    exact fw_iret hx hb hr hlocks hK hnb hW hS he dO_fare_30
  · rw [if_neg c1] at he
    refine lv_iload_n hx hb dO_fare_9 rfl (lv_at hl 2 rfl) ?_
    refine lv_bipush (v := 6) hx hb dO_fare_10 (by decide) ?_
    refine fw_kp (va_runS (As := [.int a2, .int 6]) (rest := []) ⟨hx, hb, hml, hown, hts⟩ (c_isBelow l X hI σ a2 6 ) (va_cwS 2 hts (tb_S m_172 m_170 m_171 m_25) rfl rfl rfl (by decide +kernel) ⟨Nat.le_of_ble_eq_true rfl, Nat.le_of_ble_eq_true rfl⟩) (fw_preS (X := X) hK hnb hW [.int a2, .int 6]) rfl rfl hl.1 rfl (lv_room (Nat.le_of_ble_eq_true rfl)) dO_fare_12 ⟨Nat.zero_le _, Nat.zero_le _⟩) hS (fun H locs hW hS => ?_)
    refine lv_if_eq (tgt := 29) hx hb dO_fare_15 (by decide) (fun c2 => ?_) (fun c2 => ?_)
    · rw [if_pos c2] at he
      refine lv_iconst (v := (-1)) hx hb dO_fare_29 (by decide) ?_
      exact fw_iret hx hb hr hlocks hK hnb hW hS he dO_fare_30
    · rw [if_neg c2] at he
      refine lv_iload_n hx hb dO_fare_18 rfl (lv_at hl 3 rfl) ?_
      refine lv_if_lt (tgt := 29) hx hb dO_fare_19 (by decide) (fun c3 => ?_) (fun c3 => ?_)
      · rw [if_pos c3] at he
        refine lv_iconst (v := (-1)) hx hb dO_fare_29 (by decide) ?_
        exact fw_iret hx hb hr hlocks hK hnb hW hS he dO_fare_30
      · rw [if_neg c3] at he
        refine lv_iload_n hx hb dO_fare_22 rfl (lv_at hl 3 rfl) ?_
        refine lv_sipush (v := 999) hx hb dO_fare_23 (by decide) ?_
        refine lv_icmp_le (tgt := 31) hx hb dO_fare_26 (by decide) (fun c4 => ?_) (fun c4 => ?_)
        · rw [if_pos c4] at he
          refine lv_aload_n hx hb dO_fare_31 rfl (lv_at hl 0 rfl) ?_
          refine fw_get (X := X) (v := .ref (X.2.2 (1, 0, 0))) hx hb hts hin_O hown hK hW (0, 0, 0) cv0 rfl rfl 0 (by decide) (htb _ m_141 rfl) (fun _ h => h) rfl rfl dO_fare_32 ?_
          refine lv_iload_n hx hb dO_fare_35 rfl (lv_at hl 1 rfl) ?_
          refine lv_iload_n hx hb dO_fare_36 rfl (lv_at hl 2 rfl) ?_
          refine lv_iload_n hx hb dO_fare_37 rfl (lv_at hl 3 rfl) ?_
          refine fw_kv (va_runV (As := [.int a1, .int a2, .int a3]) (rest := []) ⟨hx, hb, hml, hown, hts⟩ (c_putFare l X hI σ a1 a2 a3 ((ib_in ‹¬ cs_isBelow a1 6 = 0›)) ((ib_in ‹¬ cs_isBelow a2 6 = 0›))) (cwV 3 hts (tb_V m_176 m_173 m_174 m_175 m_26) rfl rfl rfl (by decide +kernel) ⟨Nat.le_of_ble_eq_true rfl, Nat.le_of_ble_eq_true rfl⟩) (fw_preV (X := X) hK hnb hW (1, 0, 0) cv1 rfl rfl [.int a1, .int a2, .int a3]) rfl rfl hl.1 rfl (lv_room (Nat.le_of_ble_eq_true rfl)) dO_fare_38 ⟨Nat.zero_le _, Nat.zero_le _⟩) hS (fun H locs hW hS => ?_)
          obtain ⟨σ5, e6⟩ : ∃ z : fw_S, z = cs_putFare σ a1 a2 a3 := ⟨_, rfl⟩
          rw [← e6] at hW
          try rw [← e6] at he
          unfold cs_fare_s1 at he
          refine lv_iconst (v := 0) hx hb dO_fare_41 (by decide) ?_
          exact fw_iret hx hb hr hlocks hK hnb hW hS he dO_fare_42
        · rw [if_neg c4] at he
          refine lv_iconst (v := (-1)) hx hb dO_fare_29 (by decide) ?_
          exact fw_iret hx hb hr hlocks hK hnb hW hS he dO_fare_30
def cs_set_s1 (σ4 : fw_S) : Int32 × fw_S :=
  (0, σ4)
def cs_set (σ : fw_S) (a1 : Int32) (a2 : Int32) : Int32 × fw_S :=
  if (cs_isBelow a1 5) = 0 then ((-1), σ) else if a2 < 0 then ((-1), σ) else if a2 ≤ (cs_most a1.toNatClampNeg) then cs_set_s1 (cs_putSetting σ a1 a2) else ((-1), σ)
set_option maxHeartbeats 4000000 in
set_option maxRecDepth 100000 in
theorem c_set (l : Launch) (X : fw_X) (hI : fw_I cV X) (σ : fw_S) (a1 a2 : Int32) (tb : Nat) : fw_MiE fw_cl csh cV fw_tys (cs_exS X tb) l yO_set wO_set (fw_rm 1) X σ [.ref (X.2.2 (0, 0, 0)), .int a1, .int a2] (cs_set σ a1 a2) := by
  obtain ⟨out, he⟩ : ∃ z : Int32 × fw_S, z = cs_set σ a1 a2 := ⟨_, rfl⟩
  rw [← he]
  refine fw_MiE_of (cc := bO_set) (maxL := 3) (ret := (some .int)) (by decide) rfl (Nat.le_of_ble_eq_true rfl) ?_
  intro p e s m below meth c ls hx hb hr hml hlocks hown hts hK hnb hW hE hl
  have hS : va_S (fw_A cV X) s.heap s.heap [] := va_S.rf
  have hA : ∀ t, cV t → fw_A cV X (X.2.2 t) := fun t h => ⟨t, h, rfl⟩
  have htb := tb_use hts
  have hl : lv_has ls 3 [(0, .ref (X.2.2 (0, 0, 0))), (1, .int a1), (2, .int a2)] := hl
  have hown : s.vm.findClass "TapOffice" = some m.cls := hown
  unfold cs_set at he
  refine lv_iload_n hx hb dO_set_0 rfl (lv_at hl 1 rfl) ?_
  refine lv_iconst (v := 5) hx hb dO_set_1 (by decide) ?_
  refine fw_kp (va_runS (As := [.int a1, .int 5]) (rest := []) ⟨hx, hb, hml, hown, hts⟩ (c_isBelow l X hI σ a1 5 ) (va_cwS 2 hts (tb_S m_172 m_170 m_171 m_25) rfl rfl rfl (by decide +kernel) ⟨Nat.le_of_ble_eq_true rfl, Nat.le_of_ble_eq_true rfl⟩) (fw_preS (X := X) hK hnb hW [.int a1, .int 5]) rfl rfl hl.1 rfl (lv_room (Nat.le_of_ble_eq_true rfl)) dO_set_2 ⟨Nat.zero_le _, Nat.zero_le _⟩) hS (fun H locs hW hS => ?_)
  refine lv_if_eq (tgt := 21) hx hb dO_set_5 (by decide) (fun c1 => ?_) (fun c1 => ?_)
  · rw [if_pos c1] at he
    refine lv_iconst (v := (-1)) hx hb dO_set_21 (by decide) ?_
    exact fw_iret hx hb hr hlocks hK hnb hW hS he dO_set_22
  · rw [if_neg c1] at he
    refine lv_iload_n hx hb dO_set_8 rfl (lv_at hl 2 rfl) ?_
    refine lv_if_lt (tgt := 21) hx hb dO_set_9 (by decide) (fun c2 => ?_) (fun c2 => ?_)
    · rw [if_pos c2] at he
      refine lv_iconst (v := (-1)) hx hb dO_set_21 (by decide) ?_
      exact fw_iret hx hb hr hlocks hK hnb hW hS he dO_set_22
    · rw [if_neg c2] at he
      refine lv_iload_n hx hb dO_set_12 rfl (lv_at hl 2 rfl) ?_
      refine va_gets (v := .ref tb) hx hb hE.1 hS hown (htb _ m_181 rfl) (fun _ h => h) dO_set_13 ?_
      refine lv_iload_n hx hb dO_set_16 rfl (lv_at hl 1 rfl) ?_
      refine va_ti (v := .int (cs_most a1.toNatClampNeg)) hx hb hE.2 hS (ib_in ‹¬ cs_isBelow a1 5 = 0›) rfl dO_set_17 ?_
      refine lv_icmp_le (tgt := 23) hx hb dO_set_18 (by decide) (fun c3 => ?_) (fun c3 => ?_)
      · rw [if_pos c3] at he
        refine lv_aload_n hx hb dO_set_23 rfl (lv_at hl 0 rfl) ?_
        refine fw_get (X := X) (v := .ref (X.2.2 (1, 0, 0))) hx hb hts hin_O hown hK hW (0, 0, 0) cv0 rfl rfl 0 (by decide) (htb _ m_141 rfl) (fun _ h => h) rfl rfl dO_set_24 ?_
        refine lv_iload_n hx hb dO_set_27 rfl (lv_at hl 1 rfl) ?_
        refine lv_iload_n hx hb dO_set_28 rfl (lv_at hl 2 rfl) ?_
        refine fw_kv (va_runV (As := [.int a1, .int a2]) (rest := []) ⟨hx, hb, hml, hown, hts⟩ (c_putSetting l X hI σ a1 a2 ((ib_in ‹¬ cs_isBelow a1 5 = 0›))) (cwV 2 hts (tb_V m_186 m_183 m_184 m_185 m_26) rfl rfl rfl (by decide +kernel) ⟨Nat.le_of_ble_eq_true rfl, Nat.le_of_ble_eq_true rfl⟩) (fw_preV (X := X) hK hnb hW (1, 0, 0) cv1 rfl rfl [.int a1, .int a2]) rfl rfl hl.1 rfl (lv_room (Nat.le_of_ble_eq_true rfl)) dO_set_29 ⟨Nat.zero_le _, Nat.zero_le _⟩) hS (fun H locs hW hS => ?_)
        obtain ⟨σ4, e5⟩ : ∃ z : fw_S, z = cs_putSetting σ a1 a2 := ⟨_, rfl⟩
        rw [← e5] at hW
        try rw [← e5] at he
        unfold cs_set_s1 at he
        refine lv_iconst (v := 0) hx hb dO_set_32 (by decide) ?_
        exact fw_iret hx hb hr hlocks hK hnb hW hS he dO_set_33
      · rw [if_neg c3] at he
        refine lv_iconst (v := (-1)) hx hb dO_set_21 (by decide) ?_
        exact fw_iret hx hb hr hlocks hK hnb hW hS he dO_set_22
def cs_place_s1 (σ4 : fw_S) : Int32 × fw_S :=
  (0, σ4)
def cs_place (σ : fw_S) (a1 : Int32) (a2 : Int32) (a3 : Int32) : Int32 × fw_S :=
  if (cs_isBelow a1 4) = 0 then ((-1), σ) else if (cs_isBelow a2 6) = 0 then ((-1), σ) else cs_place_s1 (cs_moveTo σ a1.toNatClampNeg a2 a3)
set_option maxHeartbeats 4000000 in
set_option maxRecDepth 100000 in
theorem c_place (l : Launch) (X : fw_X) (hI : fw_I cV X) (σ : fw_S) (a1 a2 a3 : Int32) (hz : a3 = 0 ∨ a3 = 1) : fw_Mi fw_cl csh cV fw_tys l yO_place wO_place (fw_rm 2) X σ [.ref (X.2.2 (0, 0, 0)), .int a1, .int a2, .int a3] (cs_place σ a1 a2 a3) := by
  obtain ⟨out, he⟩ : ∃ z : Int32 × fw_S, z = cs_place σ a1 a2 a3 := ⟨_, rfl⟩
  rw [← he]
  refine fw_Mi_of (cc := bO_place) (maxL := 4) (ret := (some .int)) (by decide) rfl (Nat.le_of_ble_eq_true rfl) ?_
  intro p e s m below meth c ls hx hb hr hml hlocks hown hts hK hnb hW hl
  have hS : va_S (fw_A cV X) s.heap s.heap [] := va_S.rf
  have hA : ∀ t, cV t → fw_A cV X (X.2.2 t) := fun t h => ⟨t, h, rfl⟩
  have htb := tb_use hts
  have hl : lv_has ls 4 [(0, .ref (X.2.2 (0, 0, 0))), (1, .int a1), (2, .int a2), (3, .int a3)] := hl
  have hown : s.vm.findClass "TapOffice" = some m.cls := hown
  unfold cs_place at he
  refine lv_iload_n hx hb dO_place_0 rfl (lv_at hl 1 rfl) ?_
  refine lv_iconst (v := 4) hx hb dO_place_1 (by decide) ?_
  refine fw_kp (va_runS (As := [.int a1, .int 4]) (rest := []) ⟨hx, hb, hml, hown, hts⟩ (c_isBelow l X hI σ a1 4 ) (va_cwS 2 hts (tb_S m_172 m_170 m_171 m_25) rfl rfl rfl (by decide +kernel) ⟨Nat.le_of_ble_eq_true rfl, Nat.le_of_ble_eq_true rfl⟩) (fw_preS (X := X) hK hnb hW [.int a1, .int 4]) rfl rfl hl.1 rfl (lv_room (Nat.le_of_ble_eq_true rfl)) dO_place_2 ⟨Nat.zero_le _, Nat.zero_le _⟩) hS (fun H locs hW hS => ?_)
  refine lv_if_eq (tgt := 17) hx hb dO_place_5 (by decide) (fun c1 => ?_) (fun c1 => ?_)
  · rw [if_pos c1] at he
    refine lv_iconst (v := (-1)) hx hb dO_place_17 (by decide) ?_
    exact fw_iret hx hb hr hlocks hK hnb hW hS he dO_place_18
  · rw [if_neg c1] at he
    refine lv_iload_n hx hb dO_place_8 rfl (lv_at hl 2 rfl) ?_
    refine lv_bipush (v := 6) hx hb dO_place_9 (by decide) ?_
    refine fw_kp (va_runS (As := [.int a2, .int 6]) (rest := []) ⟨hx, hb, hml, hown, hts⟩ (c_isBelow l X hI σ a2 6 ) (va_cwS 2 hts (tb_S m_172 m_170 m_171 m_25) rfl rfl rfl (by decide +kernel) ⟨Nat.le_of_ble_eq_true rfl, Nat.le_of_ble_eq_true rfl⟩) (fw_preS (X := X) hK hnb hW [.int a2, .int 6]) rfl rfl hl.1 rfl (lv_room (Nat.le_of_ble_eq_true rfl)) dO_place_11 ⟨Nat.zero_le _, Nat.zero_le _⟩) hS (fun H locs hW hS => ?_)
    refine lv_if_ne (tgt := 19) hx hb dO_place_14 (by decide) (fun c2 => ?_) (fun c2 => ?_)
    · rw [if_neg c2] at he
      refine lv_aload_n hx hb dO_place_19 rfl (lv_at hl 0 rfl) ?_
      refine fw_get (X := X) (v := .ref (X.2.2 (4, 0, 0))) hx hb hts hin_O hown hK hW (0, 0, 0) cv0 rfl rfl 3 (by decide) (htb _ m_144 rfl) (fun _ h => h) rfl rfl dO_place_20 ?_
      refine lv_iload_n hx hb dO_place_23 rfl (lv_at hl 1 rfl) ?_
      refine fw_aald (X := X) hx hb hK hW (4, 0, 0) cv4 rfl 4 rfl rfl a1.toNatClampNeg rfl (12, a1.toNatClampNeg, 0) rfl (ib_in ‹¬ cs_isBelow a1 4 = 0›) dO_place_24 ?_
      have hV3 : cV (12, a1.toNatClampNeg, 0) := (cve12 (vi_lt (ib_in ‹¬ cs_isBelow a1 4 = 0›)))
      refine lv_iload_n hx hb dO_place_25 rfl (lv_at hl 2 rfl) ?_
      refine lv_iload_n hx hb dO_place_26 rfl (lv_at hl 3 rfl) ?_
      refine fw_kv (va_runV (As := [.int a2, .int a3]) (rest := []) ⟨hx, hb, hml, hown, hts⟩ (c_moveTo l X hI σ a1.toNatClampNeg (hV3).1 a2 a3 (hz)) (cwV 2 hts (tb_V m_194 m_191 m_192 m_193 m_30) rfl rfl rfl (by decide +kernel) ⟨Nat.le_of_ble_eq_true rfl, Nat.le_of_ble_eq_true rfl⟩) (fw_preV (X := X) hK hnb hW (12, a1.toNatClampNeg, 0) hV3 rfl rfl [.int a2, .int a3]) rfl rfl hl.1 rfl (lv_room (Nat.le_of_ble_eq_true rfl)) dO_place_27 ⟨Nat.zero_le _, Nat.zero_le _⟩) hS (fun H locs hW hS => ?_)
      obtain ⟨σ4, e5⟩ : ∃ z : fw_S, z = cs_moveTo σ a1.toNatClampNeg a2 a3 := ⟨_, rfl⟩
      rw [← e5] at hW
      try rw [← e5] at he
      unfold cs_place_s1 at he
      refine lv_iconst (v := 0) hx hb dO_place_30 (by decide) ?_
      exact fw_iret hx hb hr hlocks hK hnb hW hS he dO_place_31
    · rw [if_pos c2] at he
      refine lv_iconst (v := (-1)) hx hb dO_place_17 (by decide) ?_
      exact fw_iret hx hb hr hlocks hK hnb hW hS he dO_place_18
def cs_clock_s1 (σ3 : fw_S) : Int32 × fw_S :=
  (σ3 (0, 0, 0) 5, σ3)
def cs_clock (σ : fw_S) (a1 : Int32) : Int32 × fw_S :=
  if a1 < 0 then ((-1), σ) else if a1 ≤ 3000 then cs_clock_s1 (fw_st σ (0, 0, 0) 5 ((σ (0, 0, 0) 5) + a1)) else ((-1), σ)
set_option maxHeartbeats 4000000 in
set_option maxRecDepth 100000 in
theorem c_clock (l : Launch) (X : fw_X) (hI : fw_I cV X) (σ : fw_S) (a1 : Int32)  : fw_Mi fw_cl csh cV fw_tys l yO_clock wO_clock (fw_rm 0) X σ [.ref (X.2.2 (0, 0, 0)), .int a1] (cs_clock σ a1) := by
  obtain ⟨out, he⟩ : ∃ z : Int32 × fw_S, z = cs_clock σ a1 := ⟨_, rfl⟩
  rw [← he]
  refine fw_Mi_of (cc := bO_clock) (maxL := 2) (ret := (some .int)) (by decide) rfl (Nat.le_of_ble_eq_true rfl) ?_
  intro p e s m below meth c ls hx hb hr hml hlocks hown hts hK hnb hW hl
  have hS : va_S (fw_A cV X) s.heap s.heap [] := va_S.rf
  have hA : ∀ t, cV t → fw_A cV X (X.2.2 t) := fun t h => ⟨t, h, rfl⟩
  have htb := tb_use hts
  have hl : lv_has ls 2 [(0, .ref (X.2.2 (0, 0, 0))), (1, .int a1)] := hl
  have hown : s.vm.findClass "TapOffice" = some m.cls := hown
  unfold cs_clock at he
  refine lv_iload_n hx hb dO_clock_0 rfl (lv_at hl 1 rfl) ?_
  refine lv_if_lt (tgt := 11) hx hb dO_clock_1 (by decide) (fun c1 => ?_) (fun c1 => ?_)
  · rw [if_pos c1] at he
    refine lv_iconst (v := (-1)) hx hb dO_clock_11 (by decide) ?_
    exact fw_iret hx hb hr hlocks hK hnb hW hS he dO_clock_12
  · rw [if_neg c1] at he
    refine lv_iload_n hx hb dO_clock_4 rfl (lv_at hl 1 rfl) ?_
    refine lv_sipush (v := 3000) hx hb dO_clock_5 (by decide) ?_
    refine lv_icmp_le (tgt := 13) hx hb dO_clock_8 (by decide) (fun c2 => ?_) (fun c2 => ?_)
    · rw [if_pos c2] at he
      refine lv_aload_n hx hb dO_clock_13 rfl (lv_at hl 0 rfl) ?_
      refine lv_dup hx hb dO_clock_14 rfl ?_
      refine fw_get (X := X) (v := .int (σ (0, 0, 0) 5)) hx hb hts hin_O hown hK hW (0, 0, 0) cv0 rfl rfl 5 (by decide) (htb _ m_146 rfl) (fun _ h => h) rfl rfl dO_clock_15 ?_
      refine lv_iload_n hx hb dO_clock_18 rfl (lv_at hl 1 rfl) ?_
      refine lv_iadd hx hb dO_clock_19 ?_
      refine fw_put (X := X) hx hb hts hin_O ty_O ty_O_ok nm_O hown hK hW hI hA hS (0, 0, 0) cv0 rfl rfl rfl 5 (by decide) (htb _ m_146 rfl) (fun _ h => h) rfl rfl (ty := .int) (by decide +kernel) rfl rfl dO_clock_20 (fun H locs hW hS => ?_)
      obtain ⟨σ3, e4⟩ : ∃ z : fw_S, z = fw_st σ (0, 0, 0) 5 ((σ (0, 0, 0) 5) + a1) := ⟨_, rfl⟩
      rw [← e4] at hW
      try rw [← e4] at he
      unfold cs_clock_s1 at he
      refine lv_aload_n hx hb dO_clock_23 rfl (lv_at hl 0 rfl) ?_
      refine fw_get (X := X) (v := .int (σ3 (0, 0, 0) 5)) hx hb hts hin_O hown hK hW (0, 0, 0) cv0 rfl rfl 5 (by decide) (htb _ m_146 rfl) (fun _ h => h) rfl rfl dO_clock_24 ?_
      exact fw_iret hx hb hr hlocks hK hnb hW hS he dO_clock_27
    · rw [if_neg c2] at he
      refine lv_iconst (v := (-1)) hx hb dO_clock_11 (by decide) ?_
      exact fw_iret hx hb hr hlocks hK hnb hW hS he dO_clock_12
def cs_tap_s8 (r23 : Int32) (σ29 : fw_S) : Int32 × fw_S :=
  (r23, σ29)
def cs_tap_s7 (a1 : Int32) (a2 : Int32) (r23 : Int32) (σ27 : fw_S) : Int32 × fw_S :=
  cs_tap_s8 r23 (cs_keepEntry σ27 a2.toNatClampNeg a1 (cs_counter σ27 a1.toNatClampNeg) r23 (cs_read σ27 a1.toNatClampNeg 0))
def cs_tap_s10 (σ33 : fw_S) : Int32 × fw_S :=
  ((-5), σ33)
def cs_tap_s9 (σ31 : fw_S) : Int32 × fw_S :=
  cs_tap_s10 (fw_st σ31 (0, 0, 0) 7 ((σ31 (0, 0, 0) 7) + 1))
def cs_tap_s6 (a1 : Int32) (a2 : Int32) (a3 : Int32) (r23 : Int32) (σ24 : fw_S) : Int32 × fw_S :=
  if a3 = 0 then cs_tap_s7 a1 a2 r23 (cs_writeDraft σ24 a1.toNatClampNeg 8) else cs_tap_s9 (cs_writeDraft σ24 a1.toNatClampNeg a3)
def cs_tap_s3 (r10 : Int32) (σ16 : fw_S) : Int32 × fw_S :=
  (r10, σ16)
def cs_tap_s2 (a1 : Int32) (a2 : Int32) (r10 : Int32) (σ14 : fw_S) : Int32 × fw_S :=
  cs_tap_s3 r10 (cs_keepEntry σ14 a2.toNatClampNeg a1 (cs_counter σ14 a1.toNatClampNeg) r10 (cs_read σ14 a1.toNatClampNeg 0))
def cs_tap_s5 (σ20 : fw_S) : Int32 × fw_S :=
  ((-5), σ20)
def cs_tap_s4 (σ18 : fw_S) : Int32 × fw_S :=
  cs_tap_s5 (fw_st σ18 (0, 0, 0) 7 ((σ18 (0, 0, 0) 7) + 1))
def cs_tap_s1 (a1 : Int32) (a2 : Int32) (a3 : Int32) (r10 : Int32) (σ11 : fw_S) : Int32 × fw_S :=
  if a3 = 0 then cs_tap_s2 a1 a2 r10 (cs_writeDraft σ11 a1.toNatClampNeg 8) else cs_tap_s4 (cs_writeDraft σ11 a1.toNatClampNeg a3)
def cs_tap (σ : fw_S) (a1 : Int32) (a2 : Int32) (a3 : Int32) : Int32 × fw_S :=
  if (cs_isBelow a1 4) = 0 then ((-1), σ) else if (cs_isBelow a2 4) = 0 then ((-1), σ) else if a3 < 0 then ((-1), σ) else if a3 ≤ 8 then if (cs_isFull σ a2.toNatClampNeg) = 0 then if (cs_denies σ a2.toNatClampNeg a1) = 0 then if (cs_isExit σ a2.toNatClampNeg) = 0 then if (cs_least σ) ≤ (cs_read σ a1.toNatClampNeg 0) then cs_tap_s6 a1 a2 a3 ((cs_draftTap σ a1.toNatClampNeg a2.toNatClampNeg (σ (0, 0, 0) 5)).1) ((cs_draftTap σ a1.toNatClampNeg a2.toNatClampNeg (σ (0, 0, 0) 5)).2) else ((-3), σ) else cs_tap_s1 a1 a2 a3 ((cs_draftTap σ a1.toNatClampNeg a2.toNatClampNeg (σ (0, 0, 0) 5)).1) ((cs_draftTap σ a1.toNatClampNeg a2.toNatClampNeg (σ (0, 0, 0) 5)).2) else ((-4), σ) else ((-2), σ) else ((-1), σ)
set_option maxHeartbeats 4000000 in
set_option maxRecDepth 100000 in
theorem c_tap (l : Launch) (X : fw_X) (hI : fw_I cV X) (σ : fw_S) (a1 a2 a3 : Int32) (hz : ∀ v, v < 4 → σ (12, v, 0) 3 = 0 ∨ σ (12, v, 0) 3 = 1) (hs : ∀ v, v < 4 → 0 ≤ σ (12, v, 0) 1) : fw_Mi fw_cl csh cV fw_tys l yO_tap wO_tap (fw_rm 6) X σ [.ref (X.2.2 (0, 0, 0)), .int a1, .int a2, .int a3] (cs_tap σ a1 a2 a3) := by
  obtain ⟨out, he⟩ : ∃ z : Int32 × fw_S, z = cs_tap σ a1 a2 a3 := ⟨_, rfl⟩
  rw [← he]
  refine fw_Mi_of (cc := bO_tap) (maxL := 7) (ret := (some .int)) (by decide) rfl (Nat.le_of_ble_eq_true rfl) ?_
  intro p e s m below meth c ls hx hb hr hml hlocks hown hts hK hnb hW hl
  have hS : va_S (fw_A cV X) s.heap s.heap [] := va_S.rf
  have hA : ∀ t, cV t → fw_A cV X (X.2.2 t) := fun t h => ⟨t, h, rfl⟩
  have htb := tb_use hts
  have hl : lv_has ls 7 [(0, .ref (X.2.2 (0, 0, 0))), (1, .int a1), (2, .int a2), (3, .int a3)] := hl
  have hown : s.vm.findClass "TapOffice" = some m.cls := hown
  unfold cs_tap at he
  refine lv_iload_n hx hb dO_tap_0 rfl (lv_at hl 1 rfl) ?_
  refine lv_iconst (v := 4) hx hb dO_tap_1 (by decide) ?_
  refine fw_kp (va_runS (As := [.int a1, .int 4]) (rest := []) ⟨hx, hb, hml, hown, hts⟩ (c_isBelow l X hI σ a1 4 ) (va_cwS 2 hts (tb_S m_172 m_170 m_171 m_25) rfl rfl rfl (by decide +kernel) ⟨Nat.le_of_ble_eq_true rfl, Nat.le_of_ble_eq_true rfl⟩) (fw_preS (X := X) hK hnb hW [.int a1, .int 4]) rfl rfl hl.1 rfl (lv_room (Nat.le_of_ble_eq_true rfl)) dO_tap_2 ⟨Nat.zero_le _, Nat.zero_le _⟩) hS (fun H locs hW hS => ?_)
  refine lv_if_eq (tgt := 26) hx hb dO_tap_5 (by decide) (fun c1 => ?_) (fun c1 => ?_)
  · rw [if_pos c1] at he
    refine lv_iconst (v := (-1)) hx hb dO_tap_26 (by decide) ?_
    exact fw_iret hx hb hr hlocks hK hnb hW hS he dO_tap_27
  · rw [if_neg c1] at he
    refine lv_iload_n hx hb dO_tap_8 rfl (lv_at hl 2 rfl) ?_
    refine lv_iconst (v := 4) hx hb dO_tap_9 (by decide) ?_
    refine fw_kp (va_runS (As := [.int a2, .int 4]) (rest := []) ⟨hx, hb, hml, hown, hts⟩ (c_isBelow l X hI σ a2 4 ) (va_cwS 2 hts (tb_S m_172 m_170 m_171 m_25) rfl rfl rfl (by decide +kernel) ⟨Nat.le_of_ble_eq_true rfl, Nat.le_of_ble_eq_true rfl⟩) (fw_preS (X := X) hK hnb hW [.int a2, .int 4]) rfl rfl hl.1 rfl (lv_room (Nat.le_of_ble_eq_true rfl)) dO_tap_10 ⟨Nat.zero_le _, Nat.zero_le _⟩) hS (fun H locs hW hS => ?_)
    refine lv_if_eq (tgt := 26) hx hb dO_tap_13 (by decide) (fun c2 => ?_) (fun c2 => ?_)
    · rw [if_pos c2] at he
      refine lv_iconst (v := (-1)) hx hb dO_tap_26 (by decide) ?_
      exact fw_iret hx hb hr hlocks hK hnb hW hS he dO_tap_27
    · rw [if_neg c2] at he
      refine lv_iload_n hx hb dO_tap_16 rfl (lv_at hl 3 rfl) ?_
      refine lv_if_lt (tgt := 26) hx hb dO_tap_17 (by decide) (fun c3 => ?_) (fun c3 => ?_)
      · rw [if_pos c3] at he
        refine lv_iconst (v := (-1)) hx hb dO_tap_26 (by decide) ?_
        exact fw_iret hx hb hr hlocks hK hnb hW hS he dO_tap_27
      · rw [if_neg c3] at he
        refine lv_iload_n hx hb dO_tap_20 rfl (lv_at hl 3 rfl) ?_
        refine lv_bipush (v := 8) hx hb dO_tap_21 (by decide) ?_
        refine lv_icmp_le (tgt := 28) hx hb dO_tap_23 (by decide) (fun c4 => ?_) (fun c4 => ?_)
        · rw [if_pos c4] at he
          refine lv_aload_n hx hb dO_tap_28 rfl (lv_at hl 0 rfl) ?_
          refine fw_get (X := X) (v := .ref (X.2.2 (2, 0, 0))) hx hb hts hin_O hown hK hW (0, 0, 0) cv0 rfl rfl 1 (by decide) (htb _ m_142 rfl) (fun _ h => h) rfl rfl dO_tap_29 ?_
          refine lv_iload_n hx hb dO_tap_32 rfl (lv_at hl 1 rfl) ?_
          refine fw_aald (X := X) hx hb hK hW (2, 0, 0) cv2 rfl 2 rfl rfl a1.toNatClampNeg rfl (10, a1.toNatClampNeg, 0) rfl (ib_in ‹¬ cs_isBelow a1 4 = 0›) dO_tap_33 ?_
          have hV5 : cV (10, a1.toNatClampNeg, 0) := (cve10 (vi_lt (ib_in ‹¬ cs_isBelow a1 4 = 0›)))
          refine lv_astore (lv' := [(4, .ref (X.2.2 (10, a1.toNatClampNeg, 0))), (0, .ref (X.2.2 (0, 0, 0))), (1, .int a1), (2, .int a2), (3, .int a3)]) hx hb dO_tap_34 hl (by decide) rfl (fun ls hl => ?_)
          refine lv_aload_n hx hb dO_tap_36 rfl (lv_at hl 1 rfl) ?_
          refine fw_get (X := X) (v := .ref (X.2.2 (4, 0, 0))) hx hb hts hin_O hown hK hW (0, 0, 0) cv0 rfl rfl 3 (by decide) (htb _ m_144 rfl) (fun _ h => h) rfl rfl dO_tap_37 ?_
          refine lv_iload_n hx hb dO_tap_40 rfl (lv_at hl 3 rfl) ?_
          refine fw_aald (X := X) hx hb hK hW (4, 0, 0) cv4 rfl 4 rfl rfl a2.toNatClampNeg rfl (12, a2.toNatClampNeg, 0) rfl (ib_in ‹¬ cs_isBelow a2 4 = 0›) dO_tap_41 ?_
          have hV6 : cV (12, a2.toNatClampNeg, 0) := (cve12 (vi_lt (ib_in ‹¬ cs_isBelow a2 4 = 0›)))
          refine lv_astore (lv' := [(5, .ref (X.2.2 (12, a2.toNatClampNeg, 0))), (4, .ref (X.2.2 (10, a1.toNatClampNeg, 0))), (0, .ref (X.2.2 (0, 0, 0))), (1, .int a1), (2, .int a2), (3, .int a3)]) hx hb dO_tap_42 hl (by decide) rfl (fun ls hl => ?_)
          refine lv_aload hx hb dO_tap_44 (lv_at hl 0 rfl) ?_
          refine fw_kp (va_runV (As := []) (rest := []) ⟨hx, hb, hml, hown, hts⟩ (c_isFull l X hI σ a2.toNatClampNeg (hV6).1 ) (cwV 0 hts (tb_V m_206 m_203 m_204 m_205 m_30) rfl rfl rfl (by decide +kernel) ⟨Nat.le_of_ble_eq_true rfl, Nat.le_of_ble_eq_true rfl⟩) (fw_preV (X := X) hK hnb hW (12, a2.toNatClampNeg, 0) hV6 rfl rfl []) rfl rfl hl.1 rfl (lv_room (Nat.le_of_ble_eq_true rfl)) dO_tap_46 ⟨Nat.zero_le _, Nat.zero_le _⟩) hS (fun H locs hW hS => ?_)
          refine lv_if_eq (tgt := 55) hx hb dO_tap_49 (by decide) (fun c7 => ?_) (fun c7 => ?_)
          · rw [if_pos c7] at he
            refine lv_aload hx hb dO_tap_55 (lv_at hl 0 rfl) ?_
            refine lv_iload_n hx hb dO_tap_57 rfl (lv_at hl 3 rfl) ?_
            refine fw_kp (va_runV (As := [.int a1]) (rest := []) ⟨hx, hb, hml, hown, hts⟩ (c_denies l X hI σ a2.toNatClampNeg (hV6).1 a1 ) (cwV 1 hts (tb_V m_210 m_207 m_208 m_209 m_30) rfl rfl rfl (by decide +kernel) ⟨Nat.le_of_ble_eq_true rfl, Nat.le_of_ble_eq_true rfl⟩) (fw_preV (X := X) hK hnb hW (12, a2.toNatClampNeg, 0) hV6 rfl rfl [.int a1]) rfl rfl hl.1 rfl (lv_room (Nat.le_of_ble_eq_true rfl)) dO_tap_58 ⟨Nat.zero_le _, Nat.zero_le _⟩) hS (fun H locs hW hS => ?_)
            refine lv_if_eq (tgt := 67) hx hb dO_tap_61 (by decide) (fun c8 => ?_) (fun c8 => ?_)
            · rw [if_pos c8] at he
              refine lv_aload hx hb dO_tap_67 (lv_at hl 0 rfl) ?_
              refine fw_kp (va_runV (As := []) (rest := []) ⟨hx, hb, hml, hown, hts⟩ (c_isExit l X hI σ a2.toNatClampNeg (hV6).1 (hz _ (vi_lt (ib_in ‹¬ cs_isBelow a2 4 = 0›)))) (cwV 0 hts (tb_V m_214 m_211 m_212 m_213 m_30) rfl rfl rfl (by decide +kernel) ⟨Nat.le_of_ble_eq_true rfl, Nat.le_of_ble_eq_true rfl⟩) (fw_preV (X := X) hK hnb hW (12, a2.toNatClampNeg, 0) hV6 rfl rfl []) rfl rfl hl.1 rfl (lv_room (Nat.le_of_ble_eq_true rfl)) dO_tap_69 ⟨Nat.zero_le _, Nat.zero_le _⟩) hS (fun H locs hW hS => ?_)
              refine lv_if_ne (tgt := 94) hx hb dO_tap_72 (by decide) (fun c9 => ?_) (fun c9 => ?_)
              · rw [if_neg c9] at he
                refine lv_aload hx hb dO_tap_94 (lv_at hl 1 rfl) ?_
                refine lv_aload hx hb dO_tap_96 (lv_at hl 0 rfl) ?_
                refine lv_aload_n hx hb dO_tap_98 rfl (lv_at hl 2 rfl) ?_
                refine fw_get (X := X) (v := .int (σ (0, 0, 0) 5)) hx hb hts hin_O hown hK hW (0, 0, 0) cv0 rfl rfl 5 (by decide) (htb _ m_146 rfl) (fun _ h => h) rfl rfl dO_tap_99 ?_
                refine lv_aload_n hx hb dO_tap_102 rfl (lv_at hl 2 rfl) ?_
                refine fw_get (X := X) (v := .ref (X.2.2 (1, 0, 0))) hx hb hts hin_O hown hK hW (0, 0, 0) cv0 rfl rfl 0 (by decide) (htb _ m_141 rfl) (fun _ h => h) rfl rfl dO_tap_103 ?_
                refine fw_ki (va_runV (As := [.ref (X.2.2 (12, a2.toNatClampNeg, 0)), .int (σ (0, 0, 0) 5), .ref (X.2.2 (1, 0, 0))]) (rest := []) ⟨hx, hb, hml, hown, hts⟩ (c_draftTap l X hI σ a1.toNatClampNeg (hV5).1 a2.toNatClampNeg (hV6).1 (σ (0, 0, 0) 5) (hz _ (vi_lt (ib_in ‹¬ cs_isBelow a2 4 = 0›)))) (cwV 3 hts (tb_V m_230 m_227 m_228 m_229 m_27) rfl rfl rfl (by decide +kernel) ⟨Nat.le_of_ble_eq_true rfl, Nat.le_of_ble_eq_true rfl⟩) (fw_preV (X := X) hK hnb hW (10, a1.toNatClampNeg, 0) hV5 rfl rfl [.ref (X.2.2 (12, a2.toNatClampNeg, 0)), .int (σ (0, 0, 0) 5), .ref (X.2.2 (1, 0, 0))]) rfl rfl hl.1 rfl (lv_room (Nat.le_of_ble_eq_true rfl)) dO_tap_106 ⟨Nat.zero_le _, Nat.zero_le _⟩) hS (fun r10 σ11 H locs o12 hW hS => ?_)
                rw [o12] at he
                unfold cs_tap_s1 at he
                dsimp only at he
                have hs : ∀ v, v < 4 → 0 ≤ σ11 (12, v, 0) 1 := fun v hv => by rw [← (show _ = σ11 from congrArg Prod.snd o12), fr_draftTap _ _ _ _ (12, v, 0) (by simp)]; exact hs v hv
                refine lv_istore (lv' := [(6, .int r10), (5, .ref (X.2.2 (12, a2.toNatClampNeg, 0))), (4, .ref (X.2.2 (10, a1.toNatClampNeg, 0))), (0, .ref (X.2.2 (0, 0, 0))), (1, .int a1), (2, .int a2), (3, .int a3)]) hx hb dO_tap_109 hl (by decide) rfl (fun ls hl => ?_)
                refine lv_iload_n hx hb dO_tap_111 rfl (lv_at hl 6 rfl) ?_
                refine lv_if_eq (tgt := 134) hx hb dO_tap_112 (by decide) (fun c13 => ?_) (fun c13 => ?_)
                · rw [if_pos c13] at he
                  refine lv_aload hx hb dO_tap_134 (lv_at hl 2 rfl) ?_
                  refine lv_bipush (v := 8) hx hb dO_tap_136 (by decide) ?_
                  refine fw_kv (va_runV (As := [.int 8]) (rest := []) ⟨hx, hb, hml, hown, hts⟩ (c_writeDraft l X hI σ11 a1.toNatClampNeg (hV5).1 8 ) (cwV 1 hts (tb_V m_287 m_284 m_285 m_286 m_27) rfl rfl rfl (by decide +kernel) ⟨Nat.le_of_ble_eq_true rfl, Nat.le_of_ble_eq_true rfl⟩) (fw_preV (X := X) hK hnb hW (10, a1.toNatClampNeg, 0) hV5 rfl rfl [.int 8]) rfl rfl hl.1 rfl (lv_room (Nat.le_of_ble_eq_true rfl)) dO_tap_138 ⟨Nat.zero_le _, Nat.zero_le _⟩) hS (fun H locs hW hS => ?_)
                  obtain ⟨σ14, e15⟩ : ∃ z : fw_S, z = cs_writeDraft σ11 a1.toNatClampNeg 8 := ⟨_, rfl⟩
                  rw [← e15] at hW
                  try rw [← e15] at he
                  unfold cs_tap_s2 at he
                  have hs : ∀ v, v < 4 → 0 ≤ σ14 (12, v, 0) 1 := fun v hv => by rw [e15, fr_writeDraft _ _ _ (12, v, 0) (by simp)]; exact hs v hv
                  refine lv_aload hx hb dO_tap_141 (lv_at hl 1 rfl) ?_
                  refine lv_iload_n hx hb dO_tap_143 rfl (lv_at hl 4 rfl) ?_
                  refine lv_aload hx hb dO_tap_144 (lv_at hl 2 rfl) ?_
                  refine fw_kp (va_runV (As := []) (rest := [.int a1, .ref (X.2.2 (12, a2.toNatClampNeg, 0))]) ⟨hx, hb, hml, hown, hts⟩ (c_counter l X hI σ14 a1.toNatClampNeg (hV5).1 ) (cwV 0 hts (tb_V m_243 m_288 m_241 m_242 m_27) rfl rfl rfl (by decide +kernel) ⟨Nat.le_of_ble_eq_true rfl, Nat.le_of_ble_eq_true rfl⟩) (fw_preV (X := X) hK hnb hW (10, a1.toNatClampNeg, 0) hV5 rfl rfl []) rfl rfl hl.1 rfl (lv_room (Nat.le_of_ble_eq_true rfl)) dO_tap_146 ⟨Nat.zero_le _, Nat.zero_le _⟩) hS (fun H locs hW hS => ?_)
                  refine lv_iload hx hb dO_tap_149 (lv_at hl 0 rfl) ?_
                  refine lv_aload hx hb dO_tap_151 (lv_at hl 2 rfl) ?_
                  refine lv_iconst (v := 0) hx hb dO_tap_153 (by decide) ?_
                  refine fw_kp (va_runV (As := [.int 0]) (rest := [.int r10, .int (cs_counter σ14 a1.toNatClampNeg), .int a1, .ref (X.2.2 (12, a2.toNatClampNeg, 0))]) ⟨hx, hb, hml, hown, hts⟩ (c_read l X hI σ14 a1.toNatClampNeg (hV5).1 0 (by unfold vp_in; decide)) (cwV 1 hts (tb_V m_218 m_215 m_216 m_217 m_27) rfl rfl rfl (by decide +kernel) ⟨Nat.le_of_ble_eq_true rfl, Nat.le_of_ble_eq_true rfl⟩) (fw_preV (X := X) hK hnb hW (10, a1.toNatClampNeg, 0) hV5 rfl rfl [.int 0]) rfl rfl hl.1 rfl (lv_room (Nat.le_of_ble_eq_true rfl)) dO_tap_154 ⟨Nat.zero_le _, Nat.zero_le _⟩) hS (fun H locs hW hS => ?_)
                  refine fw_kv (va_runV (As := [.int a1, .int (cs_counter σ14 a1.toNatClampNeg), .int r10, .int (cs_read σ14 a1.toNatClampNeg 0)]) (rest := []) ⟨hx, hb, hml, hown, hts⟩ (c_keepEntry l X hI σ14 a2.toNatClampNeg (hV6).1 a1 (cs_counter σ14 a1.toNatClampNeg) r10 (cs_read σ14 a1.toNatClampNeg 0) (hs _ (vi_lt (ib_in ‹¬ cs_isBelow a2 4 = 0›)))) (cwV 4 hts (tb_V m_292 m_289 m_290 m_291 m_30) rfl rfl rfl (by decide +kernel) ⟨Nat.le_of_ble_eq_true rfl, Nat.le_of_ble_eq_true rfl⟩) (fw_preV (X := X) hK hnb hW (12, a2.toNatClampNeg, 0) hV6 rfl rfl [.int a1, .int (cs_counter σ14 a1.toNatClampNeg), .int r10, .int (cs_read σ14 a1.toNatClampNeg 0)]) rfl rfl hl.1 rfl (lv_room (Nat.le_of_ble_eq_true rfl)) dO_tap_157 ⟨Nat.zero_le _, Nat.zero_le _⟩) hS (fun H locs hW hS => ?_)
                  obtain ⟨σ16, e17⟩ : ∃ z : fw_S, z = cs_keepEntry σ14 a2.toNatClampNeg a1 (cs_counter σ14 a1.toNatClampNeg) r10 (cs_read σ14 a1.toNatClampNeg 0) := ⟨_, rfl⟩
                  rw [← e17] at hW
                  try rw [← e17] at he
                  unfold cs_tap_s3 at he
                  refine lv_iload hx hb dO_tap_160 (lv_at hl 0 rfl) ?_
                  exact fw_iret hx hb hr hlocks hK hnb hW hS he dO_tap_162
                · rw [if_neg c13] at he
                  refine lv_aload hx hb dO_tap_115 (lv_at hl 2 rfl) ?_
                  refine lv_iload_n hx hb dO_tap_117 rfl (lv_at hl 6 rfl) ?_
                  refine fw_kv (va_runV (As := [.int a3]) (rest := []) ⟨hx, hb, hml, hown, hts⟩ (c_writeDraft l X hI σ11 a1.toNatClampNeg (hV5).1 a3 ) (cwV 1 hts (tb_V m_287 m_284 m_285 m_286 m_27) rfl rfl rfl (by decide +kernel) ⟨Nat.le_of_ble_eq_true rfl, Nat.le_of_ble_eq_true rfl⟩) (fw_preV (X := X) hK hnb hW (10, a1.toNatClampNeg, 0) hV5 rfl rfl [.int a3]) rfl rfl hl.1 rfl (lv_room (Nat.le_of_ble_eq_true rfl)) dO_tap_118 ⟨Nat.zero_le _, Nat.zero_le _⟩) hS (fun H locs hW hS => ?_)
                  obtain ⟨σ18, e19⟩ : ∃ z : fw_S, z = cs_writeDraft σ11 a1.toNatClampNeg a3 := ⟨_, rfl⟩
                  rw [← e19] at hW
                  try rw [← e19] at he
                  unfold cs_tap_s4 at he
                  have hs : ∀ v, v < 4 → 0 ≤ σ18 (12, v, 0) 1 := fun v hv => by rw [e19, fr_writeDraft _ _ _ (12, v, 0) (by simp)]; exact hs v hv
                  refine lv_aload_n hx hb dO_tap_121 rfl (lv_at hl 3 rfl) ?_
                  refine lv_dup hx hb dO_tap_122 rfl ?_
                  refine fw_get (X := X) (v := .int (σ18 (0, 0, 0) 7)) hx hb hts hin_O hown hK hW (0, 0, 0) cv0 rfl rfl 7 (by decide) (htb _ m_148 rfl) (fun _ h => h) rfl rfl dO_tap_123 ?_
                  refine lv_iconst (v := 1) hx hb dO_tap_126 (by decide) ?_
                  refine lv_iadd hx hb dO_tap_127 ?_
                  refine fw_put (X := X) hx hb hts hin_O ty_O ty_O_ok nm_O hown hK hW hI hA hS (0, 0, 0) cv0 rfl rfl rfl 7 (by decide) (htb _ m_148 rfl) (fun _ h => h) rfl rfl (ty := .int) (by decide +kernel) rfl rfl dO_tap_128 (fun H locs hW hS => ?_)
                  obtain ⟨σ20, e21⟩ : ∃ z : fw_S, z = fw_st σ18 (0, 0, 0) 7 ((σ18 (0, 0, 0) 7) + 1) := ⟨_, rfl⟩
                  rw [← e21] at hW
                  try rw [← e21] at he
                  unfold cs_tap_s5 at he
                  refine lv_bipush (v := (-5)) hx hb dO_tap_131 (by decide) ?_
                  exact fw_iret hx hb hr hlocks hK hnb hW hS he dO_tap_133
              · rw [if_pos c9] at he
                refine lv_aload hx hb dO_tap_75 (lv_at hl 1 rfl) ?_
                refine lv_iconst (v := 0) hx hb dO_tap_77 (by decide) ?_
                refine fw_kp (va_runV (As := [.int 0]) (rest := []) ⟨hx, hb, hml, hown, hts⟩ (c_read l X hI σ a1.toNatClampNeg (hV5).1 0 (by unfold vp_in; decide)) (cwV 1 hts (tb_V m_218 m_215 m_216 m_217 m_27) rfl rfl rfl (by decide +kernel) ⟨Nat.le_of_ble_eq_true rfl, Nat.le_of_ble_eq_true rfl⟩) (fw_preV (X := X) hK hnb hW (10, a1.toNatClampNeg, 0) hV5 rfl rfl [.int 0]) rfl rfl hl.1 rfl (lv_room (Nat.le_of_ble_eq_true rfl)) dO_tap_78 ⟨Nat.zero_le _, Nat.zero_le _⟩) hS (fun H locs hW hS => ?_)
                refine lv_aload_n hx hb dO_tap_81 rfl (lv_at hl 2 rfl) ?_
                refine fw_get (X := X) (v := .ref (X.2.2 (1, 0, 0))) hx hb hts hin_O hown hK hW (0, 0, 0) cv0 rfl rfl 0 (by decide) (htb _ m_141 rfl) (fun _ h => h) rfl rfl dO_tap_82 ?_
                refine fw_kp (va_runV (As := []) (rest := [.int (cs_read σ a1.toNatClampNeg 0)]) ⟨hx, hb, hml, hown, hts⟩ (c_least l X hI σ  ) (cwV 0 hts (tb_V m_226 m_223 m_224 m_225 m_26) rfl rfl rfl (by decide +kernel) ⟨Nat.le_of_ble_eq_true rfl, Nat.le_of_ble_eq_true rfl⟩) (fw_preV (X := X) hK hnb hW (1, 0, 0) cv1 rfl rfl []) rfl rfl hl.1 rfl (lv_room (Nat.le_of_ble_eq_true rfl)) dO_tap_85 ⟨Nat.zero_le _, Nat.zero_le _⟩) hS (fun H locs hW hS => ?_)
                refine lv_icmp_ge (tgt := 94) hx hb dO_tap_88 (by decide) (fun c22 => ?_) (fun c22 => ?_)
                · rw [if_pos c22] at he
                  refine lv_aload hx hb dO_tap_94 (lv_at hl 1 rfl) ?_
                  refine lv_aload hx hb dO_tap_96 (lv_at hl 0 rfl) ?_
                  refine lv_aload_n hx hb dO_tap_98 rfl (lv_at hl 2 rfl) ?_
                  refine fw_get (X := X) (v := .int (σ (0, 0, 0) 5)) hx hb hts hin_O hown hK hW (0, 0, 0) cv0 rfl rfl 5 (by decide) (htb _ m_146 rfl) (fun _ h => h) rfl rfl dO_tap_99 ?_
                  refine lv_aload_n hx hb dO_tap_102 rfl (lv_at hl 2 rfl) ?_
                  refine fw_get (X := X) (v := .ref (X.2.2 (1, 0, 0))) hx hb hts hin_O hown hK hW (0, 0, 0) cv0 rfl rfl 0 (by decide) (htb _ m_141 rfl) (fun _ h => h) rfl rfl dO_tap_103 ?_
                  refine fw_ki (va_runV (As := [.ref (X.2.2 (12, a2.toNatClampNeg, 0)), .int (σ (0, 0, 0) 5), .ref (X.2.2 (1, 0, 0))]) (rest := []) ⟨hx, hb, hml, hown, hts⟩ (c_draftTap l X hI σ a1.toNatClampNeg (hV5).1 a2.toNatClampNeg (hV6).1 (σ (0, 0, 0) 5) (hz _ (vi_lt (ib_in ‹¬ cs_isBelow a2 4 = 0›)))) (cwV 3 hts (tb_V m_230 m_227 m_228 m_229 m_27) rfl rfl rfl (by decide +kernel) ⟨Nat.le_of_ble_eq_true rfl, Nat.le_of_ble_eq_true rfl⟩) (fw_preV (X := X) hK hnb hW (10, a1.toNatClampNeg, 0) hV5 rfl rfl [.ref (X.2.2 (12, a2.toNatClampNeg, 0)), .int (σ (0, 0, 0) 5), .ref (X.2.2 (1, 0, 0))]) rfl rfl hl.1 rfl (lv_room (Nat.le_of_ble_eq_true rfl)) dO_tap_106 ⟨Nat.zero_le _, Nat.zero_le _⟩) hS (fun r23 σ24 H locs o25 hW hS => ?_)
                  rw [o25] at he
                  unfold cs_tap_s6 at he
                  dsimp only at he
                  have hs : ∀ v, v < 4 → 0 ≤ σ24 (12, v, 0) 1 := fun v hv => by rw [← (show _ = σ24 from congrArg Prod.snd o25), fr_draftTap _ _ _ _ (12, v, 0) (by simp)]; exact hs v hv
                  refine lv_istore (lv' := [(6, .int r23), (5, .ref (X.2.2 (12, a2.toNatClampNeg, 0))), (4, .ref (X.2.2 (10, a1.toNatClampNeg, 0))), (0, .ref (X.2.2 (0, 0, 0))), (1, .int a1), (2, .int a2), (3, .int a3)]) hx hb dO_tap_109 hl (by decide) rfl (fun ls hl => ?_)
                  refine lv_iload_n hx hb dO_tap_111 rfl (lv_at hl 6 rfl) ?_
                  refine lv_if_eq (tgt := 134) hx hb dO_tap_112 (by decide) (fun c26 => ?_) (fun c26 => ?_)
                  · rw [if_pos c26] at he
                    refine lv_aload hx hb dO_tap_134 (lv_at hl 2 rfl) ?_
                    refine lv_bipush (v := 8) hx hb dO_tap_136 (by decide) ?_
                    refine fw_kv (va_runV (As := [.int 8]) (rest := []) ⟨hx, hb, hml, hown, hts⟩ (c_writeDraft l X hI σ24 a1.toNatClampNeg (hV5).1 8 ) (cwV 1 hts (tb_V m_287 m_284 m_285 m_286 m_27) rfl rfl rfl (by decide +kernel) ⟨Nat.le_of_ble_eq_true rfl, Nat.le_of_ble_eq_true rfl⟩) (fw_preV (X := X) hK hnb hW (10, a1.toNatClampNeg, 0) hV5 rfl rfl [.int 8]) rfl rfl hl.1 rfl (lv_room (Nat.le_of_ble_eq_true rfl)) dO_tap_138 ⟨Nat.zero_le _, Nat.zero_le _⟩) hS (fun H locs hW hS => ?_)
                    obtain ⟨σ27, e28⟩ : ∃ z : fw_S, z = cs_writeDraft σ24 a1.toNatClampNeg 8 := ⟨_, rfl⟩
                    rw [← e28] at hW
                    try rw [← e28] at he
                    unfold cs_tap_s7 at he
                    have hs : ∀ v, v < 4 → 0 ≤ σ27 (12, v, 0) 1 := fun v hv => by rw [e28, fr_writeDraft _ _ _ (12, v, 0) (by simp)]; exact hs v hv
                    refine lv_aload hx hb dO_tap_141 (lv_at hl 1 rfl) ?_
                    refine lv_iload_n hx hb dO_tap_143 rfl (lv_at hl 4 rfl) ?_
                    refine lv_aload hx hb dO_tap_144 (lv_at hl 2 rfl) ?_
                    refine fw_kp (va_runV (As := []) (rest := [.int a1, .ref (X.2.2 (12, a2.toNatClampNeg, 0))]) ⟨hx, hb, hml, hown, hts⟩ (c_counter l X hI σ27 a1.toNatClampNeg (hV5).1 ) (cwV 0 hts (tb_V m_243 m_288 m_241 m_242 m_27) rfl rfl rfl (by decide +kernel) ⟨Nat.le_of_ble_eq_true rfl, Nat.le_of_ble_eq_true rfl⟩) (fw_preV (X := X) hK hnb hW (10, a1.toNatClampNeg, 0) hV5 rfl rfl []) rfl rfl hl.1 rfl (lv_room (Nat.le_of_ble_eq_true rfl)) dO_tap_146 ⟨Nat.zero_le _, Nat.zero_le _⟩) hS (fun H locs hW hS => ?_)
                    refine lv_iload hx hb dO_tap_149 (lv_at hl 0 rfl) ?_
                    refine lv_aload hx hb dO_tap_151 (lv_at hl 2 rfl) ?_
                    refine lv_iconst (v := 0) hx hb dO_tap_153 (by decide) ?_
                    refine fw_kp (va_runV (As := [.int 0]) (rest := [.int r23, .int (cs_counter σ27 a1.toNatClampNeg), .int a1, .ref (X.2.2 (12, a2.toNatClampNeg, 0))]) ⟨hx, hb, hml, hown, hts⟩ (c_read l X hI σ27 a1.toNatClampNeg (hV5).1 0 (by unfold vp_in; decide)) (cwV 1 hts (tb_V m_218 m_215 m_216 m_217 m_27) rfl rfl rfl (by decide +kernel) ⟨Nat.le_of_ble_eq_true rfl, Nat.le_of_ble_eq_true rfl⟩) (fw_preV (X := X) hK hnb hW (10, a1.toNatClampNeg, 0) hV5 rfl rfl [.int 0]) rfl rfl hl.1 rfl (lv_room (Nat.le_of_ble_eq_true rfl)) dO_tap_154 ⟨Nat.zero_le _, Nat.zero_le _⟩) hS (fun H locs hW hS => ?_)
                    refine fw_kv (va_runV (As := [.int a1, .int (cs_counter σ27 a1.toNatClampNeg), .int r23, .int (cs_read σ27 a1.toNatClampNeg 0)]) (rest := []) ⟨hx, hb, hml, hown, hts⟩ (c_keepEntry l X hI σ27 a2.toNatClampNeg (hV6).1 a1 (cs_counter σ27 a1.toNatClampNeg) r23 (cs_read σ27 a1.toNatClampNeg 0) (hs _ (vi_lt (ib_in ‹¬ cs_isBelow a2 4 = 0›)))) (cwV 4 hts (tb_V m_292 m_289 m_290 m_291 m_30) rfl rfl rfl (by decide +kernel) ⟨Nat.le_of_ble_eq_true rfl, Nat.le_of_ble_eq_true rfl⟩) (fw_preV (X := X) hK hnb hW (12, a2.toNatClampNeg, 0) hV6 rfl rfl [.int a1, .int (cs_counter σ27 a1.toNatClampNeg), .int r23, .int (cs_read σ27 a1.toNatClampNeg 0)]) rfl rfl hl.1 rfl (lv_room (Nat.le_of_ble_eq_true rfl)) dO_tap_157 ⟨Nat.zero_le _, Nat.zero_le _⟩) hS (fun H locs hW hS => ?_)
                    obtain ⟨σ29, e30⟩ : ∃ z : fw_S, z = cs_keepEntry σ27 a2.toNatClampNeg a1 (cs_counter σ27 a1.toNatClampNeg) r23 (cs_read σ27 a1.toNatClampNeg 0) := ⟨_, rfl⟩
                    rw [← e30] at hW
                    try rw [← e30] at he
                    unfold cs_tap_s8 at he
                    refine lv_iload hx hb dO_tap_160 (lv_at hl 0 rfl) ?_
                    exact fw_iret hx hb hr hlocks hK hnb hW hS he dO_tap_162
                  · rw [if_neg c26] at he
                    refine lv_aload hx hb dO_tap_115 (lv_at hl 2 rfl) ?_
                    refine lv_iload_n hx hb dO_tap_117 rfl (lv_at hl 6 rfl) ?_
                    refine fw_kv (va_runV (As := [.int a3]) (rest := []) ⟨hx, hb, hml, hown, hts⟩ (c_writeDraft l X hI σ24 a1.toNatClampNeg (hV5).1 a3 ) (cwV 1 hts (tb_V m_287 m_284 m_285 m_286 m_27) rfl rfl rfl (by decide +kernel) ⟨Nat.le_of_ble_eq_true rfl, Nat.le_of_ble_eq_true rfl⟩) (fw_preV (X := X) hK hnb hW (10, a1.toNatClampNeg, 0) hV5 rfl rfl [.int a3]) rfl rfl hl.1 rfl (lv_room (Nat.le_of_ble_eq_true rfl)) dO_tap_118 ⟨Nat.zero_le _, Nat.zero_le _⟩) hS (fun H locs hW hS => ?_)
                    obtain ⟨σ31, e32⟩ : ∃ z : fw_S, z = cs_writeDraft σ24 a1.toNatClampNeg a3 := ⟨_, rfl⟩
                    rw [← e32] at hW
                    try rw [← e32] at he
                    unfold cs_tap_s9 at he
                    have hs : ∀ v, v < 4 → 0 ≤ σ31 (12, v, 0) 1 := fun v hv => by rw [e32, fr_writeDraft _ _ _ (12, v, 0) (by simp)]; exact hs v hv
                    refine lv_aload_n hx hb dO_tap_121 rfl (lv_at hl 3 rfl) ?_
                    refine lv_dup hx hb dO_tap_122 rfl ?_
                    refine fw_get (X := X) (v := .int (σ31 (0, 0, 0) 7)) hx hb hts hin_O hown hK hW (0, 0, 0) cv0 rfl rfl 7 (by decide) (htb _ m_148 rfl) (fun _ h => h) rfl rfl dO_tap_123 ?_
                    refine lv_iconst (v := 1) hx hb dO_tap_126 (by decide) ?_
                    refine lv_iadd hx hb dO_tap_127 ?_
                    refine fw_put (X := X) hx hb hts hin_O ty_O ty_O_ok nm_O hown hK hW hI hA hS (0, 0, 0) cv0 rfl rfl rfl 7 (by decide) (htb _ m_148 rfl) (fun _ h => h) rfl rfl (ty := .int) (by decide +kernel) rfl rfl dO_tap_128 (fun H locs hW hS => ?_)
                    obtain ⟨σ33, e34⟩ : ∃ z : fw_S, z = fw_st σ31 (0, 0, 0) 7 ((σ31 (0, 0, 0) 7) + 1) := ⟨_, rfl⟩
                    rw [← e34] at hW
                    try rw [← e34] at he
                    unfold cs_tap_s10 at he
                    refine lv_bipush (v := (-5)) hx hb dO_tap_131 (by decide) ?_
                    exact fw_iret hx hb hr hlocks hK hnb hW hS he dO_tap_133
                · rw [if_neg c22] at he
                  refine lv_bipush (v := (-3)) hx hb dO_tap_91 (by decide) ?_
                  exact fw_iret hx hb hr hlocks hK hnb hW hS he dO_tap_93
            · rw [if_neg c8] at he
              refine lv_bipush (v := (-4)) hx hb dO_tap_64 (by decide) ?_
              exact fw_iret hx hb hr hlocks hK hnb hW hS he dO_tap_66
          · rw [if_neg c7] at he
            refine lv_bipush (v := (-2)) hx hb dO_tap_52 (by decide) ?_
            exact fw_iret hx hb hr hlocks hK hnb hW hS he dO_tap_54
        · rw [if_neg c4] at he
          refine lv_iconst (v := (-1)) hx hb dO_tap_26 (by decide) ?_
          exact fw_iret hx hb hr hlocks hK hnb hW hS he dO_tap_27
def cs_topUp_s4 (z10 : Int32) (σ13 : fw_S) : Int32 × fw_S :=
  (z10, σ13)
def cs_topUp_s3 (a1 : Int32) (a2 : Int32) (σ8 : fw_S) (z10 : Int32) : Int32 × fw_S :=
  cs_topUp_s4 z10 (cs_enterTopUp σ8 a1.toNatClampNeg (cs_counter σ8 a1.toNatClampNeg) a2 z10)
def cs_topUp_s2 (a1 : Int32) (a2 : Int32) (σ8 : fw_S) : Int32 × fw_S :=
  cs_topUp_s3 a1 a2 σ8 (cs_read σ8 a1.toNatClampNeg 0)
def cs_topUp_s1 (a1 : Int32) (a2 : Int32) (σ6 : fw_S) : Int32 × fw_S :=
  cs_topUp_s2 a1 a2 (cs_writeDraft σ6 a1.toNatClampNeg 8)
def cs_topUp (σ : fw_S) (a1 : Int32) (a2 : Int32) : Int32 × fw_S :=
  if (cs_isBelow a1 4) = 0 then ((-1), σ) else if a2 < 1 then ((-1), σ) else if a2 ≤ 999 then if ((cs_read σ a1.toNatClampNeg 0) + a2) ≤ 9999 then cs_topUp_s1 a1 a2 (cs_draftTopUp σ a1.toNatClampNeg a2 (σ (0, 0, 0) 5)) else ((-1), σ) else ((-1), σ)
set_option maxHeartbeats 4000000 in
set_option maxRecDepth 100000 in
theorem c_topUp (l : Launch) (X : fw_X) (hI : fw_I cV X) (σ : fw_S) (a1 a2 : Int32)  : fw_Mi fw_cl csh cV fw_tys l yO_topUp wO_topUp (fw_rm 6) X σ [.ref (X.2.2 (0, 0, 0)), .int a1, .int a2] (cs_topUp σ a1 a2) := by
  obtain ⟨out, he⟩ : ∃ z : Int32 × fw_S, z = cs_topUp σ a1 a2 := ⟨_, rfl⟩
  rw [← he]
  refine fw_Mi_of (cc := bO_topUp) (maxL := 5) (ret := (some .int)) (by decide) rfl (Nat.le_of_ble_eq_true rfl) ?_
  intro p e s m below meth c ls hx hb hr hml hlocks hown hts hK hnb hW hl
  have hS : va_S (fw_A cV X) s.heap s.heap [] := va_S.rf
  have hA : ∀ t, cV t → fw_A cV X (X.2.2 t) := fun t h => ⟨t, h, rfl⟩
  have htb := tb_use hts
  have hl : lv_has ls 5 [(0, .ref (X.2.2 (0, 0, 0))), (1, .int a1), (2, .int a2)] := hl
  have hown : s.vm.findClass "TapOffice" = some m.cls := hown
  unfold cs_topUp at he
  refine lv_iload_n hx hb dO_topUp_0 rfl (lv_at hl 1 rfl) ?_
  refine lv_iconst (v := 4) hx hb dO_topUp_1 (by decide) ?_
  refine fw_kp (va_runS (As := [.int a1, .int 4]) (rest := []) ⟨hx, hb, hml, hown, hts⟩ (c_isBelow l X hI σ a1 4 ) (va_cwS 2 hts (tb_S m_172 m_170 m_171 m_25) rfl rfl rfl (by decide +kernel) ⟨Nat.le_of_ble_eq_true rfl, Nat.le_of_ble_eq_true rfl⟩) (fw_preS (X := X) hK hnb hW [.int a1, .int 4]) rfl rfl hl.1 rfl (lv_room (Nat.le_of_ble_eq_true rfl)) dO_topUp_2 ⟨Nat.zero_le _, Nat.zero_le _⟩) hS (fun H locs hW hS => ?_)
  refine lv_if_eq (tgt := 20) hx hb dO_topUp_5 (by decide) (fun c1 => ?_) (fun c1 => ?_)
  · rw [if_pos c1] at he
    refine lv_iconst (v := (-1)) hx hb dO_topUp_20 (by decide) ?_
    exact fw_iret hx hb hr hlocks hK hnb hW hS he dO_topUp_21
  · rw [if_neg c1] at he
    refine lv_iload_n hx hb dO_topUp_8 rfl (lv_at hl 2 rfl) ?_
    refine lv_iconst (v := 1) hx hb dO_topUp_9 (by decide) ?_
    refine lv_icmp_lt (tgt := 20) hx hb dO_topUp_10 (by decide) (fun c2 => ?_) (fun c2 => ?_)
    · rw [if_pos c2] at he
      refine lv_iconst (v := (-1)) hx hb dO_topUp_20 (by decide) ?_
      exact fw_iret hx hb hr hlocks hK hnb hW hS he dO_topUp_21
    · rw [if_neg c2] at he
      refine lv_iload_n hx hb dO_topUp_13 rfl (lv_at hl 2 rfl) ?_
      refine lv_sipush (v := 999) hx hb dO_topUp_14 (by decide) ?_
      refine lv_icmp_le (tgt := 22) hx hb dO_topUp_17 (by decide) (fun c3 => ?_) (fun c3 => ?_)
      · rw [if_pos c3] at he
        refine lv_aload_n hx hb dO_topUp_22 rfl (lv_at hl 0 rfl) ?_
        refine fw_get (X := X) (v := .ref (X.2.2 (2, 0, 0))) hx hb hts hin_O hown hK hW (0, 0, 0) cv0 rfl rfl 1 (by decide) (htb _ m_142 rfl) (fun _ h => h) rfl rfl dO_topUp_23 ?_
        refine lv_iload_n hx hb dO_topUp_26 rfl (lv_at hl 1 rfl) ?_
        refine fw_aald (X := X) hx hb hK hW (2, 0, 0) cv2 rfl 2 rfl rfl a1.toNatClampNeg rfl (10, a1.toNatClampNeg, 0) rfl (ib_in ‹¬ cs_isBelow a1 4 = 0›) dO_topUp_27 ?_
        have hV4 : cV (10, a1.toNatClampNeg, 0) := (cve10 (vi_lt (ib_in ‹¬ cs_isBelow a1 4 = 0›)))
        refine lv_astore_n (lv' := [(3, .ref (X.2.2 (10, a1.toNatClampNeg, 0))), (0, .ref (X.2.2 (0, 0, 0))), (1, .int a1), (2, .int a2)]) hx hb dO_topUp_28 rfl hl (by decide) rfl (fun ls hl => ?_)
        refine lv_aload_n hx hb dO_topUp_29 rfl (lv_at hl 0 rfl) ?_
        refine lv_iconst (v := 0) hx hb dO_topUp_30 (by decide) ?_
        refine fw_kp (va_runV (As := [.int 0]) (rest := []) ⟨hx, hb, hml, hown, hts⟩ (c_read l X hI σ a1.toNatClampNeg (hV4).1 0 (by unfold vp_in; decide)) (cwV 1 hts (tb_V m_218 m_215 m_216 m_217 m_27) rfl rfl rfl (by decide +kernel) ⟨Nat.le_of_ble_eq_true rfl, Nat.le_of_ble_eq_true rfl⟩) (fw_preV (X := X) hK hnb hW (10, a1.toNatClampNeg, 0) hV4 rfl rfl [.int 0]) rfl rfl hl.1 rfl (lv_room (Nat.le_of_ble_eq_true rfl)) dO_topUp_31 ⟨Nat.zero_le _, Nat.zero_le _⟩) hS (fun H locs hW hS => ?_)
        refine lv_iload_n hx hb dO_topUp_34 rfl (lv_at hl 3 rfl) ?_
        refine lv_iadd hx hb dO_topUp_35 ?_
        refine lv_sipush (v := 9999) hx hb dO_topUp_36 (by decide) ?_
        refine lv_icmp_le (tgt := 44) hx hb dO_topUp_39 (by decide) (fun c5 => ?_) (fun c5 => ?_)
        · rw [if_pos c5] at he
          refine lv_aload_n hx hb dO_topUp_44 rfl (lv_at hl 0 rfl) ?_
          refine lv_iload_n hx hb dO_topUp_45 rfl (lv_at hl 3 rfl) ?_
          refine lv_aload_n hx hb dO_topUp_46 rfl (lv_at hl 1 rfl) ?_
          refine fw_get (X := X) (v := .int (σ (0, 0, 0) 5)) hx hb hts hin_O hown hK hW (0, 0, 0) cv0 rfl rfl 5 (by decide) (htb _ m_146 rfl) (fun _ h => h) rfl rfl dO_topUp_47 ?_
          refine fw_kv (va_runV (As := [.int a2, .int (σ (0, 0, 0) 5)]) (rest := []) ⟨hx, hb, hml, hown, hts⟩ (c_draftTopUp l X hI σ a1.toNatClampNeg (hV4).1 a2 (σ (0, 0, 0) 5) ) (cwV 2 hts (tb_V m_301 m_298 m_299 m_300 m_27) rfl rfl rfl (by decide +kernel) ⟨Nat.le_of_ble_eq_true rfl, Nat.le_of_ble_eq_true rfl⟩) (fw_preV (X := X) hK hnb hW (10, a1.toNatClampNeg, 0) hV4 rfl rfl [.int a2, .int (σ (0, 0, 0) 5)]) rfl rfl hl.1 rfl (lv_room (Nat.le_of_ble_eq_true rfl)) dO_topUp_50 ⟨Nat.zero_le _, Nat.zero_le _⟩) hS (fun H locs hW hS => ?_)
          obtain ⟨σ6, e7⟩ : ∃ z : fw_S, z = cs_draftTopUp σ a1.toNatClampNeg a2 (σ (0, 0, 0) 5) := ⟨_, rfl⟩
          rw [← e7] at hW
          try rw [← e7] at he
          unfold cs_topUp_s1 at he
          refine lv_aload_n hx hb dO_topUp_53 rfl (lv_at hl 0 rfl) ?_
          refine lv_bipush (v := 8) hx hb dO_topUp_54 (by decide) ?_
          refine fw_kv (va_runV (As := [.int 8]) (rest := []) ⟨hx, hb, hml, hown, hts⟩ (c_writeDraft l X hI σ6 a1.toNatClampNeg (hV4).1 8 ) (cwV 1 hts (tb_V m_287 m_284 m_285 m_286 m_27) rfl rfl rfl (by decide +kernel) ⟨Nat.le_of_ble_eq_true rfl, Nat.le_of_ble_eq_true rfl⟩) (fw_preV (X := X) hK hnb hW (10, a1.toNatClampNeg, 0) hV4 rfl rfl [.int 8]) rfl rfl hl.1 rfl (lv_room (Nat.le_of_ble_eq_true rfl)) dO_topUp_56 ⟨Nat.zero_le _, Nat.zero_le _⟩) hS (fun H locs hW hS => ?_)
          obtain ⟨σ8, e9⟩ : ∃ z : fw_S, z = cs_writeDraft σ6 a1.toNatClampNeg 8 := ⟨_, rfl⟩
          rw [← e9] at hW
          try rw [← e9] at he
          unfold cs_topUp_s2 at he
          refine lv_aload_n hx hb dO_topUp_59 rfl (lv_at hl 0 rfl) ?_
          refine lv_iconst (v := 0) hx hb dO_topUp_60 (by decide) ?_
          refine fw_kp (va_runV (As := [.int 0]) (rest := []) ⟨hx, hb, hml, hown, hts⟩ (c_read l X hI σ8 a1.toNatClampNeg (hV4).1 0 (by unfold vp_in; decide)) (cwV 1 hts (tb_V m_218 m_215 m_216 m_217 m_27) rfl rfl rfl (by decide +kernel) ⟨Nat.le_of_ble_eq_true rfl, Nat.le_of_ble_eq_true rfl⟩) (fw_preV (X := X) hK hnb hW (10, a1.toNatClampNeg, 0) hV4 rfl rfl [.int 0]) rfl rfl hl.1 rfl (lv_room (Nat.le_of_ble_eq_true rfl)) dO_topUp_61 ⟨Nat.zero_le _, Nat.zero_le _⟩) hS (fun H locs hW hS => ?_)
          refine lv_topi (fun z10 e11 => ?_)
          try rw [← e11] at he
          unfold cs_topUp_s3 at he
          refine lv_istore (lv' := [(4, .int z10), (3, .ref (X.2.2 (10, a1.toNatClampNeg, 0))), (0, .ref (X.2.2 (0, 0, 0))), (1, .int a1), (2, .int a2)]) hx hb dO_topUp_64 hl (by decide) rfl (fun ls hl => ?_)
          refine lv_aload_n hx hb dO_topUp_66 rfl (lv_at hl 2 rfl) ?_
          refine fw_get (X := X) (v := .ref (X.2.2 (3, 0, 0))) hx hb hts hin_O hown hK hW (0, 0, 0) cv0 rfl rfl 2 (by decide) (htb _ m_143 rfl) (fun _ h => h) rfl rfl dO_topUp_67 ?_
          refine lv_iload_n hx hb dO_topUp_70 rfl (lv_at hl 3 rfl) ?_
          refine fw_aald (X := X) hx hb hK hW (3, 0, 0) cv3 rfl 3 rfl rfl a1.toNatClampNeg rfl (11, a1.toNatClampNeg, 0) rfl (ib_in ‹¬ cs_isBelow a1 4 = 0›) dO_topUp_71 ?_
          have hV12 : cV (11, a1.toNatClampNeg, 0) := (cve11 (vi_lt (ib_in ‹¬ cs_isBelow a1 4 = 0›)))
          refine lv_aload_n hx hb dO_topUp_72 rfl (lv_at hl 1 rfl) ?_
          refine fw_kp (va_runV (As := []) (rest := [.ref (X.2.2 (11, a1.toNatClampNeg, 0))]) ⟨hx, hb, hml, hown, hts⟩ (c_counter l X hI σ8 a1.toNatClampNeg (hV4).1 ) (cwV 0 hts (tb_V m_243 m_288 m_241 m_242 m_27) rfl rfl rfl (by decide +kernel) ⟨Nat.le_of_ble_eq_true rfl, Nat.le_of_ble_eq_true rfl⟩) (fw_preV (X := X) hK hnb hW (10, a1.toNatClampNeg, 0) hV4 rfl rfl []) rfl rfl hl.1 rfl (lv_room (Nat.le_of_ble_eq_true rfl)) dO_topUp_73 ⟨Nat.zero_le _, Nat.zero_le _⟩) hS (fun H locs hW hS => ?_)
          refine lv_iload_n hx hb dO_topUp_76 rfl (lv_at hl 4 rfl) ?_
          refine lv_iload hx hb dO_topUp_77 (lv_at hl 0 rfl) ?_
          refine fw_kv (va_runV (As := [.int (cs_counter σ8 a1.toNatClampNeg), .int a2, .int z10]) (rest := []) ⟨hx, hb, hml, hown, hts⟩ (c_enterTopUp l X hI σ8 a1.toNatClampNeg (hV12).1 (cs_counter σ8 a1.toNatClampNeg) a2 z10 ) (cwV 3 hts (tb_V m_305 m_302 m_303 m_304 m_29) rfl rfl rfl (by decide +kernel) ⟨Nat.le_of_ble_eq_true rfl, Nat.le_of_ble_eq_true rfl⟩) (fw_preV (X := X) hK hnb hW (11, a1.toNatClampNeg, 0) hV12 rfl rfl [.int (cs_counter σ8 a1.toNatClampNeg), .int a2, .int z10]) rfl rfl hl.1 rfl (lv_room (Nat.le_of_ble_eq_true rfl)) dO_topUp_79 ⟨Nat.zero_le _, Nat.zero_le _⟩) hS (fun H locs hW hS => ?_)
          obtain ⟨σ13, e14⟩ : ∃ z : fw_S, z = cs_enterTopUp σ8 a1.toNatClampNeg (cs_counter σ8 a1.toNatClampNeg) a2 z10 := ⟨_, rfl⟩
          rw [← e14] at hW
          try rw [← e14] at he
          unfold cs_topUp_s4 at he
          refine lv_iload hx hb dO_topUp_82 (lv_at hl 0 rfl) ?_
          exact fw_iret hx hb hr hlocks hK hnb hW hS he dO_topUp_84
        · rw [if_neg c5] at he
          refine lv_iconst (v := (-1)) hx hb dO_topUp_42 (by decide) ?_
          exact fw_iret hx hb hr hlocks hK hnb hW hS he dO_topUp_43
      · rw [if_neg c3] at he
        refine lv_iconst (v := (-1)) hx hb dO_topUp_20 (by decide) ?_
        exact fw_iret hx hb hr hlocks hK hnb hW hS he dO_topUp_21
def cs_receiveEntry_s4 (σ10 : fw_S) : fw_S :=
  σ10
def cs_receiveEntry_s3 (a1 : Int32) (z5 : Int32) (σ8 : fw_S) : fw_S :=
  cs_receiveEntry_s4 (fw_st σ8 (5, 0, 0) a1.toNatClampNeg ((σ8 (5, 0, 0) a1.toNatClampNeg) + z5))
def cs_receiveEntry_s2 (a1 : Int32) (a2 : Int32) (σ : fw_S) (z2 : Int32) (z5 : Int32) : fw_S :=
  cs_receiveEntry_s3 a1 z5 (cs_enterCharge σ z2.toNatClampNeg (cs_readEntry σ a1.toNatClampNeg a2 1) z5 (cs_readEntry σ a1.toNatClampNeg a2 3))
def cs_receiveEntry_s1 (a1 : Int32) (a2 : Int32) (σ : fw_S) (z2 : Int32) : fw_S :=
  if (cs_isBelow z2 4) = 0 then σ else cs_receiveEntry_s2 a1 a2 σ z2 (cs_readEntry σ a1.toNatClampNeg a2 2)
def cs_receiveEntry (σ : fw_S) (a1 : Int32) (a2 : Int32) : fw_S :=
  cs_receiveEntry_s1 a1 a2 σ (cs_readEntry σ a1.toNatClampNeg a2 0)
set_option maxHeartbeats 4000000 in
set_option maxRecDepth 100000 in
theorem c_receiveEntry (l : Launch) (X : fw_X) (hI : fw_I cV X) (σ : fw_S) (a1 a2 : Int32) (h1 : vp_in a1 4) (h2 : vp_in a2 8) : fw_Mv fw_cl csh cV fw_tys l yO_receiveEntry wO_receiveEntry (fw_rm 4) X σ [.ref (X.2.2 (0, 0, 0)), .int a1, .int a2] (cs_receiveEntry σ a1 a2) := by
  obtain ⟨out, he⟩ : ∃ z : fw_S, z = cs_receiveEntry σ a1 a2 := ⟨_, rfl⟩
  rw [← he]
  refine fw_Mv_of (cc := bO_receiveEntry) (maxL := 6) (ret := none) (by decide) rfl (Nat.le_of_ble_eq_true rfl) ?_
  intro p e s m below meth c ls hx hb hr hml hlocks hown hts hK hnb hW hl
  have hS : va_S (fw_A cV X) s.heap s.heap [] := va_S.rf
  have hA : ∀ t, cV t → fw_A cV X (X.2.2 t) := fun t h => ⟨t, h, rfl⟩
  have htb := tb_use hts
  have hl : lv_has ls 6 [(0, .ref (X.2.2 (0, 0, 0))), (1, .int a1), (2, .int a2)] := hl
  have hown : s.vm.findClass "TapOffice" = some m.cls := hown
  unfold cs_receiveEntry at he
  refine lv_aload_n hx hb dO_receiveEntry_0 rfl (lv_at hl 0 rfl) ?_
  refine fw_get (X := X) (v := .ref (X.2.2 (4, 0, 0))) hx hb hts hin_O hown hK hW (0, 0, 0) cv0 rfl rfl 3 (by decide) (htb _ m_144 rfl) (fun _ h => h) rfl rfl dO_receiveEntry_1 ?_
  refine lv_iload_n hx hb dO_receiveEntry_4 rfl (lv_at hl 1 rfl) ?_
  refine fw_aald (X := X) hx hb hK hW (4, 0, 0) cv4 rfl 4 rfl rfl a1.toNatClampNeg rfl (12, a1.toNatClampNeg, 0) rfl h1 dO_receiveEntry_5 ?_
  have hV1 : cV (12, a1.toNatClampNeg, 0) := (cve12 (vi_lt h1))
  refine lv_astore_n (lv' := [(3, .ref (X.2.2 (12, a1.toNatClampNeg, 0))), (0, .ref (X.2.2 (0, 0, 0))), (1, .int a1), (2, .int a2)]) hx hb dO_receiveEntry_6 rfl hl (by decide) rfl (fun ls hl => ?_)
  refine lv_aload_n hx hb dO_receiveEntry_7 rfl (lv_at hl 0 rfl) ?_
  refine lv_iload_n hx hb dO_receiveEntry_8 rfl (lv_at hl 3 rfl) ?_
  refine lv_iconst (v := 0) hx hb dO_receiveEntry_9 (by decide) ?_
  refine fw_kp (va_runV (As := [.int a2, .int 0]) (rest := []) ⟨hx, hb, hml, hown, hts⟩ (c_readEntry l X hI σ a1.toNatClampNeg (hV1).1 a2 0 (h2) (by unfold vp_in; decide)) (cwV 2 hts (tb_V m_326 m_323 m_324 m_325 m_30) rfl rfl rfl (by decide +kernel) ⟨Nat.le_of_ble_eq_true rfl, Nat.le_of_ble_eq_true rfl⟩) (fw_preV (X := X) hK hnb hW (12, a1.toNatClampNeg, 0) hV1 rfl rfl [.int a2, .int 0]) rfl rfl hl.1 rfl (lv_room (Nat.le_of_ble_eq_true rfl)) dO_receiveEntry_10 ⟨Nat.zero_le _, Nat.zero_le _⟩) hS (fun H locs hW hS => ?_)
  refine lv_topi (fun z2 e3 => ?_)
  try rw [← e3] at he
  unfold cs_receiveEntry_s1 at he
  refine lv_istore (lv' := [(4, .int z2), (3, .ref (X.2.2 (12, a1.toNatClampNeg, 0))), (0, .ref (X.2.2 (0, 0, 0))), (1, .int a1), (2, .int a2)]) hx hb dO_receiveEntry_13 hl (by decide) rfl (fun ls hl => ?_)
  refine lv_iload hx hb dO_receiveEntry_15 (lv_at hl 0 rfl) ?_
  refine lv_iconst (v := 4) hx hb dO_receiveEntry_17 (by decide) ?_
  refine fw_kp (va_runS (As := [.int z2, .int 4]) (rest := []) ⟨hx, hb, hml, hown, hts⟩ (c_isBelow l X hI σ z2 4 ) (va_cwS 2 hts (tb_S m_172 m_170 m_171 m_25) rfl rfl rfl (by decide +kernel) ⟨Nat.le_of_ble_eq_true rfl, Nat.le_of_ble_eq_true rfl⟩) (fw_preS (X := X) hK hnb hW [.int z2, .int 4]) rfl rfl hl.1 rfl (lv_room (Nat.le_of_ble_eq_true rfl)) dO_receiveEntry_18 ⟨Nat.zero_le _, Nat.zero_le _⟩) hS (fun H locs hW hS => ?_)
  refine lv_if_ne (tgt := 25) hx hb dO_receiveEntry_21 (by decide) (fun c4 => ?_) (fun c4 => ?_)
  · rw [if_neg c4] at he
    refine lv_aload_n hx hb dO_receiveEntry_25 rfl (lv_at hl 1 rfl) ?_
    refine lv_iload_n hx hb dO_receiveEntry_26 rfl (lv_at hl 4 rfl) ?_
    refine lv_iconst (v := 2) hx hb dO_receiveEntry_27 (by decide) ?_
    refine fw_kp (va_runV (As := [.int a2, .int 2]) (rest := []) ⟨hx, hb, hml, hown, hts⟩ (c_readEntry l X hI σ a1.toNatClampNeg (hV1).1 a2 2 (h2) (by unfold vp_in; decide)) (cwV 2 hts (tb_V m_326 m_323 m_324 m_325 m_30) rfl rfl rfl (by decide +kernel) ⟨Nat.le_of_ble_eq_true rfl, Nat.le_of_ble_eq_true rfl⟩) (fw_preV (X := X) hK hnb hW (12, a1.toNatClampNeg, 0) hV1 rfl rfl [.int a2, .int 2]) rfl rfl hl.1 rfl (lv_room (Nat.le_of_ble_eq_true rfl)) dO_receiveEntry_28 ⟨Nat.zero_le _, Nat.zero_le _⟩) hS (fun H locs hW hS => ?_)
    refine lv_topi (fun z5 e6 => ?_)
    try rw [← e6] at he
    unfold cs_receiveEntry_s2 at he
    refine lv_istore (lv' := [(5, .int z5), (4, .int z2), (3, .ref (X.2.2 (12, a1.toNatClampNeg, 0))), (0, .ref (X.2.2 (0, 0, 0))), (1, .int a1), (2, .int a2)]) hx hb dO_receiveEntry_31 hl (by decide) rfl (fun ls hl => ?_)
    refine lv_aload_n hx hb dO_receiveEntry_33 rfl (lv_at hl 3 rfl) ?_
    refine fw_get (X := X) (v := .ref (X.2.2 (3, 0, 0))) hx hb hts hin_O hown hK hW (0, 0, 0) cv0 rfl rfl 2 (by decide) (htb _ m_143 rfl) (fun _ h => h) rfl rfl dO_receiveEntry_34 ?_
    refine lv_iload hx hb dO_receiveEntry_37 (lv_at hl 1 rfl) ?_
    refine fw_aald (X := X) hx hb hK hW (3, 0, 0) cv3 rfl 3 rfl rfl z2.toNatClampNeg rfl (11, z2.toNatClampNeg, 0) rfl (ib_in ‹¬ cs_isBelow z2 4 = 0›) dO_receiveEntry_39 ?_
    have hV7 : cV (11, z2.toNatClampNeg, 0) := (cve11 (vi_lt (ib_in ‹¬ cs_isBelow z2 4 = 0›)))
    refine lv_aload_n hx hb dO_receiveEntry_40 rfl (lv_at hl 2 rfl) ?_
    refine lv_iload_n hx hb dO_receiveEntry_41 rfl (lv_at hl 5 rfl) ?_
    refine lv_iconst (v := 1) hx hb dO_receiveEntry_42 (by decide) ?_
    refine fw_kp (va_runV (As := [.int a2, .int 1]) (rest := [.ref (X.2.2 (11, z2.toNatClampNeg, 0))]) ⟨hx, hb, hml, hown, hts⟩ (c_readEntry l X hI σ a1.toNatClampNeg (hV1).1 a2 1 (h2) (by unfold vp_in; decide)) (cwV 2 hts (tb_V m_326 m_323 m_324 m_325 m_30) rfl rfl rfl (by decide +kernel) ⟨Nat.le_of_ble_eq_true rfl, Nat.le_of_ble_eq_true rfl⟩) (fw_preV (X := X) hK hnb hW (12, a1.toNatClampNeg, 0) hV1 rfl rfl [.int a2, .int 1]) rfl rfl hl.1 rfl (lv_room (Nat.le_of_ble_eq_true rfl)) dO_receiveEntry_43 ⟨Nat.zero_le _, Nat.zero_le _⟩) hS (fun H locs hW hS => ?_)
    refine lv_iload hx hb dO_receiveEntry_46 (lv_at hl 0 rfl) ?_
    refine lv_aload_n hx hb dO_receiveEntry_48 rfl (lv_at hl 2 rfl) ?_
    refine lv_iload_n hx hb dO_receiveEntry_49 rfl (lv_at hl 5 rfl) ?_
    refine lv_iconst (v := 3) hx hb dO_receiveEntry_50 (by decide) ?_
    refine fw_kp (va_runV (As := [.int a2, .int 3]) (rest := [.int z5, .int (cs_readEntry σ a1.toNatClampNeg a2 1), .ref (X.2.2 (11, z2.toNatClampNeg, 0))]) ⟨hx, hb, hml, hown, hts⟩ (c_readEntry l X hI σ a1.toNatClampNeg (hV1).1 a2 3 (h2) (by unfold vp_in; decide)) (cwV 2 hts (tb_V m_326 m_323 m_324 m_325 m_30) rfl rfl rfl (by decide +kernel) ⟨Nat.le_of_ble_eq_true rfl, Nat.le_of_ble_eq_true rfl⟩) (fw_preV (X := X) hK hnb hW (12, a1.toNatClampNeg, 0) hV1 rfl rfl [.int a2, .int 3]) rfl rfl hl.1 rfl (lv_room (Nat.le_of_ble_eq_true rfl)) dO_receiveEntry_51 ⟨Nat.zero_le _, Nat.zero_le _⟩) hS (fun H locs hW hS => ?_)
    refine fw_kv (va_runV (As := [.int (cs_readEntry σ a1.toNatClampNeg a2 1), .int z5, .int (cs_readEntry σ a1.toNatClampNeg a2 3)]) (rest := []) ⟨hx, hb, hml, hown, hts⟩ (c_enterCharge l X hI σ z2.toNatClampNeg (hV7).1 (cs_readEntry σ a1.toNatClampNeg a2 1) z5 (cs_readEntry σ a1.toNatClampNeg a2 3) ) (cwV 3 hts (tb_V m_330 m_327 m_328 m_329 m_29) rfl rfl rfl (by decide +kernel) ⟨Nat.le_of_ble_eq_true rfl, Nat.le_of_ble_eq_true rfl⟩) (fw_preV (X := X) hK hnb hW (11, z2.toNatClampNeg, 0) hV7 rfl rfl [.int (cs_readEntry σ a1.toNatClampNeg a2 1), .int z5, .int (cs_readEntry σ a1.toNatClampNeg a2 3)]) rfl rfl hl.1 rfl (lv_room (Nat.le_of_ble_eq_true rfl)) dO_receiveEntry_54 ⟨Nat.zero_le _, Nat.zero_le _⟩) hS (fun H locs hW hS => ?_)
    obtain ⟨σ8, e9⟩ : ∃ z : fw_S, z = cs_enterCharge σ z2.toNatClampNeg (cs_readEntry σ a1.toNatClampNeg a2 1) z5 (cs_readEntry σ a1.toNatClampNeg a2 3) := ⟨_, rfl⟩
    rw [← e9] at hW
    try rw [← e9] at he
    unfold cs_receiveEntry_s3 at he
    refine lv_aload_n hx hb dO_receiveEntry_57 rfl (lv_at hl 3 rfl) ?_
    refine fw_get (X := X) (v := .ref (X.2.2 (5, 0, 0))) hx hb hts hin_O hown hK hW (0, 0, 0) cv0 rfl rfl 4 (by decide) (htb _ m_145 rfl) (fun _ h => h) rfl rfl dO_receiveEntry_58 ?_
    refine lv_iload_n hx hb dO_receiveEntry_61 rfl (lv_at hl 4 rfl) ?_
    refine lv_dup2_11 hx hb dO_receiveEntry_62 rfl rfl ?_
    refine fw_iald (X := X) hx hb hK hW (5, 0, 0) cv5 rfl 0 rfl a1.toNatClampNeg rfl h1 dO_receiveEntry_63 ?_
    refine lv_iload hx hb dO_receiveEntry_64 (lv_at hl 0 rfl) ?_
    refine lv_iadd hx hb dO_receiveEntry_66 ?_
    refine fw_iast (X := X) hx hb hK hW hI hA hS (5, 0, 0) cv5 rfl 0 rfl a1.toNatClampNeg rfl h1 dO_receiveEntry_67 (fun H locs hW hS => ?_)
    obtain ⟨σ10, e11⟩ : ∃ z : fw_S, z = fw_st σ8 (5, 0, 0) a1.toNatClampNeg ((σ8 (5, 0, 0) a1.toNatClampNeg) + z5) := ⟨_, rfl⟩
    rw [← e11] at hW
    try rw [← e11] at he
    unfold cs_receiveEntry_s4 at he
    exact fw_vret hx hb hr hlocks hK hnb hW hS he dO_receiveEntry_68
  · rw [if_pos c4] at he
    exact fw_vret hx hb hr hlocks hK hnb hW hS he dO_receiveEntry_24
def cs_upload_s3 (z4 : Int32) (σ9 : fw_S) : Int32 × fw_S :=
  (z4, σ9)
def cs_upload_s2 (a1 : Int32) (z4 : Int32) (σ7 : fw_S) : Int32 × fw_S :=
  cs_upload_s3 z4 (cs_takeDenied σ7 a1.toNatClampNeg (σ7 (0, 0, 0) 6))
def cs_upload_s4 (x5 : Int32) (rec : Int32 → fw_S → Int32 × fw_S) (σ11 : fw_S) : Int32 × fw_S :=
  rec (x5 + 1) σ11
def cs_upload_lp (a1 : Int32) (z4 : Int32) : Nat → Int32 → fw_S → Int32 × fw_S
  | 0, _, τ => (0, τ)
  | n + 1, x5, τ => if z4 ≤ x5 then cs_upload_s2 a1 z4 (cs_emptyLog τ a1.toNatClampNeg) else cs_upload_s4 x5 (cs_upload_lp a1 z4 n) (cs_receiveEntry τ a1 x5)
def cs_upload_s1 (a1 : Int32) (σ : fw_S) (z4 : Int32) : Int32 × fw_S :=
  cs_upload_lp a1 z4 (8 + 1) 0 σ
def cs_upload (σ : fw_S) (a1 : Int32) (a2 : Int32) : Int32 × fw_S :=
  if (cs_isBelow a1 4) = 0 then ((-1), σ) else if a2 = 0 then cs_upload_s1 a1 σ (cs_logSize σ a1.toNatClampNeg) else (0, σ)
set_option maxHeartbeats 4000000 in
set_option maxRecDepth 100000 in
theorem c_upload_lp {p : Program} {e : Env} {s : State} {m : MethodId} {below : List Frame} {meth : Method} {c : Code} {args : Array Value} (l : Launch) (X : fw_X) (hI : fw_I cV X) (σ : fw_S) (a1 a2 : Int32) (he8 : ∀ v, v < 4 → σ (12, v, 0) 1 ≤ 8) (h1 : vp_in a1 4) (z4 : Int32) (hq : z4 ≤ 8) (hV3 : cV (12, a1.toNatClampNeg, 0)) (out : Int32 × fw_S)
    (hx : p.tables.exec = Jvm.exec) (hb : c.code = bO_upload) (hr : meth.sig.returnType = (some .int)) (hml : c.maxLocals = 6) (hlocks : meth.locks = false) (hown : s.vm.findClass "TapOffice" = some m.cls) (hts : ∀ w ∈ wO_upload, w.before args s = true) (hK : va_K X.1 fw_cl (fw_tys X.2.1) s) (hnb : va_Nw fw_nb s) :
    ∀ (n : Nat) (x5 : Int32) (j : Nat), x5 = nI j → j ≤ 8 → 8 + 1 ≤ j + n → ∀ (τ : fw_S), ∀ (H : Heap) (locs : List Loc), fw_W fw_cl csh cV X τ H → va_S (fw_A cV X) s.heap H locs → ∀ (ls : Array Slot), lv_has ls 6 [(0, .ref (X.2.2 (0, 0, 0))), (1, .int a1), (2, .int a2), (3, .ref (X.2.2 (12, a1.toNatClampNeg, 0))), (4, .int z4), (5, .int x5)] → out = cs_upload_lp a1 z4 n x5 τ → W p l e (fw_rm 5) s m args below meth c H locs 0 0 (MQ below (va_Qi (fun r u => (r, u) = out) (fun u t => fw_O fw_cl csh cV fw_tys X u t) (fw_A cV X)) args s 0 0 (fw_A cV X)) (F0 m 32 ls []) := by
  have hA : ∀ t, cV t → fw_A cV X (X.2.2 t) := fun t h => ⟨t, h, rfl⟩
  have htb := tb_use hts
  intro n
  induction n with
  | zero =>
    intro x5 j hj h1 h2
    exact absurd h2 (by omega)
  | succ n ih =>
    intro x5 j hj hj1 hj2 τ H locs hW hS ls hl he
    rw [cs_upload_lp] at he
    refine lv_iload hx hb dO_upload_32 (lv_at hl 5 rfl) ?_
    refine lv_iload hx hb dO_upload_34 (lv_at hl 4 rfl) ?_
    refine lv_icmp_ge (tgt := 52) hx hb dO_upload_36 (by decide) (fun c6 => ?_) (fun c6 => ?_)
    · rw [if_pos c6] at he
      refine lv_aload_n hx hb dO_upload_52 rfl (lv_at hl 3 rfl) ?_
      refine fw_kv (va_runV (As := []) (rest := []) ⟨hx, hb, hml, hown, hts⟩ (c_emptyLog l X hI τ a1.toNatClampNeg (hV3).1 ) (cwV 0 hts (tb_V m_334 m_331 m_332 m_333 m_30) rfl rfl rfl (by decide +kernel) ⟨Nat.le_of_ble_eq_true rfl, Nat.le_of_ble_eq_true rfl⟩) (fw_preV (X := X) hK hnb hW (12, a1.toNatClampNeg, 0) hV3 rfl rfl []) rfl rfl hl.1 rfl (lv_room (Nat.le_of_ble_eq_true rfl)) dO_upload_53 ⟨Nat.zero_le _, Nat.zero_le _⟩) hS (fun H locs hW hS => ?_)
      obtain ⟨σ7, e8⟩ : ∃ z : fw_S, z = cs_emptyLog τ a1.toNatClampNeg := ⟨_, rfl⟩
      rw [← e8] at hW
      try rw [← e8] at he
      unfold cs_upload_s2 at he
      refine lv_aload_n hx hb dO_upload_56 rfl (lv_at hl 3 rfl) ?_
      refine lv_aload_n hx hb dO_upload_57 rfl (lv_at hl 0 rfl) ?_
      refine fw_get (X := X) (v := .int (σ7 (0, 0, 0) 6)) hx hb hts hin_O hown hK hW (0, 0, 0) cv0 rfl rfl 6 (by decide) (htb _ m_147 rfl) (fun _ h => h) rfl rfl dO_upload_58 ?_
      refine fw_kv (va_runV (As := [.int (σ7 (0, 0, 0) 6)]) (rest := []) ⟨hx, hb, hml, hown, hts⟩ (c_takeDenied l X hI σ7 a1.toNatClampNeg (hV3).1 (σ7 (0, 0, 0) 6) ) (cwV 1 hts (tb_V m_338 m_335 m_336 m_337 m_30) rfl rfl rfl (by decide +kernel) ⟨Nat.le_of_ble_eq_true rfl, Nat.le_of_ble_eq_true rfl⟩) (fw_preV (X := X) hK hnb hW (12, a1.toNatClampNeg, 0) hV3 rfl rfl [.int (σ7 (0, 0, 0) 6)]) rfl rfl hl.1 rfl (lv_room (Nat.le_of_ble_eq_true rfl)) dO_upload_61 ⟨Nat.zero_le _, Nat.zero_le _⟩) hS (fun H locs hW hS => ?_)
      obtain ⟨σ9, e10⟩ : ∃ z : fw_S, z = cs_takeDenied σ7 a1.toNatClampNeg (σ7 (0, 0, 0) 6) := ⟨_, rfl⟩
      rw [← e10] at hW
      try rw [← e10] at he
      unfold cs_upload_s3 at he
      refine lv_iload hx hb dO_upload_64 (lv_at hl 4 rfl) ?_
      exact fw_iret hx hb hr hlocks hK hnb hW hS he dO_upload_66
    · rw [if_neg c6] at he
      have hlt : j < 8 := up_lt hj hj1 hq c6
      have hin : vp_in x5 8 := by rw [hj]; exact vp_in_nI hlt (by decide)
      refine lv_aload_n hx hb dO_upload_39 rfl (lv_at hl 0 rfl) ?_
      refine lv_iload_n hx hb dO_upload_40 rfl (lv_at hl 1 rfl) ?_
      refine lv_iload hx hb dO_upload_41 (lv_at hl 5 rfl) ?_
      refine fw_kv (va_runV (As := [.int a1, .int x5]) (rest := []) ⟨hx, hb, hml, hown, hts⟩ (c_receiveEntry l X hI τ a1 x5 (h1) (hin)) (cwV 2 hts (tb_V m_322 m_319 m_321 m_7 m_25) rfl rfl rfl (by decide +kernel) ⟨Nat.le_of_ble_eq_true rfl, Nat.le_of_ble_eq_true rfl⟩) (fw_preV (X := X) hK hnb hW (0, 0, 0) cv0 rfl rfl [.int a1, .int x5]) rfl rfl hl.1 rfl (lv_room (Nat.le_of_ble_eq_true rfl)) dO_upload_43 ⟨Nat.zero_le _, Nat.zero_le _⟩) hS (fun H locs hW hS => ?_)
      obtain ⟨σ11, e12⟩ : ∃ z : fw_S, z = cs_receiveEntry τ a1 x5 := ⟨_, rfl⟩
      rw [← e12] at hW
      try rw [← e12] at he
      unfold cs_upload_s4 at he
      refine lv_iinc (v := x5 + 1) (lv' := [(5, .int (x5 + 1)), (0, .ref (X.2.2 (0, 0, 0))), (1, .int a1), (2, .int a2), (3, .ref (X.2.2 (12, a1.toNatClampNeg, 0))), (4, .int z4)]) hx hb dO_upload_46 hl (k := 5) rfl (by rfl) (by decide) rfl (fun ls hl => ?_)
      refine lv_goto (tgt := 32) hx hb dO_upload_49 (by decide) ?_
      exact ih (x5 + 1) (j + 1) (by rw [hj]; exact nI_1 j) hlt (by omega) σ11 _ _ hW hS ls (lv_sub hl [1, 2, 3, 4, 5, 0] rfl) he
set_option maxHeartbeats 4000000 in
set_option maxRecDepth 100000 in
theorem c_upload (l : Launch) (X : fw_X) (hI : fw_I cV X) (σ : fw_S) (a1 a2 : Int32) (he8 : ∀ v, v < 4 → σ (12, v, 0) 1 ≤ 8) : fw_Mi fw_cl csh cV fw_tys l yO_upload wO_upload (fw_rm 5) X σ [.ref (X.2.2 (0, 0, 0)), .int a1, .int a2] (cs_upload σ a1 a2) := by
  obtain ⟨out, he⟩ : ∃ z : Int32 × fw_S, z = cs_upload σ a1 a2 := ⟨_, rfl⟩
  rw [← he]
  refine fw_Mi_of (cc := bO_upload) (maxL := 6) (ret := (some .int)) (by decide) rfl (Nat.le_of_ble_eq_true rfl) ?_
  intro p e s m below meth c ls hx hb hr hml hlocks hown hts hK hnb hW hl
  have hS : va_S (fw_A cV X) s.heap s.heap [] := va_S.rf
  have hA : ∀ t, cV t → fw_A cV X (X.2.2 t) := fun t h => ⟨t, h, rfl⟩
  have htb := tb_use hts
  have hl : lv_has ls 6 [(0, .ref (X.2.2 (0, 0, 0))), (1, .int a1), (2, .int a2)] := hl
  have hown : s.vm.findClass "TapOffice" = some m.cls := hown
  unfold cs_upload at he
  refine lv_iload_n hx hb dO_upload_0 rfl (lv_at hl 1 rfl) ?_
  refine lv_iconst (v := 4) hx hb dO_upload_1 (by decide) ?_
  refine fw_kp (va_runS (As := [.int a1, .int 4]) (rest := []) ⟨hx, hb, hml, hown, hts⟩ (c_isBelow l X hI σ a1 4 ) (va_cwS 2 hts (tb_S m_172 m_170 m_171 m_25) rfl rfl rfl (by decide +kernel) ⟨Nat.le_of_ble_eq_true rfl, Nat.le_of_ble_eq_true rfl⟩) (fw_preS (X := X) hK hnb hW [.int a1, .int 4]) rfl rfl hl.1 rfl (lv_room (Nat.le_of_ble_eq_true rfl)) dO_upload_2 ⟨Nat.zero_le _, Nat.zero_le _⟩) hS (fun H locs hW hS => ?_)
  refine lv_if_ne (tgt := 10) hx hb dO_upload_5 (by decide) (fun c1 => ?_) (fun c1 => ?_)
  · rw [if_neg c1] at he
    refine lv_iload_n hx hb dO_upload_10 rfl (lv_at hl 2 rfl) ?_
    refine lv_if_eq (tgt := 16) hx hb dO_upload_11 (by decide) (fun c2 => ?_) (fun c2 => ?_)
    · rw [if_pos c2] at he
      refine lv_aload_n hx hb dO_upload_16 rfl (lv_at hl 0 rfl) ?_
      refine fw_get (X := X) (v := .ref (X.2.2 (4, 0, 0))) hx hb hts hin_O hown hK hW (0, 0, 0) cv0 rfl rfl 3 (by decide) (htb _ m_144 rfl) (fun _ h => h) rfl rfl dO_upload_17 ?_
      refine lv_iload_n hx hb dO_upload_20 rfl (lv_at hl 1 rfl) ?_
      refine fw_aald (X := X) hx hb hK hW (4, 0, 0) cv4 rfl 4 rfl rfl a1.toNatClampNeg rfl (12, a1.toNatClampNeg, 0) rfl (ib_in ‹¬ cs_isBelow a1 4 = 0›) dO_upload_21 ?_
      have hV3 : cV (12, a1.toNatClampNeg, 0) := (cve12 (vi_lt (ib_in ‹¬ cs_isBelow a1 4 = 0›)))
      refine lv_astore_n (lv' := [(3, .ref (X.2.2 (12, a1.toNatClampNeg, 0))), (0, .ref (X.2.2 (0, 0, 0))), (1, .int a1), (2, .int a2)]) hx hb dO_upload_22 rfl hl (by decide) rfl (fun ls hl => ?_)
      refine lv_aload_n hx hb dO_upload_23 rfl (lv_at hl 0 rfl) ?_
      refine fw_kp (va_runV (As := []) (rest := []) ⟨hx, hb, hml, hown, hts⟩ (c_logSize l X hI σ a1.toNatClampNeg (hV3).1 ) (cwV 0 hts (tb_V m_318 m_315 m_316 m_317 m_30) rfl rfl rfl (by decide +kernel) ⟨Nat.le_of_ble_eq_true rfl, Nat.le_of_ble_eq_true rfl⟩) (fw_preV (X := X) hK hnb hW (12, a1.toNatClampNeg, 0) hV3 rfl rfl []) rfl rfl hl.1 rfl (lv_room (Nat.le_of_ble_eq_true rfl)) dO_upload_24 ⟨Nat.zero_le _, Nat.zero_le _⟩) hS (fun H locs hW hS => ?_)
      refine lv_topi (fun z4 e5 => ?_)
      try rw [← e5] at he
      unfold cs_upload_s1 at he
      refine lv_istore (lv' := [(4, .int z4), (3, .ref (X.2.2 (12, a1.toNatClampNeg, 0))), (0, .ref (X.2.2 (0, 0, 0))), (1, .int a1), (2, .int a2)]) hx hb dO_upload_27 hl (by decide) rfl (fun ls hl => ?_)
      refine lv_iconst (v := 0) hx hb dO_upload_29 (by decide) ?_
      refine lv_istore (lv' := [(5, .int 0), (4, .int z4), (3, .ref (X.2.2 (12, a1.toNatClampNeg, 0))), (0, .ref (X.2.2 (0, 0, 0))), (1, .int a1), (2, .int a2)]) hx hb dO_upload_30 hl (by decide) rfl (fun ls hl => ?_)
      exact c_upload_lp l X hI σ a1 a2 he8 (ib_in ‹¬ cs_isBelow a1 4 = 0›) z4 (by rw [e5]; exact he8 _ (vi_lt (ib_in ‹¬ cs_isBelow a1 4 = 0›))) hV3 out hx hb hr hml hlocks hown hts hK hnb (8 + 1) 0 0 nI_0.symm (by decide) (by decide) σ _ _ hW hS ls (lv_sub hl [3, 4, 5, 2, 1, 0] rfl) he
    · rw [if_neg c2] at he
      refine lv_iconst (v := 0) hx hb dO_upload_14 (by decide) ?_
      exact fw_iret hx hb hr hlocks hK hnb hW hS he dO_upload_15
  · rw [if_pos c1] at he
    refine lv_iconst (v := (-1)) hx hb dO_upload_8 (by decide) ?_
    exact fw_iret hx hb hr hlocks hK hnb hW hS he dO_upload_9
def cs_deny_s1 (σ3 : fw_S) : Int32 × fw_S :=
  (0, σ3)
def cs_deny_s2 (σ5 : fw_S) : Int32 × fw_S :=
  (0, σ5)
def cs_deny (σ : fw_S) (a1 : Int32) (a2 : Int32) : Int32 × fw_S :=
  if (cs_isBelow a1 4) = 0 then ((-1), σ) else if a2 = 0 then cs_deny_s1 (fw_st σ (0, 0, 0) 6 ((σ (0, 0, 0) 6) &&& ((1 <<< (a1 &&& 31)) ^^^ (-1)))) else cs_deny_s2 (fw_st σ (0, 0, 0) 6 ((σ (0, 0, 0) 6) ||| (1 <<< (a1 &&& 31))))
set_option maxHeartbeats 4000000 in
set_option maxRecDepth 100000 in
theorem c_deny (l : Launch) (X : fw_X) (hI : fw_I cV X) (σ : fw_S) (a1 a2 : Int32)  : fw_Mi fw_cl csh cV fw_tys l yO_deny wO_deny (fw_rm 1) X σ [.ref (X.2.2 (0, 0, 0)), .int a1, .int a2] (cs_deny σ a1 a2) := by
  obtain ⟨out, he⟩ : ∃ z : Int32 × fw_S, z = cs_deny σ a1 a2 := ⟨_, rfl⟩
  rw [← he]
  refine fw_Mi_of (cc := bO_deny) (maxL := 3) (ret := (some .int)) (by decide) rfl (Nat.le_of_ble_eq_true rfl) ?_
  intro p e s m below meth c ls hx hb hr hml hlocks hown hts hK hnb hW hl
  have hS : va_S (fw_A cV X) s.heap s.heap [] := va_S.rf
  have hA : ∀ t, cV t → fw_A cV X (X.2.2 t) := fun t h => ⟨t, h, rfl⟩
  have htb := tb_use hts
  have hl : lv_has ls 3 [(0, .ref (X.2.2 (0, 0, 0))), (1, .int a1), (2, .int a2)] := hl
  have hown : s.vm.findClass "TapOffice" = some m.cls := hown
  unfold cs_deny at he
  refine lv_iload_n hx hb dO_deny_0 rfl (lv_at hl 1 rfl) ?_
  refine lv_iconst (v := 4) hx hb dO_deny_1 (by decide) ?_
  refine fw_kp (va_runS (As := [.int a1, .int 4]) (rest := []) ⟨hx, hb, hml, hown, hts⟩ (c_isBelow l X hI σ a1 4 ) (va_cwS 2 hts (tb_S m_172 m_170 m_171 m_25) rfl rfl rfl (by decide +kernel) ⟨Nat.le_of_ble_eq_true rfl, Nat.le_of_ble_eq_true rfl⟩) (fw_preS (X := X) hK hnb hW [.int a1, .int 4]) rfl rfl hl.1 rfl (lv_room (Nat.le_of_ble_eq_true rfl)) dO_deny_2 ⟨Nat.zero_le _, Nat.zero_le _⟩) hS (fun H locs hW hS => ?_)
  refine lv_if_ne (tgt := 10) hx hb dO_deny_5 (by decide) (fun c1 => ?_) (fun c1 => ?_)
  · rw [if_neg c1] at he
    refine lv_aload_n hx hb dO_deny_10 rfl (lv_at hl 0 rfl) ?_
    refine lv_iload_n hx hb dO_deny_11 rfl (lv_at hl 2 rfl) ?_
    refine lv_if_eq (tgt := 26) hx hb dO_deny_12 (by decide) (fun c2 => ?_) (fun c2 => ?_)
    · rw [if_pos c2] at he
      refine lv_aload_n hx hb dO_deny_26 rfl (lv_at hl 0 rfl) ?_
      refine fw_get (X := X) (v := .int (σ (0, 0, 0) 6)) hx hb hts hin_O hown hK hW (0, 0, 0) cv0 rfl rfl 6 (by decide) (htb _ m_147 rfl) (fun _ h => h) rfl rfl dO_deny_27 ?_
      refine lv_iconst (v := 1) hx hb dO_deny_30 (by decide) ?_
      refine lv_iload_n hx hb dO_deny_31 rfl (lv_at hl 1 rfl) ?_
      refine lv_ishl hx hb dO_deny_32 ?_
      refine lv_iconst (v := (-1)) hx hb dO_deny_33 (by decide) ?_
      refine lv_ixor hx hb dO_deny_34 ?_
      refine lv_iand hx hb dO_deny_35 ?_
      refine fw_put (X := X) hx hb hts hin_O ty_O ty_O_ok nm_O hown hK hW hI hA hS (0, 0, 0) cv0 rfl rfl rfl 6 (by decide) (htb _ m_147 rfl) (fun _ h => h) rfl rfl (ty := .int) (by decide +kernel) rfl rfl dO_deny_36 (fun H locs hW hS => ?_)
      obtain ⟨σ3, e4⟩ : ∃ z : fw_S, z = fw_st σ (0, 0, 0) 6 ((σ (0, 0, 0) 6) &&& ((1 <<< (a1 &&& 31)) ^^^ (-1))) := ⟨_, rfl⟩
      rw [← e4] at hW
      try rw [← e4] at he
      unfold cs_deny_s1 at he
      refine lv_iconst (v := 0) hx hb dO_deny_39 (by decide) ?_
      exact fw_iret hx hb hr hlocks hK hnb hW hS he dO_deny_40
    · rw [if_neg c2] at he
      refine lv_aload_n hx hb dO_deny_15 rfl (lv_at hl 0 rfl) ?_
      refine fw_get (X := X) (v := .int (σ (0, 0, 0) 6)) hx hb hts hin_O hown hK hW (0, 0, 0) cv0 rfl rfl 6 (by decide) (htb _ m_147 rfl) (fun _ h => h) rfl rfl dO_deny_16 ?_
      refine lv_iconst (v := 1) hx hb dO_deny_19 (by decide) ?_
      refine lv_iload_n hx hb dO_deny_20 rfl (lv_at hl 1 rfl) ?_
      refine lv_ishl hx hb dO_deny_21 ?_
      refine lv_ior hx hb dO_deny_22 ?_
      refine lv_goto (tgt := 36) hx hb dO_deny_23 (by decide) ?_
      refine fw_put (X := X) hx hb hts hin_O ty_O ty_O_ok nm_O hown hK hW hI hA hS (0, 0, 0) cv0 rfl rfl rfl 6 (by decide) (htb _ m_147 rfl) (fun _ h => h) rfl rfl (ty := .int) (by decide +kernel) rfl rfl dO_deny_36 (fun H locs hW hS => ?_)
      obtain ⟨σ5, e6⟩ : ∃ z : fw_S, z = fw_st σ (0, 0, 0) 6 ((σ (0, 0, 0) 6) ||| (1 <<< (a1 &&& 31))) := ⟨_, rfl⟩
      rw [← e6] at hW
      try rw [← e6] at he
      unfold cs_deny_s2 at he
      refine lv_iconst (v := 0) hx hb dO_deny_39 (by decide) ?_
      exact fw_iret hx hb hr hlocks hK hnb hW hS he dO_deny_40
  · rw [if_pos c1] at he
    refine lv_iconst (v := (-1)) hx hb dO_deny_8 (by decide) ?_
    exact fw_iret hx hb hr hlocks hK hnb hW hS he dO_deny_9
def cs_word (σ : fw_S) (a1 : Int32) (a2 : Int32) (a3 : Int32) : Int32 :=
  if (cs_isBelow a1 4) = 0 then (-1) else if (cs_isBelow a2 2) = 0 then (-1) else if (cs_isBelow a3 8) = 0 then (-1) else (cs_readCopy σ a1.toNatClampNeg a2 a3)
set_option maxHeartbeats 4000000 in
set_option maxRecDepth 100000 in
theorem c_word (l : Launch) (X : fw_X) (hI : fw_I cV X) (σ : fw_S) (a1 a2 a3 : Int32)  : fw_Mi fw_cl csh cV fw_tys l yO_word wO_word (fw_rm 2) X σ [.ref (X.2.2 (0, 0, 0)), .int a1, .int a2, .int a3] ((cs_word σ a1 a2 a3, σ)) := by
  obtain ⟨out, he⟩ : ∃ z : Int32, z = cs_word σ a1 a2 a3 := ⟨_, rfl⟩
  rw [← he]
  refine fw_Mi_of (cc := bO_word) (maxL := 4) (ret := (some .int)) (by decide) rfl (Nat.le_of_ble_eq_true rfl) ?_
  intro p e s m below meth c ls hx hb hr hml hlocks hown hts hK hnb hW hl
  have hS : va_S (fw_A cV X) s.heap s.heap [] := va_S.rf
  have hA : ∀ t, cV t → fw_A cV X (X.2.2 t) := fun t h => ⟨t, h, rfl⟩
  have htb := tb_use hts
  have hl : lv_has ls 4 [(0, .ref (X.2.2 (0, 0, 0))), (1, .int a1), (2, .int a2), (3, .int a3)] := hl
  have hown : s.vm.findClass "TapOffice" = some m.cls := hown
  unfold cs_word at he
  refine lv_iload_n hx hb dO_word_0 rfl (lv_at hl 1 rfl) ?_
  refine lv_iconst (v := 4) hx hb dO_word_1 (by decide) ?_
  refine fw_kp (va_runS (As := [.int a1, .int 4]) (rest := []) ⟨hx, hb, hml, hown, hts⟩ (c_isBelow l X hI σ a1 4 ) (va_cwS 2 hts (tb_S m_172 m_170 m_171 m_25) rfl rfl rfl (by decide +kernel) ⟨Nat.le_of_ble_eq_true rfl, Nat.le_of_ble_eq_true rfl⟩) (fw_preS (X := X) hK hnb hW [.int a1, .int 4]) rfl rfl hl.1 rfl (lv_room (Nat.le_of_ble_eq_true rfl)) dO_word_2 ⟨Nat.zero_le _, Nat.zero_le _⟩) hS (fun H locs hW hS => ?_)
  refine lv_if_eq (tgt := 25) hx hb dO_word_5 (by decide) (fun c1 => ?_) (fun c1 => ?_)
  · rw [if_pos c1] at he
    refine lv_iconst (v := (-1)) hx hb dO_word_25 (by decide) ?_
    exact fw_iret hx hb hr hlocks hK hnb hW hS (by rw [he]) dO_word_26
  · rw [if_neg c1] at he
    refine lv_iload_n hx hb dO_word_8 rfl (lv_at hl 2 rfl) ?_
    refine lv_iconst (v := 2) hx hb dO_word_9 (by decide) ?_
    refine fw_kp (va_runS (As := [.int a2, .int 2]) (rest := []) ⟨hx, hb, hml, hown, hts⟩ (c_isBelow l X hI σ a2 2 ) (va_cwS 2 hts (tb_S m_172 m_170 m_171 m_25) rfl rfl rfl (by decide +kernel) ⟨Nat.le_of_ble_eq_true rfl, Nat.le_of_ble_eq_true rfl⟩) (fw_preS (X := X) hK hnb hW [.int a2, .int 2]) rfl rfl hl.1 rfl (lv_room (Nat.le_of_ble_eq_true rfl)) dO_word_10 ⟨Nat.zero_le _, Nat.zero_le _⟩) hS (fun H locs hW hS => ?_)
    refine lv_if_eq (tgt := 25) hx hb dO_word_13 (by decide) (fun c2 => ?_) (fun c2 => ?_)
    · rw [if_pos c2] at he
      refine lv_iconst (v := (-1)) hx hb dO_word_25 (by decide) ?_
      exact fw_iret hx hb hr hlocks hK hnb hW hS (by rw [he]) dO_word_26
    · rw [if_neg c2] at he
      refine lv_iload_n hx hb dO_word_16 rfl (lv_at hl 3 rfl) ?_
      refine lv_bipush (v := 8) hx hb dO_word_17 (by decide) ?_
      refine fw_kp (va_runS (As := [.int a3, .int 8]) (rest := []) ⟨hx, hb, hml, hown, hts⟩ (c_isBelow l X hI σ a3 8 ) (va_cwS 2 hts (tb_S m_172 m_170 m_171 m_25) rfl rfl rfl (by decide +kernel) ⟨Nat.le_of_ble_eq_true rfl, Nat.le_of_ble_eq_true rfl⟩) (fw_preS (X := X) hK hnb hW [.int a3, .int 8]) rfl rfl hl.1 rfl (lv_room (Nat.le_of_ble_eq_true rfl)) dO_word_19 ⟨Nat.zero_le _, Nat.zero_le _⟩) hS (fun H locs hW hS => ?_)
      refine lv_if_ne (tgt := 27) hx hb dO_word_22 (by decide) (fun c3 => ?_) (fun c3 => ?_)
      · rw [if_neg c3] at he
        refine lv_aload_n hx hb dO_word_27 rfl (lv_at hl 0 rfl) ?_
        refine fw_get (X := X) (v := .ref (X.2.2 (2, 0, 0))) hx hb hts hin_O hown hK hW (0, 0, 0) cv0 rfl rfl 1 (by decide) (htb _ m_142 rfl) (fun _ h => h) rfl rfl dO_word_28 ?_
        refine lv_iload_n hx hb dO_word_31 rfl (lv_at hl 1 rfl) ?_
        refine fw_aald (X := X) hx hb hK hW (2, 0, 0) cv2 rfl 2 rfl rfl a1.toNatClampNeg rfl (10, a1.toNatClampNeg, 0) rfl (ib_in ‹¬ cs_isBelow a1 4 = 0›) dO_word_32 ?_
        have hV4 : cV (10, a1.toNatClampNeg, 0) := (cve10 (vi_lt (ib_in ‹¬ cs_isBelow a1 4 = 0›)))
        refine lv_iload_n hx hb dO_word_33 rfl (lv_at hl 2 rfl) ?_
        refine lv_iload_n hx hb dO_word_34 rfl (lv_at hl 3 rfl) ?_
        refine fw_kp (va_runV (As := [.int a2, .int a3]) (rest := []) ⟨hx, hb, hml, hown, hts⟩ (c_readCopy l X hI σ a1.toNatClampNeg (hV4).1 a2 a3 ((ib_in ‹¬ cs_isBelow a2 2 = 0›)) ((ib_in ‹¬ cs_isBelow a3 8 = 0›))) (cwV 2 hts (tb_V m_350 m_347 m_348 m_349 m_27) rfl rfl rfl (by decide +kernel) ⟨Nat.le_of_ble_eq_true rfl, Nat.le_of_ble_eq_true rfl⟩) (fw_preV (X := X) hK hnb hW (10, a1.toNatClampNeg, 0) hV4 rfl rfl [.int a2, .int a3]) rfl rfl hl.1 rfl (lv_room (Nat.le_of_ble_eq_true rfl)) dO_word_35 ⟨Nat.zero_le _, Nat.zero_le _⟩) hS (fun H locs hW hS => ?_)
        exact fw_iret hx hb hr hlocks hK hnb hW hS (by rw [he]) dO_word_38
      · rw [if_pos c3] at he
        refine lv_iconst (v := (-1)) hx hb dO_word_25 (by decide) ?_
        exact fw_iret hx hb hr hlocks hK hnb hW hS (by rw [he]) dO_word_26
def cs_card (σ : fw_S) (a1 : Int32) (a2 : Int32) : Int32 :=
  if (cs_isBelow a1 4) = 0 then (-1) else if a2 = 0 then (cs_read σ a1.toNatClampNeg 0) else if a2 = 1 then (cs_read σ a1.toNatClampNeg 1) else if a2 = 2 then (cs_read σ a1.toNatClampNeg 2) else if a2 = 3 then (cs_read σ a1.toNatClampNeg 3) else if a2 = 4 then (cs_read σ a1.toNatClampNeg 4) else if a2 = 5 then (cs_read σ a1.toNatClampNeg 5) else if a2 = 6 then (cs_counter σ a1.toNatClampNeg) else if a2 = 7 then (cs_spentOn σ a1.toNatClampNeg ((σ (0, 0, 0) 5) / 1440)) else (-1)
set_option maxHeartbeats 4000000 in
set_option maxRecDepth 100000 in
theorem c_card (l : Launch) (X : fw_X) (hI : fw_I cV X) (σ : fw_S) (a1 a2 : Int32)  : fw_Mi fw_cl csh cV fw_tys l yO_card wO_card (fw_rm 3) X σ [.ref (X.2.2 (0, 0, 0)), .int a1, .int a2] ((cs_card σ a1 a2, σ)) := by
  obtain ⟨out, he⟩ : ∃ z : Int32, z = cs_card σ a1 a2 := ⟨_, rfl⟩
  rw [← he]
  refine fw_Mi_of (cc := bO_card) (maxL := 4) (ret := (some .int)) (by decide) rfl (Nat.le_of_ble_eq_true rfl) ?_
  intro p e s m below meth c ls hx hb hr hml hlocks hown hts hK hnb hW hl
  have hS : va_S (fw_A cV X) s.heap s.heap [] := va_S.rf
  have hA : ∀ t, cV t → fw_A cV X (X.2.2 t) := fun t h => ⟨t, h, rfl⟩
  have htb := tb_use hts
  have hl : lv_has ls 4 [(0, .ref (X.2.2 (0, 0, 0))), (1, .int a1), (2, .int a2)] := hl
  have hown : s.vm.findClass "TapOffice" = some m.cls := hown
  unfold cs_card at he
  refine lv_iload_n hx hb dO_card_0 rfl (lv_at hl 1 rfl) ?_
  refine lv_iconst (v := 4) hx hb dO_card_1 (by decide) ?_
  refine fw_kp (va_runS (As := [.int a1, .int 4]) (rest := []) ⟨hx, hb, hml, hown, hts⟩ (c_isBelow l X hI σ a1 4 ) (va_cwS 2 hts (tb_S m_172 m_170 m_171 m_25) rfl rfl rfl (by decide +kernel) ⟨Nat.le_of_ble_eq_true rfl, Nat.le_of_ble_eq_true rfl⟩) (fw_preS (X := X) hK hnb hW [.int a1, .int 4]) rfl rfl hl.1 rfl (lv_room (Nat.le_of_ble_eq_true rfl)) dO_card_2 ⟨Nat.zero_le _, Nat.zero_le _⟩) hS (fun H locs hW hS => ?_)
  refine lv_if_ne (tgt := 10) hx hb dO_card_5 (by decide) (fun c1 => ?_) (fun c1 => ?_)
  · rw [if_neg c1] at he
    refine lv_aload_n hx hb dO_card_10 rfl (lv_at hl 0 rfl) ?_
    refine fw_get (X := X) (v := .ref (X.2.2 (2, 0, 0))) hx hb hts hin_O hown hK hW (0, 0, 0) cv0 rfl rfl 1 (by decide) (htb _ m_142 rfl) (fun _ h => h) rfl rfl dO_card_11 ?_
    refine lv_iload_n hx hb dO_card_14 rfl (lv_at hl 1 rfl) ?_
    refine fw_aald (X := X) hx hb hK hW (2, 0, 0) cv2 rfl 2 rfl rfl a1.toNatClampNeg rfl (10, a1.toNatClampNeg, 0) rfl (ib_in ‹¬ cs_isBelow a1 4 = 0›) dO_card_15 ?_
    have hV2 : cV (10, a1.toNatClampNeg, 0) := (cve10 (vi_lt (ib_in ‹¬ cs_isBelow a1 4 = 0›)))
    refine lv_astore_n (lv' := [(3, .ref (X.2.2 (10, a1.toNatClampNeg, 0))), (0, .ref (X.2.2 (0, 0, 0))), (1, .int a1), (2, .int a2)]) hx hb dO_card_16 rfl hl (by decide) rfl (fun ls hl => ?_)
    refine lv_iload_n hx hb dO_card_17 rfl (lv_at hl 3 rfl) ?_
    by_cases c4 : a2 = 0
    · rw [if_pos c4] at he
      refine lv_tableIn (tgt := 64) hx hb dO_card_18 (by rw [c4]; decide) (by rw [c4]; decide) (by rw [c4]; rfl) (by decide) ?_
      refine lv_aload_n hx hb dO_card_64 rfl (lv_at hl 0 rfl) ?_
      refine lv_iconst (v := 0) hx hb dO_card_65 (by decide) ?_
      refine fw_kp (va_runV (As := [.int 0]) (rest := []) ⟨hx, hb, hml, hown, hts⟩ (c_read l X hI σ a1.toNatClampNeg (hV2).1 0 (by unfold vp_in; decide)) (cwV 1 hts (tb_V m_218 m_215 m_216 m_217 m_27) rfl rfl rfl (by decide +kernel) ⟨Nat.le_of_ble_eq_true rfl, Nat.le_of_ble_eq_true rfl⟩) (fw_preV (X := X) hK hnb hW (10, a1.toNatClampNeg, 0) hV2 rfl rfl [.int 0]) rfl rfl hl.1 rfl (lv_room (Nat.le_of_ble_eq_true rfl)) dO_card_66 ⟨Nat.zero_le _, Nat.zero_le _⟩) hS (fun H locs hW hS => ?_)
      exact fw_iret hx hb hr hlocks hK hnb hW hS (by rw [he]) dO_card_69
    · rw [if_neg c4] at he
      by_cases c5 : a2 = 1
      · rw [if_pos c5] at he
        refine lv_tableIn (tgt := 70) hx hb dO_card_18 (by rw [c5]; decide) (by rw [c5]; decide) (by rw [c5]; rfl) (by decide) ?_
        refine lv_aload_n hx hb dO_card_70 rfl (lv_at hl 0 rfl) ?_
        refine lv_iconst (v := 1) hx hb dO_card_71 (by decide) ?_
        refine fw_kp (va_runV (As := [.int 1]) (rest := []) ⟨hx, hb, hml, hown, hts⟩ (c_read l X hI σ a1.toNatClampNeg (hV2).1 1 (by unfold vp_in; decide)) (cwV 1 hts (tb_V m_218 m_215 m_216 m_217 m_27) rfl rfl rfl (by decide +kernel) ⟨Nat.le_of_ble_eq_true rfl, Nat.le_of_ble_eq_true rfl⟩) (fw_preV (X := X) hK hnb hW (10, a1.toNatClampNeg, 0) hV2 rfl rfl [.int 1]) rfl rfl hl.1 rfl (lv_room (Nat.le_of_ble_eq_true rfl)) dO_card_72 ⟨Nat.zero_le _, Nat.zero_le _⟩) hS (fun H locs hW hS => ?_)
        exact fw_iret hx hb hr hlocks hK hnb hW hS (by rw [he]) dO_card_75
      · rw [if_neg c5] at he
        by_cases c6 : a2 = 2
        · rw [if_pos c6] at he
          refine lv_tableIn (tgt := 76) hx hb dO_card_18 (by rw [c6]; decide) (by rw [c6]; decide) (by rw [c6]; rfl) (by decide) ?_
          refine lv_aload_n hx hb dO_card_76 rfl (lv_at hl 0 rfl) ?_
          refine lv_iconst (v := 2) hx hb dO_card_77 (by decide) ?_
          refine fw_kp (va_runV (As := [.int 2]) (rest := []) ⟨hx, hb, hml, hown, hts⟩ (c_read l X hI σ a1.toNatClampNeg (hV2).1 2 (by unfold vp_in; decide)) (cwV 1 hts (tb_V m_218 m_215 m_216 m_217 m_27) rfl rfl rfl (by decide +kernel) ⟨Nat.le_of_ble_eq_true rfl, Nat.le_of_ble_eq_true rfl⟩) (fw_preV (X := X) hK hnb hW (10, a1.toNatClampNeg, 0) hV2 rfl rfl [.int 2]) rfl rfl hl.1 rfl (lv_room (Nat.le_of_ble_eq_true rfl)) dO_card_78 ⟨Nat.zero_le _, Nat.zero_le _⟩) hS (fun H locs hW hS => ?_)
          exact fw_iret hx hb hr hlocks hK hnb hW hS (by rw [he]) dO_card_81
        · rw [if_neg c6] at he
          by_cases c7 : a2 = 3
          · rw [if_pos c7] at he
            refine lv_tableIn (tgt := 82) hx hb dO_card_18 (by rw [c7]; decide) (by rw [c7]; decide) (by rw [c7]; rfl) (by decide) ?_
            refine lv_aload_n hx hb dO_card_82 rfl (lv_at hl 0 rfl) ?_
            refine lv_iconst (v := 3) hx hb dO_card_83 (by decide) ?_
            refine fw_kp (va_runV (As := [.int 3]) (rest := []) ⟨hx, hb, hml, hown, hts⟩ (c_read l X hI σ a1.toNatClampNeg (hV2).1 3 (by unfold vp_in; decide)) (cwV 1 hts (tb_V m_218 m_215 m_216 m_217 m_27) rfl rfl rfl (by decide +kernel) ⟨Nat.le_of_ble_eq_true rfl, Nat.le_of_ble_eq_true rfl⟩) (fw_preV (X := X) hK hnb hW (10, a1.toNatClampNeg, 0) hV2 rfl rfl [.int 3]) rfl rfl hl.1 rfl (lv_room (Nat.le_of_ble_eq_true rfl)) dO_card_84 ⟨Nat.zero_le _, Nat.zero_le _⟩) hS (fun H locs hW hS => ?_)
            exact fw_iret hx hb hr hlocks hK hnb hW hS (by rw [he]) dO_card_87
          · rw [if_neg c7] at he
            by_cases c8 : a2 = 4
            · rw [if_pos c8] at he
              refine lv_tableIn (tgt := 88) hx hb dO_card_18 (by rw [c8]; decide) (by rw [c8]; decide) (by rw [c8]; rfl) (by decide) ?_
              refine lv_aload_n hx hb dO_card_88 rfl (lv_at hl 0 rfl) ?_
              refine lv_iconst (v := 4) hx hb dO_card_89 (by decide) ?_
              refine fw_kp (va_runV (As := [.int 4]) (rest := []) ⟨hx, hb, hml, hown, hts⟩ (c_read l X hI σ a1.toNatClampNeg (hV2).1 4 (by unfold vp_in; decide)) (cwV 1 hts (tb_V m_218 m_215 m_216 m_217 m_27) rfl rfl rfl (by decide +kernel) ⟨Nat.le_of_ble_eq_true rfl, Nat.le_of_ble_eq_true rfl⟩) (fw_preV (X := X) hK hnb hW (10, a1.toNatClampNeg, 0) hV2 rfl rfl [.int 4]) rfl rfl hl.1 rfl (lv_room (Nat.le_of_ble_eq_true rfl)) dO_card_90 ⟨Nat.zero_le _, Nat.zero_le _⟩) hS (fun H locs hW hS => ?_)
              exact fw_iret hx hb hr hlocks hK hnb hW hS (by rw [he]) dO_card_93
            · rw [if_neg c8] at he
              by_cases c9 : a2 = 5
              · rw [if_pos c9] at he
                refine lv_tableIn (tgt := 94) hx hb dO_card_18 (by rw [c9]; decide) (by rw [c9]; decide) (by rw [c9]; rfl) (by decide) ?_
                refine lv_aload_n hx hb dO_card_94 rfl (lv_at hl 0 rfl) ?_
                refine lv_iconst (v := 5) hx hb dO_card_95 (by decide) ?_
                refine fw_kp (va_runV (As := [.int 5]) (rest := []) ⟨hx, hb, hml, hown, hts⟩ (c_read l X hI σ a1.toNatClampNeg (hV2).1 5 (by unfold vp_in; decide)) (cwV 1 hts (tb_V m_218 m_215 m_216 m_217 m_27) rfl rfl rfl (by decide +kernel) ⟨Nat.le_of_ble_eq_true rfl, Nat.le_of_ble_eq_true rfl⟩) (fw_preV (X := X) hK hnb hW (10, a1.toNatClampNeg, 0) hV2 rfl rfl [.int 5]) rfl rfl hl.1 rfl (lv_room (Nat.le_of_ble_eq_true rfl)) dO_card_96 ⟨Nat.zero_le _, Nat.zero_le _⟩) hS (fun H locs hW hS => ?_)
                exact fw_iret hx hb hr hlocks hK hnb hW hS (by rw [he]) dO_card_99
              · rw [if_neg c9] at he
                by_cases c10 : a2 = 6
                · rw [if_pos c10] at he
                  refine lv_tableIn (tgt := 100) hx hb dO_card_18 (by rw [c10]; decide) (by rw [c10]; decide) (by rw [c10]; rfl) (by decide) ?_
                  refine lv_aload_n hx hb dO_card_100 rfl (lv_at hl 0 rfl) ?_
                  refine fw_kp (va_runV (As := []) (rest := []) ⟨hx, hb, hml, hown, hts⟩ (c_counter l X hI σ a1.toNatClampNeg (hV2).1 ) (cwV 0 hts (tb_V m_243 m_288 m_241 m_242 m_27) rfl rfl rfl (by decide +kernel) ⟨Nat.le_of_ble_eq_true rfl, Nat.le_of_ble_eq_true rfl⟩) (fw_preV (X := X) hK hnb hW (10, a1.toNatClampNeg, 0) hV2 rfl rfl []) rfl rfl hl.1 rfl (lv_room (Nat.le_of_ble_eq_true rfl)) dO_card_101 ⟨Nat.zero_le _, Nat.zero_le _⟩) hS (fun H locs hW hS => ?_)
                  exact fw_iret hx hb hr hlocks hK hnb hW hS (by rw [he]) dO_card_104
                · rw [if_neg c10] at he
                  by_cases c11 : a2 = 7
                  · rw [if_pos c11] at he
                    refine lv_tableIn (tgt := 105) hx hb dO_card_18 (by rw [c11]; decide) (by rw [c11]; decide) (by rw [c11]; rfl) (by decide) ?_
                    refine lv_aload_n hx hb dO_card_105 rfl (lv_at hl 0 rfl) ?_
                    refine lv_aload_n hx hb dO_card_106 rfl (lv_at hl 1 rfl) ?_
                    refine fw_get (X := X) (v := .int (σ (0, 0, 0) 5)) hx hb hts hin_O hown hK hW (0, 0, 0) cv0 rfl rfl 5 (by decide) (htb _ m_146 rfl) (fun _ h => h) rfl rfl dO_card_107 ?_
                    refine lv_sipush (v := 1440) hx hb dO_card_110 (by decide) ?_
                    refine lv_idiv hx hb dO_card_113 (by decide) ?_
                    refine fw_kp (va_runV (As := [.int ((σ (0, 0, 0) 5) / 1440)]) (rest := []) ⟨hx, hb, hml, hown, hts⟩ (c_spentOn l X hI σ a1.toNatClampNeg (hV2).1 ((σ (0, 0, 0) 5) / 1440) ) (cwV 1 hts (tb_V m_238 m_355 m_236 m_237 m_27) rfl rfl rfl (by decide +kernel) ⟨Nat.le_of_ble_eq_true rfl, Nat.le_of_ble_eq_true rfl⟩) (fw_preV (X := X) hK hnb hW (10, a1.toNatClampNeg, 0) hV2 rfl rfl [.int ((σ (0, 0, 0) 5) / 1440)]) rfl rfl hl.1 rfl (lv_room (Nat.le_of_ble_eq_true rfl)) dO_card_114 ⟨Nat.zero_le _, Nat.zero_le _⟩) hS (fun H locs hW hS => ?_)
                    exact fw_iret hx hb hr hlocks hK hnb hW hS (by rw [he]) dO_card_117
                  · rw [if_neg c11] at he
                    refine lv_tableOut (tgt := 118) hx hb dO_card_18 (sw_out8 c4 c5 c6 c7 c8 c9 c10 c11) (by decide) ?_
                    refine lv_iconst (v := (-1)) hx hb dO_card_118 (by decide) ?_
                    exact fw_iret hx hb hr hlocks hK hnb hW hS (by rw [he]) dO_card_119
  · rw [if_pos c1] at he
    refine lv_iconst (v := (-1)) hx hb dO_card_8 (by decide) ?_
    exact fw_iret hx hb hr hlocks hK hnb hW hS (by rw [he]) dO_card_9
def cs_logged (σ : fw_S) (a1 : Int32) (a2 : Int32) (a3 : Int32) : Int32 :=
  if (cs_isBelow a1 4) = 0 then (-1) else if (cs_isBelow a3 4) = 0 then (-1) else if (cs_isBelow a2 (cs_logSize σ a1.toNatClampNeg)) = 0 then (-1) else (cs_readEntry σ a1.toNatClampNeg a2 a3)
set_option maxHeartbeats 4000000 in
set_option maxRecDepth 100000 in
theorem c_logged (l : Launch) (X : fw_X) (hI : fw_I cV X) (σ : fw_S) (a1 a2 a3 : Int32) (he8 : ∀ v, v < 4 → σ (12, v, 0) 1 ≤ 8) : fw_Mi fw_cl csh cV fw_tys l yO_logged wO_logged (fw_rm 2) X σ [.ref (X.2.2 (0, 0, 0)), .int a1, .int a2, .int a3] ((cs_logged σ a1 a2 a3, σ)) := by
  obtain ⟨out, he⟩ : ∃ z : Int32, z = cs_logged σ a1 a2 a3 := ⟨_, rfl⟩
  rw [← he]
  refine fw_Mi_of (cc := bO_logged) (maxL := 5) (ret := (some .int)) (by decide) rfl (Nat.le_of_ble_eq_true rfl) ?_
  intro p e s m below meth c ls hx hb hr hml hlocks hown hts hK hnb hW hl
  have hS : va_S (fw_A cV X) s.heap s.heap [] := va_S.rf
  have hA : ∀ t, cV t → fw_A cV X (X.2.2 t) := fun t h => ⟨t, h, rfl⟩
  have htb := tb_use hts
  have hl : lv_has ls 5 [(0, .ref (X.2.2 (0, 0, 0))), (1, .int a1), (2, .int a2), (3, .int a3)] := hl
  have hown : s.vm.findClass "TapOffice" = some m.cls := hown
  unfold cs_logged at he
  refine lv_iload_n hx hb dO_logged_0 rfl (lv_at hl 1 rfl) ?_
  refine lv_iconst (v := 4) hx hb dO_logged_1 (by decide) ?_
  refine fw_kp (va_runS (As := [.int a1, .int 4]) (rest := []) ⟨hx, hb, hml, hown, hts⟩ (c_isBelow l X hI σ a1 4 ) (va_cwS 2 hts (tb_S m_172 m_170 m_171 m_25) rfl rfl rfl (by decide +kernel) ⟨Nat.le_of_ble_eq_true rfl, Nat.le_of_ble_eq_true rfl⟩) (fw_preS (X := X) hK hnb hW [.int a1, .int 4]) rfl rfl hl.1 rfl (lv_room (Nat.le_of_ble_eq_true rfl)) dO_logged_2 ⟨Nat.zero_le _, Nat.zero_le _⟩) hS (fun H locs hW hS => ?_)
  refine lv_if_eq (tgt := 16) hx hb dO_logged_5 (by decide) (fun c1 => ?_) (fun c1 => ?_)
  · rw [if_pos c1] at he
    refine lv_iconst (v := (-1)) hx hb dO_logged_16 (by decide) ?_
    exact fw_iret hx hb hr hlocks hK hnb hW hS (by rw [he]) dO_logged_17
  · rw [if_neg c1] at he
    refine lv_iload_n hx hb dO_logged_8 rfl (lv_at hl 3 rfl) ?_
    refine lv_iconst (v := 4) hx hb dO_logged_9 (by decide) ?_
    refine fw_kp (va_runS (As := [.int a3, .int 4]) (rest := []) ⟨hx, hb, hml, hown, hts⟩ (c_isBelow l X hI σ a3 4 ) (va_cwS 2 hts (tb_S m_172 m_170 m_171 m_25) rfl rfl rfl (by decide +kernel) ⟨Nat.le_of_ble_eq_true rfl, Nat.le_of_ble_eq_true rfl⟩) (fw_preS (X := X) hK hnb hW [.int a3, .int 4]) rfl rfl hl.1 rfl (lv_room (Nat.le_of_ble_eq_true rfl)) dO_logged_10 ⟨Nat.zero_le _, Nat.zero_le _⟩) hS (fun H locs hW hS => ?_)
    refine lv_if_ne (tgt := 18) hx hb dO_logged_13 (by decide) (fun c2 => ?_) (fun c2 => ?_)
    · rw [if_neg c2] at he
      refine lv_aload_n hx hb dO_logged_18 rfl (lv_at hl 0 rfl) ?_
      refine fw_get (X := X) (v := .ref (X.2.2 (4, 0, 0))) hx hb hts hin_O hown hK hW (0, 0, 0) cv0 rfl rfl 3 (by decide) (htb _ m_144 rfl) (fun _ h => h) rfl rfl dO_logged_19 ?_
      refine lv_iload_n hx hb dO_logged_22 rfl (lv_at hl 1 rfl) ?_
      refine fw_aald (X := X) hx hb hK hW (4, 0, 0) cv4 rfl 4 rfl rfl a1.toNatClampNeg rfl (12, a1.toNatClampNeg, 0) rfl (ib_in ‹¬ cs_isBelow a1 4 = 0›) dO_logged_23 ?_
      have hV3 : cV (12, a1.toNatClampNeg, 0) := (cve12 (vi_lt (ib_in ‹¬ cs_isBelow a1 4 = 0›)))
      refine lv_astore (lv' := [(4, .ref (X.2.2 (12, a1.toNatClampNeg, 0))), (0, .ref (X.2.2 (0, 0, 0))), (1, .int a1), (2, .int a2), (3, .int a3)]) hx hb dO_logged_24 hl (by decide) rfl (fun ls hl => ?_)
      refine lv_iload_n hx hb dO_logged_26 rfl (lv_at hl 3 rfl) ?_
      refine lv_aload hx hb dO_logged_27 (lv_at hl 0 rfl) ?_
      refine fw_kp (va_runV (As := []) (rest := [.int a2]) ⟨hx, hb, hml, hown, hts⟩ (c_logSize l X hI σ a1.toNatClampNeg (hV3).1 ) (cwV 0 hts (tb_V m_318 m_315 m_316 m_317 m_30) rfl rfl rfl (by decide +kernel) ⟨Nat.le_of_ble_eq_true rfl, Nat.le_of_ble_eq_true rfl⟩) (fw_preV (X := X) hK hnb hW (12, a1.toNatClampNeg, 0) hV3 rfl rfl []) rfl rfl hl.1 rfl (lv_room (Nat.le_of_ble_eq_true rfl)) dO_logged_29 ⟨Nat.zero_le _, Nat.zero_le _⟩) hS (fun H locs hW hS => ?_)
      refine fw_kp (va_runS (As := [.int a2, .int (cs_logSize σ a1.toNatClampNeg)]) (rest := []) ⟨hx, hb, hml, hown, hts⟩ (c_isBelow l X hI σ a2 (cs_logSize σ a1.toNatClampNeg) ) (va_cwS 2 hts (tb_S m_172 m_170 m_171 m_25) rfl rfl rfl (by decide +kernel) ⟨Nat.le_of_ble_eq_true rfl, Nat.le_of_ble_eq_true rfl⟩) (fw_preS (X := X) hK hnb hW [.int a2, .int (cs_logSize σ a1.toNatClampNeg)]) rfl rfl hl.1 rfl (lv_room (Nat.le_of_ble_eq_true rfl)) dO_logged_32 ⟨Nat.zero_le _, Nat.zero_le _⟩) hS (fun H locs hW hS => ?_)
      refine lv_if_eq (tgt := 48) hx hb dO_logged_35 (by decide) (fun c4 => ?_) (fun c4 => ?_)
      · rw [if_pos c4] at he
        refine lv_iconst (v := (-1)) hx hb dO_logged_48 (by decide) ?_
        exact fw_iret hx hb hr hlocks hK hnb hW hS (by rw [he]) dO_logged_49
      · rw [if_neg c4] at he
        refine lv_aload hx hb dO_logged_38 (lv_at hl 0 rfl) ?_
        refine lv_iload_n hx hb dO_logged_40 rfl (lv_at hl 3 rfl) ?_
        refine lv_iload_n hx hb dO_logged_41 rfl (lv_at hl 4 rfl) ?_
        refine fw_kp (va_runV (As := [.int a2, .int a3]) (rest := []) ⟨hx, hb, hml, hown, hts⟩ (c_readEntry l X hI σ a1.toNatClampNeg (hV3).1 a2 a3 (lg_in (he8 _ (vi_lt (ib_in ‹¬ cs_isBelow a1 4 = 0›))) ‹¬ cs_isBelow a2 (cs_logSize σ a1.toNatClampNeg) = 0›) ((ib_in ‹¬ cs_isBelow a3 4 = 0›))) (cwV 2 hts (tb_V m_326 m_323 m_324 m_325 m_30) rfl rfl rfl (by decide +kernel) ⟨Nat.le_of_ble_eq_true rfl, Nat.le_of_ble_eq_true rfl⟩) (fw_preV (X := X) hK hnb hW (12, a1.toNatClampNeg, 0) hV3 rfl rfl [.int a2, .int a3]) rfl rfl hl.1 rfl (lv_room (Nat.le_of_ble_eq_true rfl)) dO_logged_42 ⟨Nat.zero_le _, Nat.zero_le _⟩) hS (fun H locs hW hS => ?_)
        refine lv_goto (tgt := 49) hx hb dO_logged_45 (by decide) ?_
        exact fw_iret hx hb hr hlocks hK hnb hW hS (by rw [he]) dO_logged_49
    · rw [if_pos c2] at he
      refine lv_iconst (v := (-1)) hx hb dO_logged_16 (by decide) ?_
      exact fw_iret hx hb hr hlocks hK hnb hW hS (by rw [he]) dO_logged_17
def cs_office (σ : fw_S) (a1 : Int32) (a2 : Int32) : Int32 :=
  if (cs_isBelow a1 4) = 0 then (-1) else if a2 = 0 then (cs_known σ a1.toNatClampNeg) else if a2 = 1 then (cs_greatestCounter σ a1.toNatClampNeg) else if a2 = 2 then (cs_missing σ a1.toNatClampNeg) else if a2 = 3 then (cs_lostMoney σ a1.toNatClampNeg) else if a2 = 4 then (cs_allCharges σ a1.toNatClampNeg) else if a2 = 5 then (cs_allTopUps σ a1.toNatClampNeg) else (-1)
set_option maxHeartbeats 4000000 in
set_option maxRecDepth 100000 in
theorem c_office (l : Launch) (X : fw_X) (hI : fw_I cV X) (σ : fw_S) (a1 a2 : Int32)  : fw_Mi fw_cl csh cV fw_tys l yO_office wO_office (fw_rm 2) X σ [.ref (X.2.2 (0, 0, 0)), .int a1, .int a2] ((cs_office σ a1 a2, σ)) := by
  obtain ⟨out, he⟩ : ∃ z : Int32, z = cs_office σ a1 a2 := ⟨_, rfl⟩
  rw [← he]
  refine fw_Mi_of (cc := bO_office) (maxL := 4) (ret := (some .int)) (by decide) rfl (Nat.le_of_ble_eq_true rfl) ?_
  intro p e s m below meth c ls hx hb hr hml hlocks hown hts hK hnb hW hl
  have hS : va_S (fw_A cV X) s.heap s.heap [] := va_S.rf
  have hA : ∀ t, cV t → fw_A cV X (X.2.2 t) := fun t h => ⟨t, h, rfl⟩
  have htb := tb_use hts
  have hl : lv_has ls 4 [(0, .ref (X.2.2 (0, 0, 0))), (1, .int a1), (2, .int a2)] := hl
  have hown : s.vm.findClass "TapOffice" = some m.cls := hown
  unfold cs_office at he
  refine lv_iload_n hx hb dO_office_0 rfl (lv_at hl 1 rfl) ?_
  refine lv_iconst (v := 4) hx hb dO_office_1 (by decide) ?_
  refine fw_kp (va_runS (As := [.int a1, .int 4]) (rest := []) ⟨hx, hb, hml, hown, hts⟩ (c_isBelow l X hI σ a1 4 ) (va_cwS 2 hts (tb_S m_172 m_170 m_171 m_25) rfl rfl rfl (by decide +kernel) ⟨Nat.le_of_ble_eq_true rfl, Nat.le_of_ble_eq_true rfl⟩) (fw_preS (X := X) hK hnb hW [.int a1, .int 4]) rfl rfl hl.1 rfl (lv_room (Nat.le_of_ble_eq_true rfl)) dO_office_2 ⟨Nat.zero_le _, Nat.zero_le _⟩) hS (fun H locs hW hS => ?_)
  refine lv_if_ne (tgt := 10) hx hb dO_office_5 (by decide) (fun c1 => ?_) (fun c1 => ?_)
  · rw [if_neg c1] at he
    refine lv_aload_n hx hb dO_office_10 rfl (lv_at hl 0 rfl) ?_
    refine fw_get (X := X) (v := .ref (X.2.2 (3, 0, 0))) hx hb hts hin_O hown hK hW (0, 0, 0) cv0 rfl rfl 2 (by decide) (htb _ m_143 rfl) (fun _ h => h) rfl rfl dO_office_11 ?_
    refine lv_iload_n hx hb dO_office_14 rfl (lv_at hl 1 rfl) ?_
    refine fw_aald (X := X) hx hb hK hW (3, 0, 0) cv3 rfl 3 rfl rfl a1.toNatClampNeg rfl (11, a1.toNatClampNeg, 0) rfl (ib_in ‹¬ cs_isBelow a1 4 = 0›) dO_office_15 ?_
    have hV2 : cV (11, a1.toNatClampNeg, 0) := (cve11 (vi_lt (ib_in ‹¬ cs_isBelow a1 4 = 0›)))
    refine lv_astore_n (lv' := [(3, .ref (X.2.2 (11, a1.toNatClampNeg, 0))), (0, .ref (X.2.2 (0, 0, 0))), (1, .int a1), (2, .int a2)]) hx hb dO_office_16 rfl hl (by decide) rfl (fun ls hl => ?_)
    refine lv_iload_n hx hb dO_office_17 rfl (lv_at hl 3 rfl) ?_
    by_cases c4 : a2 = 0
    · rw [if_pos c4] at he
      refine lv_tableIn (tgt := 56) hx hb dO_office_18 (by rw [c4]; decide) (by rw [c4]; decide) (by rw [c4]; rfl) (by decide) ?_
      refine lv_aload_n hx hb dO_office_56 rfl (lv_at hl 0 rfl) ?_
      refine fw_kp (va_runV (As := []) (rest := []) ⟨hx, hb, hml, hown, hts⟩ (c_known l X hI σ a1.toNatClampNeg (hV2).1 ) (cwV 0 hts (tb_V m_367 m_364 m_365 m_366 m_29) rfl rfl rfl (by decide +kernel) ⟨Nat.le_of_ble_eq_true rfl, Nat.le_of_ble_eq_true rfl⟩) (fw_preV (X := X) hK hnb hW (11, a1.toNatClampNeg, 0) hV2 rfl rfl []) rfl rfl hl.1 rfl (lv_room (Nat.le_of_ble_eq_true rfl)) dO_office_57 ⟨Nat.zero_le _, Nat.zero_le _⟩) hS (fun H locs hW hS => ?_)
      exact fw_iret hx hb hr hlocks hK hnb hW hS (by rw [he]) dO_office_60
    · rw [if_neg c4] at he
      by_cases c5 : a2 = 1
      · rw [if_pos c5] at he
        refine lv_tableIn (tgt := 61) hx hb dO_office_18 (by rw [c5]; decide) (by rw [c5]; decide) (by rw [c5]; rfl) (by decide) ?_
        refine lv_aload_n hx hb dO_office_61 rfl (lv_at hl 0 rfl) ?_
        refine fw_kp (va_runV (As := []) (rest := []) ⟨hx, hb, hml, hown, hts⟩ (c_greatestCounter l X hI σ a1.toNatClampNeg (hV2).1 ) (cwV 0 hts (tb_V m_371 m_368 m_369 m_370 m_29) rfl rfl rfl (by decide +kernel) ⟨Nat.le_of_ble_eq_true rfl, Nat.le_of_ble_eq_true rfl⟩) (fw_preV (X := X) hK hnb hW (11, a1.toNatClampNeg, 0) hV2 rfl rfl []) rfl rfl hl.1 rfl (lv_room (Nat.le_of_ble_eq_true rfl)) dO_office_62 ⟨Nat.zero_le _, Nat.zero_le _⟩) hS (fun H locs hW hS => ?_)
        exact fw_iret hx hb hr hlocks hK hnb hW hS (by rw [he]) dO_office_65
      · rw [if_neg c5] at he
        by_cases c6 : a2 = 2
        · rw [if_pos c6] at he
          refine lv_tableIn (tgt := 66) hx hb dO_office_18 (by rw [c6]; decide) (by rw [c6]; decide) (by rw [c6]; rfl) (by decide) ?_
          refine lv_aload_n hx hb dO_office_66 rfl (lv_at hl 0 rfl) ?_
          refine fw_kp (va_runV (As := []) (rest := []) ⟨hx, hb, hml, hown, hts⟩ (c_missing l X hI σ a1.toNatClampNeg (hV2).1 ) (cwV 0 hts (tb_V m_375 m_372 m_373 m_374 m_29) rfl rfl rfl (by decide +kernel) ⟨Nat.le_of_ble_eq_true rfl, Nat.le_of_ble_eq_true rfl⟩) (fw_preV (X := X) hK hnb hW (11, a1.toNatClampNeg, 0) hV2 rfl rfl []) rfl rfl hl.1 rfl (lv_room (Nat.le_of_ble_eq_true rfl)) dO_office_67 ⟨Nat.zero_le _, Nat.zero_le _⟩) hS (fun H locs hW hS => ?_)
          exact fw_iret hx hb hr hlocks hK hnb hW hS (by rw [he]) dO_office_70
        · rw [if_neg c6] at he
          by_cases c7 : a2 = 3
          · rw [if_pos c7] at he
            refine lv_tableIn (tgt := 71) hx hb dO_office_18 (by rw [c7]; decide) (by rw [c7]; decide) (by rw [c7]; rfl) (by decide) ?_
            refine lv_aload_n hx hb dO_office_71 rfl (lv_at hl 0 rfl) ?_
            refine fw_kp (va_runV (As := []) (rest := []) ⟨hx, hb, hml, hown, hts⟩ (c_lostMoney l X hI σ a1.toNatClampNeg (hV2).1 ) (cwV 0 hts (tb_V m_379 m_376 m_377 m_378 m_29) rfl rfl rfl (by decide +kernel) ⟨Nat.le_of_ble_eq_true rfl, Nat.le_of_ble_eq_true rfl⟩) (fw_preV (X := X) hK hnb hW (11, a1.toNatClampNeg, 0) hV2 rfl rfl []) rfl rfl hl.1 rfl (lv_room (Nat.le_of_ble_eq_true rfl)) dO_office_72 ⟨Nat.zero_le _, Nat.zero_le _⟩) hS (fun H locs hW hS => ?_)
            exact fw_iret hx hb hr hlocks hK hnb hW hS (by rw [he]) dO_office_75
          · rw [if_neg c7] at he
            by_cases c8 : a2 = 4
            · rw [if_pos c8] at he
              refine lv_tableIn (tgt := 76) hx hb dO_office_18 (by rw [c8]; decide) (by rw [c8]; decide) (by rw [c8]; rfl) (by decide) ?_
              refine lv_aload_n hx hb dO_office_76 rfl (lv_at hl 0 rfl) ?_
              refine fw_kp (va_runV (As := []) (rest := []) ⟨hx, hb, hml, hown, hts⟩ (c_allCharges l X hI σ a1.toNatClampNeg (hV2).1 ) (cwV 0 hts (tb_V m_383 m_380 m_381 m_382 m_29) rfl rfl rfl (by decide +kernel) ⟨Nat.le_of_ble_eq_true rfl, Nat.le_of_ble_eq_true rfl⟩) (fw_preV (X := X) hK hnb hW (11, a1.toNatClampNeg, 0) hV2 rfl rfl []) rfl rfl hl.1 rfl (lv_room (Nat.le_of_ble_eq_true rfl)) dO_office_77 ⟨Nat.zero_le _, Nat.zero_le _⟩) hS (fun H locs hW hS => ?_)
              exact fw_iret hx hb hr hlocks hK hnb hW hS (by rw [he]) dO_office_80
            · rw [if_neg c8] at he
              by_cases c9 : a2 = 5
              · rw [if_pos c9] at he
                refine lv_tableIn (tgt := 81) hx hb dO_office_18 (by rw [c9]; decide) (by rw [c9]; decide) (by rw [c9]; rfl) (by decide) ?_
                refine lv_aload_n hx hb dO_office_81 rfl (lv_at hl 0 rfl) ?_
                refine fw_kp (va_runV (As := []) (rest := []) ⟨hx, hb, hml, hown, hts⟩ (c_allTopUps l X hI σ a1.toNatClampNeg (hV2).1 ) (cwV 0 hts (tb_V m_387 m_384 m_385 m_386 m_29) rfl rfl rfl (by decide +kernel) ⟨Nat.le_of_ble_eq_true rfl, Nat.le_of_ble_eq_true rfl⟩) (fw_preV (X := X) hK hnb hW (11, a1.toNatClampNeg, 0) hV2 rfl rfl []) rfl rfl hl.1 rfl (lv_room (Nat.le_of_ble_eq_true rfl)) dO_office_82 ⟨Nat.zero_le _, Nat.zero_le _⟩) hS (fun H locs hW hS => ?_)
                exact fw_iret hx hb hr hlocks hK hnb hW hS (by rw [he]) dO_office_85
              · rw [if_neg c9] at he
                refine lv_tableOut (tgt := 86) hx hb dO_office_18 (sw_out6 c4 c5 c6 c7 c8 c9) (by decide) ?_
                refine lv_iconst (v := (-1)) hx hb dO_office_86 (by decide) ?_
                exact fw_iret hx hb hr hlocks hK hnb hW hS (by rw [he]) dO_office_87
  · rw [if_pos c1] at he
    refine lv_iconst (v := (-1)) hx hb dO_office_8 (by decide) ?_
    exact fw_iret hx hb hr hlocks hK hnb hW hS (by rw [he]) dO_office_9
def cs_income (σ : fw_S) (a1 : Int32) : Int32 :=
  if (cs_isBelow a1 4) = 0 then (-1) else (σ (5, 0, 0) a1.toNatClampNeg)
set_option maxHeartbeats 4000000 in
set_option maxRecDepth 100000 in
theorem c_income (l : Launch) (X : fw_X) (hI : fw_I cV X) (σ : fw_S) (a1 : Int32)  : fw_Mi fw_cl csh cV fw_tys l yO_income wO_income (fw_rm 1) X σ [.ref (X.2.2 (0, 0, 0)), .int a1] ((cs_income σ a1, σ)) := by
  obtain ⟨out, he⟩ : ∃ z : Int32, z = cs_income σ a1 := ⟨_, rfl⟩
  rw [← he]
  refine fw_Mi_of (cc := bO_income) (maxL := 2) (ret := (some .int)) (by decide) rfl (Nat.le_of_ble_eq_true rfl) ?_
  intro p e s m below meth c ls hx hb hr hml hlocks hown hts hK hnb hW hl
  have hS : va_S (fw_A cV X) s.heap s.heap [] := va_S.rf
  have hA : ∀ t, cV t → fw_A cV X (X.2.2 t) := fun t h => ⟨t, h, rfl⟩
  have htb := tb_use hts
  have hl : lv_has ls 2 [(0, .ref (X.2.2 (0, 0, 0))), (1, .int a1)] := hl
  have hown : s.vm.findClass "TapOffice" = some m.cls := hown
  unfold cs_income at he
  refine lv_iload_n hx hb dO_income_0 rfl (lv_at hl 1 rfl) ?_
  refine lv_iconst (v := 4) hx hb dO_income_1 (by decide) ?_
  refine fw_kp (va_runS (As := [.int a1, .int 4]) (rest := []) ⟨hx, hb, hml, hown, hts⟩ (c_isBelow l X hI σ a1 4 ) (va_cwS 2 hts (tb_S m_172 m_170 m_171 m_25) rfl rfl rfl (by decide +kernel) ⟨Nat.le_of_ble_eq_true rfl, Nat.le_of_ble_eq_true rfl⟩) (fw_preS (X := X) hK hnb hW [.int a1, .int 4]) rfl rfl hl.1 rfl (lv_room (Nat.le_of_ble_eq_true rfl)) dO_income_2 ⟨Nat.zero_le _, Nat.zero_le _⟩) hS (fun H locs hW hS => ?_)
  refine lv_if_eq (tgt := 17) hx hb dO_income_5 (by decide) (fun c1 => ?_) (fun c1 => ?_)
  · rw [if_pos c1] at he
    refine lv_iconst (v := (-1)) hx hb dO_income_17 (by decide) ?_
    exact fw_iret hx hb hr hlocks hK hnb hW hS (by rw [he]) dO_income_18
  · rw [if_neg c1] at he
    refine lv_aload_n hx hb dO_income_8 rfl (lv_at hl 0 rfl) ?_
    refine fw_get (X := X) (v := .ref (X.2.2 (5, 0, 0))) hx hb hts hin_O hown hK hW (0, 0, 0) cv0 rfl rfl 4 (by decide) (htb _ m_145 rfl) (fun _ h => h) rfl rfl dO_income_9 ?_
    refine lv_iload_n hx hb dO_income_12 rfl (lv_at hl 1 rfl) ?_
    refine fw_iald (X := X) hx hb hK hW (5, 0, 0) cv5 rfl 0 rfl a1.toNatClampNeg rfl (ib_in ‹¬ cs_isBelow a1 4 = 0›) dO_income_13 ?_
    refine lv_goto (tgt := 18) hx hb dO_income_14 (by decide) ?_
    exact fw_iret hx hb hr hlocks hK hnb hW hS (by rw [he]) dO_income_18
def cs_entriesInLogs_s1 (x2 : Int32) (rec : Int32 → Int32 → Int32) (z3 : Int32) : Int32 :=
  rec (x2 + 1) z3
def cs_entriesInLogs_lp (σ : fw_S) : Nat → Int32 → Int32 → Int32
  | 0, _, _ => 0
  | n + 1, x2, x1 => if 4 ≤ x2 then x1 else cs_entriesInLogs_s1 x2 (cs_entriesInLogs_lp σ n) (x1 + (cs_logSize σ x2.toNatClampNeg))
def cs_entriesInLogs (σ : fw_S)  : Int32 :=
  cs_entriesInLogs_lp σ (4 + 1) 0 0
set_option maxHeartbeats 4000000 in
set_option maxRecDepth 100000 in
theorem c_entriesInLogs_lp {p : Program} {e : Env} {s : State} {m : MethodId} {below : List Frame} {meth : Method} {c : Code} {args : Array Value} (l : Launch) (X : fw_X) (hI : fw_I cV X) (σ : fw_S)    (out : Int32)
    (hx : p.tables.exec = Jvm.exec) (hb : c.code = bO_entriesInLogs) (hr : meth.sig.returnType = (some .int)) (hml : c.maxLocals = 3) (hlocks : meth.locks = false) (hown : s.vm.findClass "TapOffice" = some m.cls) (hts : ∀ w ∈ wO_entriesInLogs, w.before args s = true) (hK : va_K X.1 fw_cl (fw_tys X.2.1) s) (hnb : va_Nw fw_nb s) :
    ∀ (n : Nat) (x2 x1 : Int32) (j : Nat), x2 = nI j → j ≤ 4 → 4 + 1 ≤ j + n → ∀ (H : Heap) (locs : List Loc), fw_W fw_cl csh cV X σ H → va_S (fw_A cV X) s.heap H locs → ∀ (ls : Array Slot), lv_has ls 3 [(0, .ref (X.2.2 (0, 0, 0))), (1, .int x1), (2, .int x2)] → out = cs_entriesInLogs_lp σ n x2 x1 → W p l e (fw_rm 1) s m args below meth c H locs 0 0 (MQ below (va_Qi (fun r u => (r, u) = (out, σ)) (fun u t => fw_O fw_cl csh cV fw_tys X u t) (fw_A cV X)) args s 0 0 (fw_A cV X)) (F0 m 4 ls []) := by
  have hA : ∀ t, cV t → fw_A cV X (X.2.2 t) := fun t h => ⟨t, h, rfl⟩
  have htb := tb_use hts
  intro n
  induction n with
  | zero =>
    intro x2 x1 j hj h1 h2
    exact absurd h2 (by omega)
  | succ n ih =>
    intro x2 x1 j hj hj1 hj2 H locs hW hS ls hl he
    rw [cs_entriesInLogs_lp] at he
    refine lv_iload_n hx hb dO_entriesInLogs_4 rfl (lv_at hl 2 rfl) ?_
    refine lv_iconst (v := 4) hx hb dO_entriesInLogs_5 (by decide) ?_
    refine lv_icmp_ge (tgt := 27) hx hb dO_entriesInLogs_6 (by decide) (fun c1 => ?_) (fun c1 => ?_)
    · rw [if_pos c1] at he
      refine lv_iload_n hx hb dO_entriesInLogs_27 rfl (lv_at hl 1 rfl) ?_
      exact fw_iret hx hb hr hlocks hK hnb hW hS (by rw [he]) dO_entriesInLogs_28
    · rw [if_neg c1] at he
      have hlt : j < 4 := lp_lt (B := 4) hj rfl (by decide) hj1 c1
      have hin : vp_in x2 4 := by rw [hj]; exact vp_in_nI hlt (by decide)
      refine lv_iload_n hx hb dO_entriesInLogs_9 rfl (lv_at hl 1 rfl) ?_
      refine lv_aload_n hx hb dO_entriesInLogs_10 rfl (lv_at hl 0 rfl) ?_
      refine fw_get (X := X) (v := .ref (X.2.2 (4, 0, 0))) hx hb hts hin_O hown hK hW (0, 0, 0) cv0 rfl rfl 3 (by decide) (htb _ m_144 rfl) (fun _ h => h) rfl rfl dO_entriesInLogs_11 ?_
      refine lv_iload_n hx hb dO_entriesInLogs_14 rfl (lv_at hl 2 rfl) ?_
      refine fw_aald (X := X) hx hb hK hW (4, 0, 0) cv4 rfl 4 rfl rfl x2.toNatClampNeg rfl (12, x2.toNatClampNeg, 0) rfl hin dO_entriesInLogs_15 ?_
      have hV2 : cV (12, x2.toNatClampNeg, 0) := (cve12 (vi_lt hin))
      refine fw_kp (va_runV (As := []) (rest := [.int x1]) ⟨hx, hb, hml, hown, hts⟩ (c_logSize l X hI σ x2.toNatClampNeg (hV2).1 ) (cwV 0 hts (tb_V m_318 m_315 m_316 m_317 m_30) rfl rfl rfl (by decide +kernel) ⟨Nat.le_of_ble_eq_true rfl, Nat.le_of_ble_eq_true rfl⟩) (fw_preV (X := X) hK hnb hW (12, x2.toNatClampNeg, 0) hV2 rfl rfl []) rfl rfl hl.1 rfl (lv_room (Nat.le_of_ble_eq_true rfl)) dO_entriesInLogs_16 ⟨Nat.zero_le _, Nat.zero_le _⟩) hS (fun H locs hW hS => ?_)
      refine lv_iadd hx hb dO_entriesInLogs_19 ?_
      refine lv_topi (fun z3 e4 => ?_)
      try rw [← e4] at he
      unfold cs_entriesInLogs_s1 at he
      refine lv_istore_n (lv' := [(1, .int z3), (0, .ref (X.2.2 (0, 0, 0))), (2, .int x2)]) hx hb dO_entriesInLogs_20 rfl hl (by decide) rfl (fun ls hl => ?_)
      refine lv_iinc (v := x2 + 1) (lv' := [(2, .int (x2 + 1)), (1, .int z3), (0, .ref (X.2.2 (0, 0, 0)))]) hx hb dO_entriesInLogs_21 hl (k := 2) rfl (by rfl) (by decide) rfl (fun ls hl => ?_)
      refine lv_goto (tgt := 4) hx hb dO_entriesInLogs_24 (by decide) ?_
      exact ih (x2 + 1) z3 (j + 1) (by rw [hj]; exact nI_1 j) hlt (by omega) _ _ hW hS ls (lv_sub hl [2, 1, 0] rfl) he
set_option maxHeartbeats 4000000 in
set_option maxRecDepth 100000 in
theorem c_entriesInLogs (l : Launch) (X : fw_X) (hI : fw_I cV X) (σ : fw_S)  : fw_Mi fw_cl csh cV fw_tys l yO_entriesInLogs wO_entriesInLogs (fw_rm 1) X σ [.ref (X.2.2 (0, 0, 0))] ((cs_entriesInLogs σ, σ)) := by
  obtain ⟨out, he⟩ : ∃ z : Int32, z = cs_entriesInLogs σ := ⟨_, rfl⟩
  rw [← he]
  refine fw_Mi_of (cc := bO_entriesInLogs) (maxL := 3) (ret := (some .int)) (by decide) rfl (Nat.le_of_ble_eq_true rfl) ?_
  intro p e s m below meth c ls hx hb hr hml hlocks hown hts hK hnb hW hl
  have hS : va_S (fw_A cV X) s.heap s.heap [] := va_S.rf
  have hA : ∀ t, cV t → fw_A cV X (X.2.2 t) := fun t h => ⟨t, h, rfl⟩
  have htb := tb_use hts
  have hl : lv_has ls 3 [(0, .ref (X.2.2 (0, 0, 0)))] := hl
  have hown : s.vm.findClass "TapOffice" = some m.cls := hown
  unfold cs_entriesInLogs at he
  refine lv_iconst (v := 0) hx hb dO_entriesInLogs_0 (by decide) ?_
  refine lv_istore_n (lv' := [(1, .int 0), (0, .ref (X.2.2 (0, 0, 0)))]) hx hb dO_entriesInLogs_1 rfl hl (by decide) rfl (fun ls hl => ?_)
  refine lv_iconst (v := 0) hx hb dO_entriesInLogs_2 (by decide) ?_
  refine lv_istore_n (lv' := [(2, .int 0), (1, .int 0), (0, .ref (X.2.2 (0, 0, 0)))]) hx hb dO_entriesInLogs_3 rfl hl (by decide) rfl (fun ls hl => ?_)
  exact c_entriesInLogs_lp l X hI σ    out hx hb hr hml hlocks hown hts hK hnb (4 + 1) 0 0 0 nI_0.symm (by decide) (by decide) _ _ hW hS ls (lv_sub hl [2, 1, 0] rfl) he
def cs_count (σ : fw_S) (a1 : Int32) : Int32 :=
  if a1 = 0 then (σ (0, 0, 0) 5) else if a1 = 1 then (cs_entriesInLogs σ) else if a1 = 2 then (σ (0, 0, 0) 7) else if a1 = 3 then (cs_bitCount (σ (0, 0, 0) 6)) else (-1)
set_option maxHeartbeats 4000000 in
set_option maxRecDepth 100000 in
theorem c_count (l : Launch) (X : fw_X) (hI : fw_I cV X) (σ : fw_S) (a1 : Int32)  : fw_Mi fw_cl csh cV fw_tys l yO_count wO_count (fw_rm 2) X σ [.ref (X.2.2 (0, 0, 0)), .int a1] ((cs_count σ a1, σ)) := by
  obtain ⟨out, he⟩ : ∃ z : Int32, z = cs_count σ a1 := ⟨_, rfl⟩
  rw [← he]
  refine fw_Mi_of (cc := bO_count) (maxL := 2) (ret := (some .int)) (by decide) rfl (Nat.le_of_ble_eq_true rfl) ?_
  intro p e s m below meth c ls hx hb hr hml hlocks hown hts hK hnb hW hl
  have hS : va_S (fw_A cV X) s.heap s.heap [] := va_S.rf
  have hA : ∀ t, cV t → fw_A cV X (X.2.2 t) := fun t h => ⟨t, h, rfl⟩
  have htb := tb_use hts
  have hl : lv_has ls 2 [(0, .ref (X.2.2 (0, 0, 0))), (1, .int a1)] := hl
  have hown : s.vm.findClass "TapOffice" = some m.cls := hown
  unfold cs_count at he
  refine lv_iload_n hx hb dO_count_0 rfl (lv_at hl 1 rfl) ?_
  by_cases c2 : a1 = 0
  · rw [if_pos c2] at he
    refine lv_tableIn (tgt := 32) hx hb dO_count_1 (by rw [c2]; decide) (by rw [c2]; decide) (by rw [c2]; rfl) (by decide) ?_
    refine lv_aload_n hx hb dO_count_32 rfl (lv_at hl 0 rfl) ?_
    refine fw_get (X := X) (v := .int (σ (0, 0, 0) 5)) hx hb hts hin_O hown hK hW (0, 0, 0) cv0 rfl rfl 5 (by decide) (htb _ m_146 rfl) (fun _ h => h) rfl rfl dO_count_33 ?_
    exact fw_iret hx hb hr hlocks hK hnb hW hS (by rw [he]) dO_count_36
  · rw [if_neg c2] at he
    by_cases c3 : a1 = 1
    · rw [if_pos c3] at he
      refine lv_tableIn (tgt := 37) hx hb dO_count_1 (by rw [c3]; decide) (by rw [c3]; decide) (by rw [c3]; rfl) (by decide) ?_
      refine lv_aload_n hx hb dO_count_37 rfl (lv_at hl 0 rfl) ?_
      refine fw_kp (va_runV (As := []) (rest := []) ⟨hx, hb, hml, hown, hts⟩ (c_entriesInLogs l X hI σ  ) (cwV 0 hts (tb_V m_399 m_396 m_398 m_8 m_25) rfl rfl rfl (by decide +kernel) ⟨Nat.le_of_ble_eq_true rfl, Nat.le_of_ble_eq_true rfl⟩) (fw_preV (X := X) hK hnb hW (0, 0, 0) cv0 rfl rfl []) rfl rfl hl.1 rfl (lv_room (Nat.le_of_ble_eq_true rfl)) dO_count_38 ⟨Nat.zero_le _, Nat.zero_le _⟩) hS (fun H locs hW hS => ?_)
      exact fw_iret hx hb hr hlocks hK hnb hW hS (by rw [he]) dO_count_41
    · rw [if_neg c3] at he
      by_cases c4 : a1 = 2
      · rw [if_pos c4] at he
        refine lv_tableIn (tgt := 42) hx hb dO_count_1 (by rw [c4]; decide) (by rw [c4]; decide) (by rw [c4]; rfl) (by decide) ?_
        refine lv_aload_n hx hb dO_count_42 rfl (lv_at hl 0 rfl) ?_
        refine fw_get (X := X) (v := .int (σ (0, 0, 0) 7)) hx hb hts hin_O hown hK hW (0, 0, 0) cv0 rfl rfl 7 (by decide) (htb _ m_148 rfl) (fun _ h => h) rfl rfl dO_count_43 ?_
        exact fw_iret hx hb hr hlocks hK hnb hW hS (by rw [he]) dO_count_46
      · rw [if_neg c4] at he
        by_cases c5 : a1 = 3
        · rw [if_pos c5] at he
          refine lv_tableIn (tgt := 47) hx hb dO_count_1 (by rw [c5]; decide) (by rw [c5]; decide) (by rw [c5]; rfl) (by decide) ?_
          refine lv_aload_n hx hb dO_count_47 rfl (lv_at hl 0 rfl) ?_
          refine fw_get (X := X) (v := .int (σ (0, 0, 0) 6)) hx hb hts hin_O hown hK hW (0, 0, 0) cv0 rfl rfl 6 (by decide) (htb _ m_147 rfl) (fun _ h => h) rfl rfl dO_count_48 ?_
          refine fw_kp (va_runS (As := [.int (σ (0, 0, 0) 6)]) (rest := []) ⟨hx, hb, hml, hown, hts⟩ (c_bitCount l X hI σ (σ (0, 0, 0) 6) ) (va_cwS 1 hts (tb_S m_402 m_400 m_401 m_33) rfl rfl rfl (by decide +kernel) ⟨Nat.le_of_ble_eq_true rfl, Nat.le_of_ble_eq_true rfl⟩) (fw_preS (X := X) hK hnb hW [.int (σ (0, 0, 0) 6)]) rfl rfl hl.1 rfl (lv_room (Nat.le_of_ble_eq_true rfl)) dO_count_51 ⟨Nat.zero_le _, Nat.zero_le _⟩) hS (fun H locs hW hS => ?_)
          exact fw_iret hx hb hr hlocks hK hnb hW hS (by rw [he]) dO_count_54
        · rw [if_neg c5] at he
          refine lv_tableOut (tgt := 55) hx hb dO_count_1 (sw_out4 c2 c3 c4 c5) (by decide) ?_
          refine lv_iconst (v := (-1)) hx hb dO_count_55 (by decide) ?_
          exact fw_iret hx hb hr hlocks hK hnb hW hS (by rw [he]) dO_count_56

def ms_price_s1 (a1 : Int32) (σ : fw_S) (z1 : Int32) : Int32 :=
  if z1 < (σ (2, 0, 0) 0) then a1 else if (σ (2, 0, 0) 1) ≤ z1 then a1 else (a1 + ((a1 * (σ (2, 0, 0) 2)) / 100))
def ms_price (σ : fw_S) (a1 : Int32) (a2 : Int32) : Int32 :=
  ms_price_s1 a1 σ (a2 - a2 / 1440 * 1440)
set_option maxHeartbeats 4000000 in
set_option maxRecDepth 100000 in
theorem cm_price (l : Launch) (X : fw_X) (hI : fw_I mV X) (σ : fw_S) (a1 : Int32) (a2 : Int32)  : fw_Mi fw_cl msh mV fw_tys l yM_price wM_price (fw_rm 0) X σ [.ref (X.2.2 (0, 0, 0)), .int a1, .int a2] ((ms_price σ a1 a2, σ)) := by
  obtain ⟨out, he⟩ : ∃ z : Int32, z = ms_price σ a1 a2 := ⟨_, rfl⟩
  rw [← he]
  refine fw_Mi_of (cc := bM_price) (maxL := 4) (ret := (some .int)) (by decide) rfl (Nat.le_of_ble_eq_true rfl) ?_
  intro p e s m below meth c ls hx hb hr hml hlocks hown hts hK hnb hW hl
  have hS : va_S (fw_A mV X) s.heap s.heap [] := va_S.rf
  have hA : ∀ t, mV t → fw_A mV X (X.2.2 t) := fun t h => ⟨t, h, rfl⟩
  have htb := tb_use hts
  have hl : lv_has ls 4 [(0, .ref (X.2.2 (0, 0, 0))), (1, .int a1), (2, .int a2)] := hl
  have hown : s.vm.findClass "TapOfficeModel" = some m.cls := hown
  unfold ms_price at he
  refine lv_iload_n hx hb dM_price_0 rfl (lv_at hl 2 rfl) ?_
  refine lv_sipush (v := 1440) hx hb dM_price_1 (by decide) ?_
  refine lv_irem hx hb dM_price_4 (by decide) ?_
  refine lv_topi (fun z1 e2 => ?_)
  try rw [← e2] at he
  unfold ms_price_s1 at he
  refine lv_istore_n (lv' := [(3, .int z1), (0, .ref (X.2.2 (0, 0, 0))), (1, .int a1), (2, .int a2)]) hx hb dM_price_5 rfl hl (by decide) rfl (fun ls hl => ?_)
  refine lv_iload_n hx hb dM_price_6 rfl (lv_at hl 0 rfl) ?_
  refine lv_aload_n hx hb dM_price_7 rfl (lv_at hl 1 rfl) ?_
  refine fw_get (X := X) (v := .ref (X.2.2 (2, 0, 0))) hx hb hts hin_M hown hK hW (0, 0, 0) mv0 rfl rfl 1 (by decide) (htb _ m_413 rfl) (fun _ h => h) rfl rfl dM_price_8 ?_
  refine lv_iconst (v := 0) hx hb dM_price_11 (by decide) ?_
  refine fw_iald (X := X) hx hb hK hW (2, 0, 0) mv2 rfl 0 rfl 0 (by decide) (by unfold vp_in; decide) dM_price_12 ?_
  refine lv_icmp_lt (tgt := 42) hx hb dM_price_13 (by decide) (fun c3 => ?_) (fun c3 => ?_)
  · rw [if_pos c3] at he
    refine lv_iload_n hx hb dM_price_42 rfl (lv_at hl 2 rfl) ?_
    exact fw_iret hx hb hr hlocks hK hnb hW hS (by rw [he]) dM_price_43
  · rw [if_neg c3] at he
    refine lv_iload_n hx hb dM_price_16 rfl (lv_at hl 0 rfl) ?_
    refine lv_aload_n hx hb dM_price_17 rfl (lv_at hl 1 rfl) ?_
    refine fw_get (X := X) (v := .ref (X.2.2 (2, 0, 0))) hx hb hts hin_M hown hK hW (0, 0, 0) mv0 rfl rfl 1 (by decide) (htb _ m_413 rfl) (fun _ h => h) rfl rfl dM_price_18 ?_
    refine lv_iconst (v := 1) hx hb dM_price_21 (by decide) ?_
    refine fw_iald (X := X) hx hb hK hW (2, 0, 0) mv2 rfl 0 rfl 1 (by decide) (by unfold vp_in; decide) dM_price_22 ?_
    refine lv_icmp_ge (tgt := 42) hx hb dM_price_23 (by decide) (fun c4 => ?_) (fun c4 => ?_)
    · rw [if_pos c4] at he
      refine lv_iload_n hx hb dM_price_42 rfl (lv_at hl 2 rfl) ?_
      exact fw_iret hx hb hr hlocks hK hnb hW hS (by rw [he]) dM_price_43
    · rw [if_neg c4] at he
      refine lv_iload_n hx hb dM_price_26 rfl (lv_at hl 2 rfl) ?_
      refine lv_iload_n hx hb dM_price_27 rfl (lv_at hl 2 rfl) ?_
      refine lv_aload_n hx hb dM_price_28 rfl (lv_at hl 1 rfl) ?_
      refine fw_get (X := X) (v := .ref (X.2.2 (2, 0, 0))) hx hb hts hin_M hown hK hW (0, 0, 0) mv0 rfl rfl 1 (by decide) (htb _ m_413 rfl) (fun _ h => h) rfl rfl dM_price_29 ?_
      refine lv_iconst (v := 2) hx hb dM_price_32 (by decide) ?_
      refine fw_iald (X := X) hx hb hK hW (2, 0, 0) mv2 rfl 0 rfl 2 (by decide) (by unfold vp_in; decide) dM_price_33 ?_
      refine lv_imul hx hb dM_price_34 ?_
      refine lv_bipush (v := 100) hx hb dM_price_35 (by decide) ?_
      refine lv_idiv hx hb dM_price_37 (by decide) ?_
      refine lv_iadd hx hb dM_price_38 ?_
      refine lv_goto (tgt := 43) hx hb dM_price_39 (by decide) ?_
      exact fw_iret hx hb hr hlocks hK hnb hW hS (by rw [he]) dM_price_43
def ms_capped_s1 (a1 : Int32) (z1 : Int32) : Int32 :=
  if z1 ≤ a1 then if 0 ≤ z1 then z1 else 0 else if 0 ≤ a1 then a1 else 0
def ms_capped (σ : fw_S) (a1 : Int32) (cd : Nat) : Int32 :=
  ms_capped_s1 a1 ((σ (2, 0, 0) 3) - (ms_spent σ cd))
set_option maxHeartbeats 4000000 in
set_option maxRecDepth 100000 in
theorem cm_capped (l : Launch) (X : fw_X) (hI : fw_I mV X) (σ : fw_S) (a1 : Int32) (cd : Nat) (hcd : cd < 4)  : fw_Mi fw_cl msh mV fw_tys l yM_capped wM_capped (fw_rm 2) X σ [.ref (X.2.2 (0, 0, 0)), .int a1, .int (nI cd)] ((ms_capped σ a1 cd, σ)) := by
  obtain ⟨out, he⟩ : ∃ z : Int32, z = ms_capped σ a1 cd := ⟨_, rfl⟩
  rw [← he]
  refine fw_Mi_of (cc := bM_capped) (maxL := 5) (ret := (some .int)) (by decide) rfl (Nat.le_of_ble_eq_true rfl) ?_
  intro p e s m below meth c ls hx hb hr hml hlocks hown hts hK hnb hW hl
  have hS : va_S (fw_A mV X) s.heap s.heap [] := va_S.rf
  have hA : ∀ t, mV t → fw_A mV X (X.2.2 t) := fun t h => ⟨t, h, rfl⟩
  have htb := tb_use hts
  have hl : lv_has ls 5 [(0, .ref (X.2.2 (0, 0, 0))), (1, .int a1), (2, .int (nI cd))] := hl
  have hown : s.vm.findClass "TapOfficeModel" = some m.cls := hown
  unfold ms_capped at he
  refine lv_aload_n hx hb dM_capped_0 rfl (lv_at hl 0 rfl) ?_
  refine fw_get (X := X) (v := .ref (X.2.2 (2, 0, 0))) hx hb hts hin_M hown hK hW (0, 0, 0) mv0 rfl rfl 1 (by decide) (htb _ m_413 rfl) (fun _ h => h) rfl rfl dM_capped_1 ?_
  refine lv_iconst (v := 3) hx hb dM_capped_4 (by decide) ?_
  refine fw_iald (X := X) hx hb hK hW (2, 0, 0) mv2 rfl 0 rfl 3 (by decide) (by unfold vp_in; decide) dM_capped_5 ?_
  refine lv_aload_n hx hb dM_capped_6 rfl (lv_at hl 0 rfl) ?_
  refine lv_iload_n hx hb dM_capped_7 rfl (lv_at hl 2 rfl) ?_
  refine fw_kp (va_runV (As := [.int (nI cd)]) (rest := [.int (σ (2, 0, 0) 3)]) ⟨hx, hb, hml, hown, hts⟩ (cm_spent l X hI σ cd (by omega) ) (cwV 1 hts (tb_V m_495 m_492 m_494 m_11 m_31) rfl rfl rfl (by decide +kernel) ⟨Nat.le_of_ble_eq_true rfl, Nat.le_of_ble_eq_true rfl⟩) (fw_preV (X := X) hK hnb hW (0, 0, 0) mv0 rfl rfl [.int (nI cd)]) rfl rfl hl.1 rfl (lv_room (Nat.le_of_ble_eq_true rfl)) dM_capped_8 ⟨Nat.zero_le _, Nat.zero_le _⟩) hS (fun H locs hW hS => ?_)
  refine lv_isub hx hb dM_capped_11 ?_
  refine lv_topi (fun z1 e2 => ?_)
  try rw [← e2] at he
  unfold ms_capped_s1 at he
  refine lv_istore_n (lv' := [(3, .int z1), (0, .ref (X.2.2 (0, 0, 0))), (1, .int a1), (2, .int (nI cd))]) hx hb dM_capped_12 rfl hl (by decide) rfl (fun ls hl => ?_)
  refine lv_iload_n hx hb dM_capped_13 rfl (lv_at hl 2 rfl) ?_
  refine lv_iload_n hx hb dM_capped_14 rfl (lv_at hl 0 rfl) ?_
  refine lv_icmp_ge (tgt := 22) hx hb dM_capped_15 (by decide) (fun c3 => ?_) (fun c3 => ?_)
  · rw [if_pos c3] at he
    refine lv_iload_n hx hb dM_capped_22 rfl (lv_at hl 0 rfl) ?_
    refine lv_istore (lv' := [(4, .int z1), (3, .int z1), (0, .ref (X.2.2 (0, 0, 0))), (1, .int a1), (2, .int (nI cd))]) hx hb dM_capped_23 hl (by decide) rfl (fun ls hl => ?_)
    refine lv_iload hx hb dM_capped_25 (lv_at hl 0 rfl) ?_
    refine lv_if_ge (tgt := 34) hx hb dM_capped_27 (by decide) (fun c4 => ?_) (fun c4 => ?_)
    · rw [if_pos c4] at he
      refine lv_iload hx hb dM_capped_34 (lv_at hl 0 rfl) ?_
      exact fw_iret hx hb hr hlocks hK hnb hW hS (by rw [he]) dM_capped_36
    · rw [if_neg c4] at he
      refine lv_iconst (v := 0) hx hb dM_capped_30 (by decide) ?_
      refine lv_goto (tgt := 36) hx hb dM_capped_31 (by decide) ?_
      exact fw_iret hx hb hr hlocks hK hnb hW hS (by rw [he]) dM_capped_36
  · rw [if_neg c3] at he
    refine lv_iload_n hx hb dM_capped_18 rfl (lv_at hl 2 rfl) ?_
    refine lv_goto (tgt := 23) hx hb dM_capped_19 (by decide) ?_
    refine lv_istore (lv' := [(4, .int a1), (3, .int z1), (0, .ref (X.2.2 (0, 0, 0))), (1, .int a1), (2, .int (nI cd))]) hx hb dM_capped_23 hl (by decide) rfl (fun ls hl => ?_)
    refine lv_iload hx hb dM_capped_25 (lv_at hl 0 rfl) ?_
    refine lv_if_ge (tgt := 34) hx hb dM_capped_27 (by decide) (fun c5 => ?_) (fun c5 => ?_)
    · rw [if_pos c5] at he
      refine lv_iload hx hb dM_capped_34 (lv_at hl 0 rfl) ?_
      exact fw_iret hx hb hr hlocks hK hnb hW hS (by rw [he]) dM_capped_36
    · rw [if_neg c5] at he
      refine lv_iconst (v := 0) hx hb dM_capped_30 (by decide) ?_
      refine lv_goto (tgt := 36) hx hb dM_capped_31 (by decide) ?_
      exact fw_iret hx hb hr hlocks hK hnb hW hS (by rw [he]) dM_capped_36
def ms_change_s2 (j : Nat) (rec : Nat → fw_S → fw_S) (σ5 : fw_S) : fw_S :=
  rec (j + 1) σ5
def ms_change_lp (q : Nat) (w : Nat) : Nat → Nat → fw_S → fw_S
  | 0, _, τ => τ
  | n + 1, j, τ => if q ≤ j then τ else ms_change_s2 j (ms_change_lp q w n) (fw_st τ (3, 0, 0) (w + j) (τ (4, 0, 0) j))
def ms_change_s1 (cd : Nat) (q : Nat) (σ : fw_S) (σ1 : fw_S) : fw_S :=
  if ((mb σ cd) % 16) = 0 then ms_change_lp q ((mb σ cd) + 8) (8 + 1) 0 σ1 else ms_change_lp q ((mb σ cd) - 8) (8 + 1) 0 σ1
def ms_change (σ : fw_S) (cd : Nat) (q : Nat) : fw_S :=
  ms_change_s1 cd q σ (fw_st σ (4, 0, 0) 7 ((((ms_counter σ cd) + 1) * 4096) + ((σ (0, 0, 0) 2) / 1440)))
set_option maxHeartbeats 4000000 in
set_option maxRecDepth 100000 in
theorem cm_change_lp {p : Program} {e : Env} {s : State} {m : MethodId} {below : List Frame} {meth : Method} {c : Code} {args : Array Value} (l : Launch) (X : fw_X) (hI : fw_I mV X) (σ : fw_S) (cd : Nat) (hcd : cd < 4) (q : Nat) (hq : q < 9)   (w : Nat) (hw : w + 8 ≤ 64) (out : fw_S)
    (hx : p.tables.exec = Jvm.exec) (hb : c.code = bM_change) (hr : meth.sig.returnType = none) (hml : c.maxLocals = 6) (hlocks : meth.locks = false) (hown : s.vm.findClass "TapOfficeModel" = some m.cls) (hts : ∀ w ∈ wM_change, w.before args s = true) (hK : va_K X.1 fw_cl (fw_tys X.2.1) s) (hnb : va_Nw fw_nb s) :
    ∀ (n : Nat) (j : Nat), j ≤ 8 → 8 + 1 ≤ j + n → ∀ (τ : fw_S), ∀ (H : Heap) (locs : List Loc), fw_W fw_cl msh mV X τ H → va_S (fw_A mV X) s.heap H locs → ∀ (ls : Array Slot), lv_has ls 6 [(0, .ref (X.2.2 (0, 0, 0))), (1, .int (nI cd)), (2, .int (nI q)), (4, .int (nI w)), (5, .int (nI j))] → out = ms_change_lp q w n j τ → W p l e (fw_rm 2) s m args below meth c H locs 0 0 (MQ below (va_Qv (fun u => u = out) (fun u t => fw_O fw_cl msh mV fw_tys X u t) (fw_A mV X)) args s 0 0 (fw_A mV X)) (F0 m 56 ls []) := by
  have hA : ∀ t, mV t → fw_A mV X (X.2.2 t) := fun t h => ⟨t, h, rfl⟩
  have htb := tb_use hts
  intro n
  induction n with
  | zero =>
    intro j h1 h2
    exact absurd h2 (by omega)
  | succ n ih =>
    intro j hj1 hj2 τ H locs hW hS ls hl he
    rw [ms_change_lp] at he
    refine lv_iload hx hb dM_change_56 (lv_at hl 4 rfl) ?_
    refine lv_iload_n hx hb dM_change_58 rfl (lv_at hl 2 rfl) ?_
    refine lv_icmp_ge (tgt := 85) hx hb dM_change_59 (by decide) (fun c4 => ?_) (fun c4 => ?_)
    · replace c4 := (nI_leI (a := q) (b := j) (by omega) (by omega)).mp c4
      rw [if_pos c4] at he
      exact fw_vret hx hb hr hlocks hK hnb hW hS he dM_change_85
    · replace c4 := mt (nI_leI (a := q) (b := j) (by omega) (by omega)).mpr c4
      rw [if_neg c4] at he
      refine lv_aload_n hx hb dM_change_62 rfl (lv_at hl 0 rfl) ?_
      refine fw_get (X := X) (v := .ref (X.2.2 (3, 0, 0))) hx hb hts hin_M hown hK hW (0, 0, 0) mv0 rfl rfl 3 (by decide) (htb _ m_415 rfl) (fun _ h => h) rfl rfl dM_change_63 ?_
      refine lv_iload hx hb dM_change_66 (lv_at hl 3 rfl) ?_
      refine lv_iload hx hb dM_change_68 (lv_at hl 4 rfl) ?_
      refine lv_iadd hx hb dM_change_70 ?_
      refine lv_eqi (nI_add w j) ?_
      refine lv_aload_n hx hb dM_change_71 rfl (lv_at hl 0 rfl) ?_
      refine fw_get (X := X) (v := .ref (X.2.2 (4, 0, 0))) hx hb hts hin_M hown hK hW (0, 0, 0) mv0 rfl rfl 4 (by decide) (htb _ m_416 rfl) (fun _ h => h) rfl rfl dM_change_72 ?_
      refine lv_iload hx hb dM_change_75 (lv_at hl 4 rfl) ?_
      refine fw_iald (X := X) hx hb hK hW (4, 0, 0) mv4 rfl 0 rfl j (nI_clamp (by omega)) (vp_in_nI (by omega) (by decide)) dM_change_77 ?_
      refine fw_iast (X := X) hx hb hK hW hI hA hS (3, 0, 0) mv3 rfl 0 rfl (w + j) (nI_clamp (by omega)) (vp_in_nI (by omega) (by decide)) dM_change_78 (fun H locs hW hS => ?_)
      obtain ⟨σ5, e6⟩ : ∃ z : fw_S, z = fw_st τ (3, 0, 0) (w + j) (τ (4, 0, 0) j) := ⟨_, rfl⟩
      rw [← e6] at hW
      try rw [← e6] at he
      unfold ms_change_s2 at he
      refine lv_iinc (v := nI (j + 1)) (lv' := [(5, .int (nI (j + 1))), (0, .ref (X.2.2 (0, 0, 0))), (1, .int (nI cd)), (2, .int (nI q)), (4, .int (nI w))]) hx hb dM_change_79 hl (k := 4) rfl (by exact nI_1 j) (by decide) rfl (fun ls hl => ?_)
      refine lv_goto (tgt := 56) hx hb dM_change_82 (by decide) ?_
      exact ih (j + 1) (by omega) (by omega) σ5 _ _ hW hS ls (lv_sub hl [1, 2, 3, 4, 0] rfl) he
set_option maxHeartbeats 4000000 in
set_option maxRecDepth 100000 in
theorem cm_change (l : Launch) (X : fw_X) (hI : fw_I mV X) (σ : fw_S) (cd : Nat) (hcd : cd < 4) (q : Nat) (hq : q < 9)  : fw_Mv fw_cl msh mV fw_tys l yM_change wM_change (fw_rm 2) X σ [.ref (X.2.2 (0, 0, 0)), .int (nI cd), .int (nI q)] (ms_change σ cd q) := by
  obtain ⟨out, he⟩ : ∃ z : fw_S, z = ms_change σ cd q := ⟨_, rfl⟩
  rw [← he]
  refine fw_Mv_of (cc := bM_change) (maxL := 6) (ret := none) (by decide) rfl (Nat.le_of_ble_eq_true rfl) ?_
  intro p e s m below meth c ls hx hb hr hml hlocks hown hts hK hnb hW hl
  have hS : va_S (fw_A mV X) s.heap s.heap [] := va_S.rf
  have hA : ∀ t, mV t → fw_A mV X (X.2.2 t) := fun t h => ⟨t, h, rfl⟩
  have htb := tb_use hts
  have hl : lv_has ls 6 [(0, .ref (X.2.2 (0, 0, 0))), (1, .int (nI cd)), (2, .int (nI q))] := hl
  have hown : s.vm.findClass "TapOfficeModel" = some m.cls := hown
  unfold ms_change at he
  refine lv_aload_n hx hb dM_change_0 rfl (lv_at hl 0 rfl) ?_
  refine lv_iload_n hx hb dM_change_1 rfl (lv_at hl 1 rfl) ?_
  refine fw_kp (va_runV (As := [.int (nI cd)]) (rest := []) ⟨hx, hb, hml, hown, hts⟩ (cm_base l X hI σ cd (by omega) ) (cwV 1 hts (tb_V m_491 m_488 m_490 m_10 m_31) rfl rfl rfl (by decide +kernel) ⟨Nat.le_of_ble_eq_true rfl, Nat.le_of_ble_eq_true rfl⟩) (fw_preV (X := X) hK hnb hW (0, 0, 0) mv0 rfl rfl [.int (nI cd)]) rfl rfl hl.1 rfl (lv_room (Nat.le_of_ble_eq_true rfl)) dM_change_2 ⟨Nat.zero_le _, Nat.zero_le _⟩) hS (fun H locs hW hS => ?_)
  refine lv_eqi (mb_nat σ cd) ?_
  have := mb_or σ cd
  refine lv_istore_n (lv' := [(3, .int (nI (mb σ cd))), (0, .ref (X.2.2 (0, 0, 0))), (1, .int (nI cd)), (2, .int (nI q))]) hx hb dM_change_5 rfl hl (by decide) rfl (fun ls hl => ?_)
  refine lv_aload_n hx hb dM_change_6 rfl (lv_at hl 1 rfl) ?_
  refine fw_get (X := X) (v := .ref (X.2.2 (4, 0, 0))) hx hb hts hin_M hown hK hW (0, 0, 0) mv0 rfl rfl 4 (by decide) (htb _ m_416 rfl) (fun _ h => h) rfl rfl dM_change_7 ?_
  refine lv_bipush (v := 7) hx hb dM_change_10 (by decide) ?_
  refine lv_aload_n hx hb dM_change_12 rfl (lv_at hl 1 rfl) ?_
  refine lv_iload_n hx hb dM_change_13 rfl (lv_at hl 2 rfl) ?_
  refine fw_kp (va_runV (As := [.int (nI cd)]) (rest := [.int 7, .ref (X.2.2 (4, 0, 0))]) ⟨hx, hb, hml, hown, hts⟩ (cm_counter l X hI σ cd (by omega) ) (cwV 1 hts (tb_V m_519 m_516 m_518 m_17 m_31) rfl rfl rfl (by decide +kernel) ⟨Nat.le_of_ble_eq_true rfl, Nat.le_of_ble_eq_true rfl⟩) (fw_preV (X := X) hK hnb hW (0, 0, 0) mv0 rfl rfl [.int (nI cd)]) rfl rfl hl.1 rfl (lv_room (Nat.le_of_ble_eq_true rfl)) dM_change_14 ⟨Nat.zero_le _, Nat.zero_le _⟩) hS (fun H locs hW hS => ?_)
  refine lv_iconst (v := 1) hx hb dM_change_17 (by decide) ?_
  refine lv_iadd hx hb dM_change_18 ?_
  refine lv_sipush (v := 4096) hx hb dM_change_19 (by decide) ?_
  refine lv_imul hx hb dM_change_22 ?_
  refine lv_aload_n hx hb dM_change_23 rfl (lv_at hl 1 rfl) ?_
  refine fw_get (X := X) (v := .int (σ (0, 0, 0) 2)) hx hb hts hin_M hown hK hW (0, 0, 0) mv0 rfl rfl 2 (by decide) (htb _ m_414 rfl) (fun _ h => h) rfl rfl dM_change_24 ?_
  refine lv_sipush (v := 1440) hx hb dM_change_27 (by decide) ?_
  refine lv_idiv hx hb dM_change_30 (by decide) ?_
  refine lv_iadd hx hb dM_change_31 ?_
  refine fw_iast (X := X) hx hb hK hW hI hA hS (4, 0, 0) mv4 rfl 0 rfl 7 (by decide) (by unfold vp_in; decide) dM_change_32 (fun H locs hW hS => ?_)
  obtain ⟨σ1, e2⟩ : ∃ z : fw_S, z = fw_st σ (4, 0, 0) 7 ((((ms_counter σ cd) + 1) * 4096) + ((σ (0, 0, 0) 2) / 1440)) := ⟨_, rfl⟩
  rw [← e2] at hW
  try rw [← e2] at he
  unfold ms_change_s1 at he
  refine lv_iload_n hx hb dM_change_33 rfl (lv_at hl 0 rfl) ?_
  refine lv_bipush (v := 16) hx hb dM_change_34 (by decide) ?_
  refine lv_irem hx hb dM_change_36 (by decide) ?_
  refine lv_eqi (pk_rem (a := (mb σ cd)) (d := 16) (by omega) (by decide) (by decide)) ?_
  refine lv_if_ne (tgt := 47) hx hb dM_change_37 (by decide) (fun c3 => ?_) (fun c3 => ?_)
  · replace c3 := mt (nI_eq (a := ((mb σ cd) % 16)) (b := 0) (by omega) (by omega)).mpr c3
    rw [if_neg c3] at he
    refine lv_iload_n hx hb dM_change_47 rfl (lv_at hl 0 rfl) ?_
    refine lv_bipush (v := 8) hx hb dM_change_48 (by decide) ?_
    refine lv_isub hx hb dM_change_50 ?_
    refine lv_eqi (pk_sub (a := (mb σ cd)) (b := 8) (by omega)) ?_
    refine lv_istore (lv' := [(4, .int (nI ((mb σ cd) - 8))), (3, .int (nI (mb σ cd))), (0, .ref (X.2.2 (0, 0, 0))), (1, .int (nI cd)), (2, .int (nI q))]) hx hb dM_change_51 hl (by decide) rfl (fun ls hl => ?_)
    refine lv_iconst (v := 0) hx hb dM_change_53 (by decide) ?_
    refine lv_istore (lv' := [(5, .int 0), (4, .int (nI ((mb σ cd) - 8))), (3, .int (nI (mb σ cd))), (0, .ref (X.2.2 (0, 0, 0))), (1, .int (nI cd)), (2, .int (nI q))]) hx hb dM_change_54 hl (by decide) rfl (fun ls hl => ?_)
    exact cm_change_lp l X hI σ cd hcd q hq  ((mb σ cd) - 8) (by omega) out hx hb hr hml hlocks hown hts hK hnb (8 + 1) 0  (by omega) (by omega) σ1 _ _ hW hS ls (lv_sub hl [3, 4, 5, 1, 0] rfl) he
  · replace c3 := (nI_eq (a := ((mb σ cd) % 16)) (b := 0) (by omega) (by omega)).mp c3
    rw [if_pos c3] at he
    refine lv_iload_n hx hb dM_change_40 rfl (lv_at hl 0 rfl) ?_
    refine lv_bipush (v := 8) hx hb dM_change_41 (by decide) ?_
    refine lv_iadd hx hb dM_change_43 ?_
    refine lv_eqi (nI_add (mb σ cd) 8) ?_
    refine lv_goto (tgt := 51) hx hb dM_change_44 (by decide) ?_
    refine lv_istore (lv' := [(4, .int (nI ((mb σ cd) + 8))), (3, .int (nI (mb σ cd))), (0, .ref (X.2.2 (0, 0, 0))), (1, .int (nI cd)), (2, .int (nI q))]) hx hb dM_change_51 hl (by decide) rfl (fun ls hl => ?_)
    refine lv_iconst (v := 0) hx hb dM_change_53 (by decide) ?_
    refine lv_istore (lv' := [(5, .int 0), (4, .int (nI ((mb σ cd) + 8))), (3, .int (nI (mb σ cd))), (0, .ref (X.2.2 (0, 0, 0))), (1, .int (nI cd)), (2, .int (nI q))]) hx hb dM_change_54 hl (by decide) rfl (fun ls hl => ?_)
    exact cm_change_lp l X hI σ cd hcd q hq  ((mb σ cd) + 8) (by omega) out hx hb hr hml hlocks hown hts hK hnb (8 + 1) 0  (by omega) (by omega) σ1 _ _ hW hS ls (lv_sub hl [3, 4, 5, 1, 0] rfl) he
theorem fr_change_lp (w q : Nat) (u : fw_T) (h : u.1 ≠ 3) : ∀ (n j : Nat) (τ : fw_S), ms_change_lp q w n j τ u = τ u := by
  intro n
  induction n with
  | zero => intro j τ; rfl
  | succ n ih =>
    intro j τ
    simp only [ms_change, ms_change_s2, ms_change_lp, ms_change_s1]
    split
    · rfl
    · rw [ih, fw_st_off h]
theorem fr_change (σ : fw_S) (c q : Nat) (u : fw_T) (h : u.1 ≠ 3) (h4 : u.1 ≠ 4) : ms_change σ c q u = σ u := by
  unfold ms_change
  simp only [ms_change, ms_change_s2, ms_change_s1]
  split
  all_goals rw [fr_change_lp _ _ _ h, fw_st_off h4]
def ms_load_s1 (σ2 : fw_S) : fw_S :=
  σ2
def ms_load_s2 (j : Nat) (rec : Nat → fw_S → fw_S) (σ4 : fw_S) : fw_S :=
  rec (j + 1) σ4
def ms_load_lp (cd : Nat) (w : Nat) : Nat → Nat → fw_S → fw_S
  | 0, _, τ => τ
  | n + 1, j, τ => if 8 ≤ j then ms_load_s1 (fw_st τ (4, 0, 0) 6 (ms_spent τ cd)) else ms_load_s2 j (ms_load_lp cd w n) (fw_st τ (4, 0, 0) j (τ (3, 0, 0) (w + j)))
def ms_load (σ : fw_S) (cd : Nat) : fw_S :=
  ms_load_lp cd (mb σ cd) (8 + 1) 0 σ
set_option maxHeartbeats 4000000 in
set_option maxRecDepth 100000 in
theorem cm_load_lp {p : Program} {e : Env} {s : State} {m : MethodId} {below : List Frame} {meth : Method} {c : Code} {args : Array Value} (l : Launch) (X : fw_X) (hI : fw_I mV X) (σ : fw_S) (cd : Nat) (hcd : cd < 4)   (w : Nat) (hw : w + 8 ≤ 64) (out : fw_S)
    (hx : p.tables.exec = Jvm.exec) (hb : c.code = bM_load) (hr : meth.sig.returnType = none) (hml : c.maxLocals = 4) (hlocks : meth.locks = false) (hown : s.vm.findClass "TapOfficeModel" = some m.cls) (hts : ∀ w ∈ wM_load, w.before args s = true) (hK : va_K X.1 fw_cl (fw_tys X.2.1) s) (hnb : va_Nw fw_nb s) :
    ∀ (n : Nat) (j : Nat), j ≤ 8 → 8 + 1 ≤ j + n → ∀ (τ : fw_S), ∀ (H : Heap) (locs : List Loc), fw_W fw_cl msh mV X τ H → va_S (fw_A mV X) s.heap H locs → ∀ (ls : Array Slot), lv_has ls 4 [(0, .ref (X.2.2 (0, 0, 0))), (1, .int (nI cd)), (2, .int (nI w)), (3, .int (nI j))] → out = ms_load_lp cd w n j τ → W p l e (fw_rm 2) s m args below meth c H locs 0 0 (MQ below (va_Qv (fun u => u = out) (fun u t => fw_O fw_cl msh mV fw_tys X u t) (fw_A mV X)) args s 0 0 (fw_A mV X)) (F0 m 8 ls []) := by
  have hA : ∀ t, mV t → fw_A mV X (X.2.2 t) := fun t h => ⟨t, h, rfl⟩
  have htb := tb_use hts
  intro n
  induction n with
  | zero =>
    intro j h1 h2
    exact absurd h2 (by omega)
  | succ n ih =>
    intro j hj1 hj2 τ H locs hW hS ls hl he
    rw [ms_load_lp] at he
    refine lv_iload_n hx hb dM_load_8 rfl (lv_at hl 3 rfl) ?_
    refine lv_bipush (v := 8) hx hb dM_load_9 (by decide) ?_
    refine lv_icmp_ge (tgt := 34) hx hb dM_load_11 (by decide) (fun c1 => ?_) (fun c1 => ?_)
    · replace c1 := (nI_leI (a := 8) (b := j) (by omega) (by omega)).mp c1
      rw [if_pos c1] at he
      refine lv_aload_n hx hb dM_load_34 rfl (lv_at hl 0 rfl) ?_
      refine fw_get (X := X) (v := .ref (X.2.2 (4, 0, 0))) hx hb hts hin_M hown hK hW (0, 0, 0) mv0 rfl rfl 4 (by decide) (htb _ m_416 rfl) (fun _ h => h) rfl rfl dM_load_35 ?_
      refine lv_bipush (v := 6) hx hb dM_load_38 (by decide) ?_
      refine lv_aload_n hx hb dM_load_40 rfl (lv_at hl 0 rfl) ?_
      refine lv_iload_n hx hb dM_load_41 rfl (lv_at hl 1 rfl) ?_
      refine fw_kp (va_runV (As := [.int (nI cd)]) (rest := [.int 6, .ref (X.2.2 (4, 0, 0))]) ⟨hx, hb, hml, hown, hts⟩ (cm_spent l X hI τ cd (by omega) ) (cwV 1 hts (tb_V m_495 m_492 m_494 m_11 m_31) rfl rfl rfl (by decide +kernel) ⟨Nat.le_of_ble_eq_true rfl, Nat.le_of_ble_eq_true rfl⟩) (fw_preV (X := X) hK hnb hW (0, 0, 0) mv0 rfl rfl [.int (nI cd)]) rfl rfl hl.1 rfl (lv_room (Nat.le_of_ble_eq_true rfl)) dM_load_42 ⟨Nat.zero_le _, Nat.zero_le _⟩) hS (fun H locs hW hS => ?_)
      refine fw_iast (X := X) hx hb hK hW hI hA hS (4, 0, 0) mv4 rfl 0 rfl 6 (by decide) (by unfold vp_in; decide) dM_load_45 (fun H locs hW hS => ?_)
      obtain ⟨σ2, e3⟩ : ∃ z : fw_S, z = fw_st τ (4, 0, 0) 6 (ms_spent τ cd) := ⟨_, rfl⟩
      rw [← e3] at hW
      try rw [← e3] at he
      unfold ms_load_s1 at he
      exact fw_vret hx hb hr hlocks hK hnb hW hS he dM_load_46
    · replace c1 := mt (nI_leI (a := 8) (b := j) (by omega) (by omega)).mpr c1
      rw [if_neg c1] at he
      refine lv_aload_n hx hb dM_load_14 rfl (lv_at hl 0 rfl) ?_
      refine fw_get (X := X) (v := .ref (X.2.2 (4, 0, 0))) hx hb hts hin_M hown hK hW (0, 0, 0) mv0 rfl rfl 4 (by decide) (htb _ m_416 rfl) (fun _ h => h) rfl rfl dM_load_15 ?_
      refine lv_iload_n hx hb dM_load_18 rfl (lv_at hl 3 rfl) ?_
      refine lv_aload_n hx hb dM_load_19 rfl (lv_at hl 0 rfl) ?_
      refine fw_get (X := X) (v := .ref (X.2.2 (3, 0, 0))) hx hb hts hin_M hown hK hW (0, 0, 0) mv0 rfl rfl 3 (by decide) (htb _ m_415 rfl) (fun _ h => h) rfl rfl dM_load_20 ?_
      refine lv_iload_n hx hb dM_load_23 rfl (lv_at hl 2 rfl) ?_
      refine lv_iload_n hx hb dM_load_24 rfl (lv_at hl 3 rfl) ?_
      refine lv_iadd hx hb dM_load_25 ?_
      refine lv_eqi (nI_add w j) ?_
      refine fw_iald (X := X) hx hb hK hW (3, 0, 0) mv3 rfl 0 rfl (w + j) (nI_clamp (by omega)) (vp_in_nI (by omega) (by decide)) dM_load_26 ?_
      refine fw_iast (X := X) hx hb hK hW hI hA hS (4, 0, 0) mv4 rfl 0 rfl j (nI_clamp (by omega)) (vp_in_nI (by omega) (by decide)) dM_load_27 (fun H locs hW hS => ?_)
      obtain ⟨σ4, e5⟩ : ∃ z : fw_S, z = fw_st τ (4, 0, 0) j (τ (3, 0, 0) (w + j)) := ⟨_, rfl⟩
      rw [← e5] at hW
      try rw [← e5] at he
      unfold ms_load_s2 at he
      refine lv_iinc (v := nI (j + 1)) (lv' := [(3, .int (nI (j + 1))), (0, .ref (X.2.2 (0, 0, 0))), (1, .int (nI cd)), (2, .int (nI w))]) hx hb dM_load_28 hl (k := 3) rfl (by exact nI_1 j) (by decide) rfl (fun ls hl => ?_)
      refine lv_goto (tgt := 8) hx hb dM_load_31 (by decide) ?_
      exact ih (j + 1) (by omega) (by omega) σ4 _ _ hW hS ls (lv_sub hl [1, 2, 3, 0] rfl) he
set_option maxHeartbeats 4000000 in
set_option maxRecDepth 100000 in
theorem cm_load (l : Launch) (X : fw_X) (hI : fw_I mV X) (σ : fw_S) (cd : Nat) (hcd : cd < 4)  : fw_Mv fw_cl msh mV fw_tys l yM_load wM_load (fw_rm 2) X σ [.ref (X.2.2 (0, 0, 0)), .int (nI cd)] (ms_load σ cd) := by
  obtain ⟨out, he⟩ : ∃ z : fw_S, z = ms_load σ cd := ⟨_, rfl⟩
  rw [← he]
  refine fw_Mv_of (cc := bM_load) (maxL := 4) (ret := none) (by decide) rfl (Nat.le_of_ble_eq_true rfl) ?_
  intro p e s m below meth c ls hx hb hr hml hlocks hown hts hK hnb hW hl
  have hS : va_S (fw_A mV X) s.heap s.heap [] := va_S.rf
  have hA : ∀ t, mV t → fw_A mV X (X.2.2 t) := fun t h => ⟨t, h, rfl⟩
  have htb := tb_use hts
  have hl : lv_has ls 4 [(0, .ref (X.2.2 (0, 0, 0))), (1, .int (nI cd))] := hl
  have hown : s.vm.findClass "TapOfficeModel" = some m.cls := hown
  unfold ms_load at he
  refine lv_aload_n hx hb dM_load_0 rfl (lv_at hl 0 rfl) ?_
  refine lv_iload_n hx hb dM_load_1 rfl (lv_at hl 1 rfl) ?_
  refine fw_kp (va_runV (As := [.int (nI cd)]) (rest := []) ⟨hx, hb, hml, hown, hts⟩ (cm_base l X hI σ cd (by omega) ) (cwV 1 hts (tb_V m_491 m_488 m_490 m_10 m_31) rfl rfl rfl (by decide +kernel) ⟨Nat.le_of_ble_eq_true rfl, Nat.le_of_ble_eq_true rfl⟩) (fw_preV (X := X) hK hnb hW (0, 0, 0) mv0 rfl rfl [.int (nI cd)]) rfl rfl hl.1 rfl (lv_room (Nat.le_of_ble_eq_true rfl)) dM_load_2 ⟨Nat.zero_le _, Nat.zero_le _⟩) hS (fun H locs hW hS => ?_)
  refine lv_eqi (mb_nat σ cd) ?_
  have := mb_or σ cd
  refine lv_istore_n (lv' := [(2, .int (nI (mb σ cd))), (0, .ref (X.2.2 (0, 0, 0))), (1, .int (nI cd))]) hx hb dM_load_5 rfl hl (by decide) rfl (fun ls hl => ?_)
  refine lv_iconst (v := 0) hx hb dM_load_6 (by decide) ?_
  refine lv_istore_n (lv' := [(3, .int 0), (2, .int (nI (mb σ cd))), (0, .ref (X.2.2 (0, 0, 0))), (1, .int (nI cd))]) hx hb dM_load_7 rfl hl (by decide) rfl (fun ls hl => ?_)
  exact cm_load_lp l X hI σ cd hcd  (mb σ cd) (by omega) out hx hb hr hml hlocks hown hts hK hnb (8 + 1) 0  (by omega) (by omega) σ _ _ hW hS ls (lv_sub hl [2, 3, 1, 0] rfl) he
theorem fr_load_lp (c w : Nat) (u : fw_T) (h : u.1 ≠ 4) : ∀ (n j : Nat) (τ : fw_S), ms_load_lp c w n j τ u = τ u := by
  intro n
  induction n with
  | zero => intro j τ; rfl
  | succ n ih =>
    intro j τ
    simp only [ms_load, ms_load_s1, ms_load_s2, ms_load_lp]
    split
    · rw [fw_st_off h]
    · rw [ih, fw_st_off h]
theorem fr_load (σ : fw_S) (c : Nat) (u : fw_T) (h : u.1 ≠ 4) : ms_load σ c u = σ u := fr_load_lp _ _ _ h _ _ _
theorem ld_lp (c w i : Nat) : ∀ (n j : Nat) (τ : fw_S), 8 + 1 ≤ j + n → j ≤ 8 → ms_load_lp c w n j τ (4, 0, 0) i = if i = 6 then ms_spent τ c else if j ≤ i ∧ i < 8 then τ (3, 0, 0) (w + i) else τ (4, 0, 0) i := by
  intro n
  induction n with
  | zero => intro j τ h1 h2; omega
  | succ n ih =>
    intro j τ h1 h2
    rw [ms_load_lp]
    by_cases h8 : 8 ≤ j
    · rw [if_pos h8]
      unfold ms_load_s1
      rw [fw_st_at]
      by_cases h6 : i = 6
      · rw [if_pos h6, if_pos ⟨rfl, h6⟩]
      · rw [if_neg h6, if_neg (fun q => h6 q.2), if_neg (by omega)]
    · rw [if_neg h8]
      unfold ms_load_s2
      rw [ih _ _ (by omega) (by omega), sp_frame (fw_st_off (by simp)) (fw_st_off (by simp)), fw_st_off (by simp), fw_st_at]
      by_cases h6 : i = 6
      · rw [if_pos h6, if_pos h6]
      · rw [if_neg h6, if_neg h6]
        by_cases h5 : j + 1 ≤ i ∧ i < 8
        · rw [if_pos h5, if_pos (by omega)]
        · rw [if_neg h5]
          by_cases hj : i = j
          · rw [if_pos ⟨rfl, hj⟩, if_pos (by omega), hj]
          · rw [if_neg (fun q => hj q.2), if_neg (by omega)]
theorem ld_at (σ : fw_S) (c i : Nat) (hi : i < 8) (h6 : i ≠ 6) : ms_load σ c (4, 0, 0) i = σ (3, 0, 0) (mb σ c + i) := by
  unfold ms_load
  rw [ld_lp _ _ _ _ _ _ (by omega) (by omega), if_neg h6, if_pos (by omega)]
theorem ld_6 (σ : fw_S) (c : Nat) : ms_load σ c (4, 0, 0) 6 = ms_spent σ c := by
  unfold ms_load
  rw [ld_lp _ _ _ _ _ _ (by omega) (by omega), if_pos rfl]
theorem mb_8 (σ : fw_S) (c i : Nat) : mb σ c + i = 8 * (mb σ c / 8) + i := by
  rcases mb_or σ c with h | h <;> omega
theorem mb_8l (σ : fw_S) {c : Nat} (hc : c < 4) : mb σ c / 8 < 8 := by
  rcases mb_or σ c with h | h <;> omega
theorem ld_z1 {σ : fw_S} {c : Nat} (hww : ∀ q, q < 8 → (σ (3, 0, 0) (8 * q + 1) < 0 ∨ vp_in (σ (3, 0, 0) (8 * q + 1)) 6) ∧ vp_in (σ (3, 0, 0) (8 * q + 3)) 6) (hc : c < 4) : ms_load σ c (4, 0, 0) 1 < 0 ∨ vp_in (ms_load σ c (4, 0, 0) 1) 6 := by
  rw [ld_at σ c 1 (by omega) (by omega), mb_8]
  exact (hww _ (mb_8l σ hc)).1
theorem ld_z3 {σ : fw_S} {c : Nat} (hww : ∀ q, q < 8 → (σ (3, 0, 0) (8 * q + 1) < 0 ∨ vp_in (σ (3, 0, 0) (8 * q + 1)) 6) ∧ vp_in (σ (3, 0, 0) (8 * q + 3)) 6) (hc : c < 4) : vp_in (ms_load σ c (4, 0, 0) 3) 6 := by
  rw [ld_at σ c 3 (by omega) (by omega), mb_8]
  exact (hww _ (mb_8l σ hc)).2
theorem lg_8 {x : Int32} (h : vp_in x 9) (hn : ¬ x = 8) : vp_in x 8 := by
  have h1 := vp_in_iff.mp h
  have h2 : ¬ x.toInt = 8 := lv_neT hn (by decide)
  exact vi_of h1.1 (by have := h1.2; omega)
theorem lg_i {x a : Int32} (h : vp_in x 9) (h0 : ¬ a < 0) (h1 : ¬ x ≤ a) : vp_in a 8 := by
  have h2 := (vp_in_iff.mp h).2
  have h3 := Int32.lt_iff_toInt_lt.mp (Int32.not_le.mp h1)
  have h4 := Int32.le_iff_toInt_le.mp (Int32.not_lt.mp h0)
  have e0 : (0 : Int32).toInt = 0 := by decide
  exact vi_of (by omega) (by omega)

/-! THE CLAIM OUT OF ONE WALK OF THE LAW'S BODY. Your part is whole_start (and what it stands on); all else here is the same for every law, but numbers. -/
def R_law : String := "TapOfficeLaw"
def lw_P (b : Addr) (xs : List Int32) (args : Array Value) (s : State) : Prop := args = #[.ref b] ∧ s.IntsAt b xs ∧ xs.length ≤ 2048 ∧ (Jvm.Cond.and given_1 narrow_1).before args s = true
def lw_Q (_ : Array Value) (s : State) (o : Outcome) (t : State) : Prop := o = .returned (some (.int 1)) ∧ Framed s o t [] 600000 7302250
def lw_Z (below : List Frame) (a : Array Value) (s : State) : State → Prop := fun t => ∃ o, t.status = .running ∧ Ended t below o ∧ lw_Q a s o t
/-- the law's own end, with 1 on the stack, nothing written that was there before, its room as the claim has it -/
theorem lw_ret {p : Program} {l : Launch} {e : Env} {s : State} {m : MethodId} {below : List Frame} {meth : Method} {c : Code} {b : Nat} (hx : p.tables.exec = Jvm.exec) (hb : c.code = code) (hr : meth.sig.returnType = ret) (hlocks : meth.locks = false) {pc : Nat} {H : Heap} {ls : Array Slot} (hdg : decode code pc = .ok (.ireturn, 1)) : W p l e room_1 s m #[Value.ref b] below meth c H [] 600000 7302250 (lw_Z below #[Value.ref b] s) (F0 m pc ls [.int 1]) := by
  intro T hT X
  obtain ⟨fs, hret, hrun, hended, hW, hframe⟩ := X.leave (v := some (.int 1)) (hlocks := hlocks) (fun h => by rw [hr] at h; cases h)
  have hmeth' : T.vm.method? m = some meth := X.method'
  refine ⟨T.setFrames fs, ?_, .returned (some (.int 1)), hrun, hended, rfl, ⟨_, rfl⟩, hW, hframe⟩
  jvm_step X.here [X.here.top, hx, hb, hdg, hmeth', hr, ret, narrow_b1]
  (try refine ⟨rfl, ?_⟩); (try refine ⟨rfl, ?_⟩)
  first | (intro acts; rw [hret _ acts rfl rfl rfl]) | rw [hret _ _ rfl rfl rfl]
  exact Steps.refl _
/-- what holds at the law's entry: the machine, the code, the tables' words (any of lw_tbl by 'hts w (by decide +kernel)'), the script of L ints xs at the cell b, what the Statement gives of the start (any of its parts by flat_of_before) -/
def lw_At (p : Program) (s : State) (m : MethodId) (meth : Method) (c : Code) (b L : Nat) (xs : Nat → Int32) : Prop :=
  p.tables.exec = Jvm.exec ∧ c.code = code ∧ meth.sig.returnType = ret ∧ c.maxLocals = 4 ∧ s.vm.findClass R_law = some m.cls ∧ (∀ w ∈ lw_tbl, w.before #[Value.ref b] s = true) ∧ va_X b L xs s s.heap ∧ b < s.heap.size ∧ meth.locks = false ∧ (Jvm.Cond.and given_1 narrow_1).before #[Value.ref b] s = true
/-! the law's own rows -/
theorem lw_ts {s : State} {b : Nat} (h : ∀ w ∈ lw_tbl, w.before #[Value.ref b] s = true) : ∀ w ∈ (.initialized "TapOffice") :: tb_ok, w.before #[Value.ref b] s = true := fun w hw => by
  rcases List.mem_cons.mp hw with rfl | hw
  · exact h _ m_25
  · exact h w (List.mem_filter.mp hw).1
/-- what stands fast in the law's loop: the two families' addresses and classes, and the table of greatest settings -/
def lw_I (X Y : fw_X) (s : State) : Prop := fw_I cV X ∧ fw_I mV Y ∧ va_K X.1 fw_cl (fw_tys X.2.1) s ∧ va_K Y.1 fw_cl (fw_tys Y.2.1) s ∧ va_Nw fw_nb s ∧ (∀ t, cV t → s.heap.size ≤ X.2.2 t) ∧ (∀ t, mV t → s.heap.size ≤ Y.2.2 t) ∧ (∀ t u, cV t → mV u → X.2.2 t ≠ Y.2.2 u) ∧ ∃ tb : Nat, va_Z "TapOffice" "MOST_SETTINGS" "[I" (.ref tb) (fun q => s.heap.size ≤ q) s s.heap ∧ va_T .int tb 5 (fun j => .int (cs_most j)) (fun q => s.heap.size ≤ q) s s.heap
section LAW
variable {p : Program} {l : Launch} {e : Env} {s : State} {m : MethodId} {below : List Frame} {meth : Method} {c : Code} {b L : Nat} {xs : Nat → Int32} {X Y : fw_X} {σ τ : fw_S} {H : Heap} {locs : List Loc} {ls : Array Slot} {n i pc : Nat} {rest : List Value} {Q : State → Prop} {cells slots : Nat} {lv : List (Nat × Value)}
theorem la_arg (hx : p.tables.exec = Jvm.exec) (hb : c.code = code) (hX : va_X b L xs s s.heap) (hbl : b < s.heap.size) (hS : va_S (fun q => s.heap.size ≤ q) s.heap H locs) (h0 : ls[0]? = some (.val (.ref b))) (h3 : ls[3]? = some (.val (.int (nI i)))) (k : Nat) (hk : i + k < L) (hL : L ≤ 2048) {z : Int} (hz : Int32.ofInt z = nI k)
    (d1 : decode code pc = .ok (.aload_n 0, 1)) (d2 : decode code (pc + 1) = .ok (.iload_n 3, 1)) (d3 : decode code (pc + 2) = .ok (.iconst z, 1)) (d4 : decode code (pc + 3) = .ok (.iadd, 1)) (d5 : decode code (pc + 4) = .ok (.iaload, 1))
    (kk : W p l e room_1 s m #[Value.ref b] below meth c H locs cells slots Q (F0 m (pc + 5) ls (.int (xs (i + k)) :: rest))) : W p l e room_1 s m #[Value.ref b] below meth c H locs cells slots Q (F0 m pc ls rest) := by
  refine lv_aload_n hx hb d1 rfl h0 ?_
  refine lv_iload_n hx hb d2 rfl h3 ?_
  refine lv_iconst hx hb d3 hz ?_
  refine lv_iadd hx hb d4 ?_
  refine lv_eqi (nI_add i k) ?_
  refine va_sld (A := fun q => s.heap.size ≤ q) hx hb hX hbl (Nat.not_le.mpr hbl) hS (vp_in_nI hk (by omega)) d5 ?_
  refine lv_eqi (y := xs (i + k)) (by rw [nI_clamp (by omega)]) ?_
  exact kk
theorem la_bool (hx : p.tables.exec = Jvm.exec) (hb : c.code = code) {x : Int32} {args : Array Value} {R : Room} (d1 : decode code pc = .ok (.ifCond .eq 7, 3)) (d2 : decode code (pc + 3) = .ok (.iconst 1, 1)) (d3 : decode code (pc + 4) = .ok (.goto 4, 3)) (d4 : decode code (pc + 7) = .ok (.iconst 0, 1))
    (kk : W p l e R s m args below meth c H locs cells slots Q (F0 m (pc + 8) ls (.int (if x = 0 then 0 else 1) :: rest))) : W p l e R s m args below meth c H locs cells slots Q (F0 m pc ls (.int x :: rest)) := by
  refine lv_if_eq (tgt := pc + 7) hx hb d1 (by omega) (fun c1 => ?_) (fun c1 => ?_)
  · refine lv_iconst (v := 0) hx hb d4 (by decide) ?_
    rw [if_pos c1] at kk
    exact kk
  · refine lv_iconst (v := 1) hx hb d2 (by decide) ?_
    refine lv_goto (tgt := pc + 8) hx hb d3 (by omega) ?_
    rw [if_neg c1] at kk
    exact kk
theorem lw_c1 {out : Int32 × fw_S} {aa : Array Value} {st0 : List Value} (hr : va_Run p l e room_1 s m #[Value.ref b] below meth c H locs cells slots 0 0 (F0 m pc ls st0) rest (va_Qi (fun r u => (r, u) = out) (fun u t => fw_O fw_cl csh cV fw_tys X u t) (fw_A cV X) aa) (fw_A cV X)) (hI : lw_I X Y s) (hWy : fw_W fw_cl msh mV Y τ H) (hS : va_S (fun q => s.heap.size ≤ q) s.heap H locs)
    (kk : ∀ (H1 : Heap) (locs1 : List Loc), fw_W fw_cl csh cV X out.2 H1 → fw_W fw_cl msh mV Y τ H1 → va_S (fun q => s.heap.size ≤ q) s.heap H1 locs1 → W p l e room_1 s m #[Value.ref b] below meth c H1 locs1 cells slots Q (F0 m (pc + 3) ls (.int out.1 :: rest))) : W p l e room_1 s m #[Value.ref b] below meth c H locs cells slots Q (F0 m pc ls st0) := by
  obtain ⟨hIx, hIy, hKx, hKy, hnb, hAx, hAy, hXY, hT⟩ := hI
  refine fw_kiL (A := fun q => s.heap.size ≤ q) hr hAx hS (fun r σ' H1 locs1 ho hW hq hS1 => ?_)
  subst ho
  exact kk H1 locs1 hW (hWy.kept (fun t ht => hq _ (hWy.lt ht) (fun ⟨u, hu, he⟩ => hXY u t hu ht he.symm))) hS1
theorem lw_c2 {out : Int32 × fw_S} {aa : Array Value} {st0 : List Value} (hr : va_Run p l e room_1 s m #[Value.ref b] below meth c H locs cells slots 0 0 (F0 m pc ls st0) rest (va_Qi (fun r u => (r, u) = out) (fun u t => fw_O fw_cl msh mV fw_tys Y u t) (fw_A mV Y) aa) (fw_A mV Y)) (hI : lw_I X Y s) (hWx : fw_W fw_cl csh cV X σ H) (hS : va_S (fun q => s.heap.size ≤ q) s.heap H locs)
    (kk : ∀ (H1 : Heap) (locs1 : List Loc), fw_W fw_cl csh cV X σ H1 → fw_W fw_cl msh mV Y out.2 H1 → va_S (fun q => s.heap.size ≤ q) s.heap H1 locs1 → W p l e room_1 s m #[Value.ref b] below meth c H1 locs1 cells slots Q (F0 m (pc + 3) ls (.int out.1 :: rest))) : W p l e room_1 s m #[Value.ref b] below meth c H locs cells slots Q (F0 m pc ls st0) := by
  obtain ⟨hIx, hIy, hKx, hKy, hnb, hAx, hAy, hXY, hT⟩ := hI
  refine fw_kiL (A := fun q => s.heap.size ≤ q) hr hAy hS (fun r σ' H1 locs1 ho hW hq hS1 => ?_)
  subst ho
  exact kk H1 locs1 (hWx.kept (fun t ht => hq _ (hWx.lt ht) (fun ⟨u, hu, he⟩ => hXY t u ht hu he))) hW hS1
theorem lw_preE (hI : lw_I X Y s) (hWx : fw_W fw_cl csh cV X σ H) (hS : va_S (fun q => s.heap.size ≤ q) s.heap H locs) {tb : Nat} (hz : va_Z "TapOffice" "MOST_SETTINGS" "[I" (.ref tb) (fun q => s.heap.size ≤ q) s s.heap) (hT : va_T .int tb 5 (fun j => .int (cs_most j)) (fun q => s.heap.size ≤ q) s s.heap) (As : List Value) : PreV s H "TapOffice" (X.2.2 (0, 0, 0)) (va_Pc (.ref (X.2.2 (0, 0, 0)) :: As) (fun U => fw_O fw_cl csh cV fw_tys X σ U ∧ cs_exS X tb U)) As := by
  obtain ⟨hIx, hIy, hKx, hKy, hnb, hAx, hAy, hXY, -⟩ := hI
  obtain ⟨p1, p2, p3⟩ := fw_preV (X := X) (tys := fw_tys) hKx hnb hWx (0, 0, 0) cv0 rfl rfl As
  have hsub : ∀ q, fw_A cV X q → s.heap.size ≤ q := fun q ⟨t, ht, he⟩ => he ▸ hAx t ht
  refine ⟨fun a U g mk q => ⟨q.1, (p1 a U g mk ⟨q.1, q.2.1⟩).2, ?_⟩, p2, fun U hU hW' => ⟨rfl, (p3 U hU hW').2, ?_⟩⟩
  · exact ⟨va_Z.moved (u := U) (U := U.calling g mk a) (Vm.Alike.refl U.vm) q.2.2.1, va_T.moved (u := U) (U := U.calling g mk a) (Vm.Alike.refl U.vm) q.2.2.2⟩
  · unfold cs_exS
    rw [hU]
    exact ⟨((hz.kept (fun q h1 h2 => hS.2.1 q h1 h2)).moved hW'.alike).narrow hsub, ((hT.kept (fun q h1 h2 => hS.2.1 q h1 h2)).moved hW'.alike).narrow hsub⟩
theorem lx_G (h : re_all n σ τ) : ∀ v, v < 4 → σ (12, v, 0) 3 = 0 ∨ σ (12, v, 0) 3 = 1 := fun v hv => by
  have := h.2.2.2.2.2.2.1 v hv
  rw [this.1]
  exact this.2
theorem lx_0 (h : re_all n σ τ) : ∀ v, v < 4 → 0 ≤ σ (12, v, 0) 1 := fun v hv => by
  have := h.2.2.2.2.2.2.2.1 v hv
  rw [this.1]
  obtain ⟨j, hj, e⟩ := vp_in_of this.2 (by omega)
  rw [e]
  exact nI_pos' (by omega)
theorem lx_8 (h : re_all n σ τ) : ∀ v, v < 4 → σ (12, v, 0) 1 ≤ 8 := fun v hv => by
  have := h.2.2.2.2.2.2.2.1 v hv
  rw [this.1]
  obtain ⟨j, hj, e⟩ := vp_in_of this.2 (by omega)
  rw [e]
  exact nI_le (b := 8) (by omega) (by omega)
theorem lx_lg (h : re_all n σ τ) : ∀ v, v < 4 → vp_in (τ (8, 0, 0) v) 9 := fun v hv => (h.2.2.2.2.2.2.2.1 v hv).2
theorem lx_zn (h : re_all n σ τ) : ∀ v, v < 4 → vp_in (τ (5, 0, 0) v) 6 := fun v hv => (h.2.2.2.2.2.1 v hv).2
theorem lx_ww (h : re_all n σ τ) : ∀ q, q < 8 → (τ (3, 0, 0) (8 * q + 1) < 0 ∨ vp_in (τ (3, 0, 0) (8 * q + 1)) 6) ∧ vp_in (τ (3, 0, 0) (8 * q + 3)) 6 := fun q hq => by
  have e1 := h.2.2.2.2.1 (q / 2) (by omega) (q % 2) (by omega) 1 (by omega)
  have e3 := h.2.2.2.2.1 (q / 2) (by omega) (q % 2) (by omega) 3 (by omega)
  have m := h.2.2.2.2.2.2.2.2.2.2.2.2.1 (q / 2) (by omega) (q % 2) (by omega)
  rw [show 16 * (q / 2) + 8 * (q % 2) + 1 = 8 * q + 1 by omega] at e1
  rw [show 16 * (q / 2) + 8 * (q % 2) + 3 = 8 * q + 3 by omega] at e3
  rw [← e1, ← e3]
  exact ⟨m.1.imp (fun z => by rw [z]; decide) id, m.2.1⟩
theorem lx_ct (h : re_all n σ τ) (hn : n ≤ 512) : ∀ c, c < 4 → vp_in (ms_counter τ c) 519 := fun c hc => by
  have q := re_c_le h.2.2.2.2.2.2.2.2.2.2.2.2.1 hn hc
  rw [← co_eq h.2.2.2.2.1 hc, q.2]
  exact vp_in_nI (by omega) (by omega)
theorem lx_lo (h : re_all n σ τ) : ∀ v, v < 4 → ∀ j, j < (τ (8, 0, 0) v).toNatClampNeg → vp_in (τ (7, 0, 0) (32 * v + 4 * j)) 4 ∧ vp_in (τ (7, 0, 0) (32 * v + 4 * j + 1)) 520 := fun v hv j hj => by
  have hH := h.2.2.2.2.2.2.2.1 v hv
  have h8 : j < 8 := by have := vi_lt hH.2; omega
  have o := h.2.2.2.2.2.2.2.2.2.2.2.2.2.2.2.2.1 v hv j (by unfold re_z; rw [hH.1]; exact hj)
  have i0 := h.2.2.2.2.2.2.2.2.1 v hv j h8 0 (by omega)
  have i1 := h.2.2.2.2.2.2.2.2.1 v hv j h8 1 (by omega)
  rw [Nat.add_zero] at i0
  rw [← i0, ← i1]
  obtain ⟨q, hq, e⟩ := vp_in_of o.2.1 (by omega)
  refine ⟨o.1, ?_⟩
  rw [e]
  exact vp_in_nI (by omega) (by omega)
theorem lx_dn (h : re_all n σ τ) : ∀ j, j < 4 → τ (10, 0, 0) j = 0 ∨ τ (10, 0, 0) j = 1 := fun j hj => by
  obtain ⟨d, -, -, d3⟩ := h.2.2.2.2.2.2.2.2.2.2.1
  rw [d3 j hj]
  unfold bt
  by_cases g : d.testBit j = true
  · rw [if_pos g]; exact Or.inr rfl
  · rw [if_neg g]; exact Or.inl rfl
theorem lx_b (x : Int32) : (if x = 0 then (0 : Int32) else 1) = 0 ∨ (if x = 0 then (0 : Int32) else 1) = 1 := by
  by_cases g : x = 0
  · rw [if_pos g]; exact Or.inl rfl
  · rw [if_neg g]; exact Or.inr rfl
set_option maxHeartbeats 4000000 in
set_option maxRecDepth 100000 in
theorem lc_fare (hL : L ≤ 2048) (C0 : lw_At p s m meth c b L xs) (hI : lw_I X Y s) (h : re_all n σ τ) (hn : n + 1 ≤ 512) (hi : i + 4 ≤ L) (hWx : fw_W fw_cl csh cV X σ H) (hWy : fw_W fw_cl msh mV Y τ H) (hS : va_S (fun q => s.heap.size ≤ q) s.heap H locs) (hl : lv_has ls 4 [(0, .ref b), (1, .ref (X.2.2 (0, 0, 0))), (2, .ref (Y.2.2 (0, 0, 0))), (3, .int (nI i))])
    (kk : ∀ (σ1 τ1 : fw_S) (H1 : Heap) (locs1 : List Loc), re_all (n + 1) σ1 τ1 → fw_W fw_cl csh cV X σ1 H1 → fw_W fw_cl msh mV Y τ1 H1 → va_S (fun q => s.heap.size ≤ q) s.heap H1 locs1 → W p l e room_1 s m #[Value.ref b] below meth c H1 locs1 105 13082 (lw_Z below #[Value.ref b] s) (F0 m 634 ls [])) : W p l e room_1 s m #[Value.ref b] below meth c H locs 105 13082 (lw_Z below #[Value.ref b] s) (F0 m 104 ls []) := by
  obtain ⟨hx, hb, hr, hml, hown, hts0, hX, hbl, hlocks, hgv⟩ := C0
  obtain ⟨hIx, hIy, hKx, hKy, hnb, hAx, hAy, hXY, tb, hz, hT⟩ := id hI
  have hts := lw_ts hts0
  refine lv_aload_n hx hb dl_104 rfl (lv_at hl 1 rfl) ?_
  refine la_arg hx hb hX hbl hS (lv_at hl 0 rfl) (lv_at hl 3 rfl) 1 (by omega) hL (by decide) dl_105 dl_106 dl_107 dl_108 dl_109 ?_
  refine la_arg hx hb hX hbl hS (lv_at hl 0 rfl) (lv_at hl 3 rfl) 2 (by omega) hL (by decide) dl_110 dl_111 dl_112 dl_113 dl_114 ?_
  refine la_arg hx hb hX hbl hS (lv_at hl 0 rfl) (lv_at hl 3 rfl) 3 (by omega) hL (by decide) dl_115 dl_116 dl_117 dl_118 dl_119 ?_
  refine lw_c1 (τ := τ) (out := (cs_fare σ (xs (i + 1)) (xs (i + 2)) (xs (i + 3)))) (va_runV (As := [.int (xs (i + 1)), .int (xs (i + 2)), .int (xs (i + 3))]) (rest := []) ⟨hx, hb, hml, hown, hts⟩ (c_fare l X hIx σ (xs (i + 1)) (xs (i + 2)) (xs (i + 3))) (cwV 3 hts (tb_V m_169 m_166 m_167 m_168 m_25) rfl rfl rfl (by decide +kernel) ⟨Nat.le_of_ble_eq_true rfl, Nat.le_of_ble_eq_true rfl⟩) (fw_preV (X := X) hKx hnb hWx (0, 0, 0) cv0 rfl rfl [.int (xs (i + 1)), .int (xs (i + 2)), .int (xs (i + 3))]) rfl rfl hl.1 rfl (lv_room (Nat.le_of_ble_eq_true rfl)) dl_120 ⟨Nat.le_of_ble_eq_true rfl, Nat.le_of_ble_eq_true rfl⟩) hI hWy hS (fun H locs hWx hWy hS => ?_)
  refine lv_aload_n hx hb dl_123 rfl (lv_at hl 2 rfl) ?_
  refine la_arg hx hb hX hbl hS (lv_at hl 0 rfl) (lv_at hl 3 rfl) 1 (by omega) hL (by decide) dl_124 dl_125 dl_126 dl_127 dl_128 ?_
  refine la_arg hx hb hX hbl hS (lv_at hl 0 rfl) (lv_at hl 3 rfl) 2 (by omega) hL (by decide) dl_129 dl_130 dl_131 dl_132 dl_133 ?_
  refine la_arg hx hb hX hbl hS (lv_at hl 0 rfl) (lv_at hl 3 rfl) 3 (by omega) hL (by decide) dl_134 dl_135 dl_136 dl_137 dl_138 ?_
  refine lw_c2 (out := (ms_fare τ (xs (i + 1)) (xs (i + 2)) (xs (i + 3)))) (va_runV (As := [.int (xs (i + 1)), .int (xs (i + 2)), .int (xs (i + 3))]) (rest := [.int (cs_fare σ (xs (i + 1)) (xs (i + 2)) (xs (i + 3))).1]) ⟨hx, hb, hml, hown, hts⟩ (cm_fare l Y hIy τ (xs (i + 1)) (xs (i + 2)) (xs (i + 3))) (cwV 3 hts (tb_V m_464 m_461 m_462 m_463 m_31) rfl rfl rfl (by decide +kernel) ⟨Nat.le_of_ble_eq_true rfl, Nat.le_of_ble_eq_true rfl⟩) (fw_preV (X := Y) hKy hnb hWy (0, 0, 0) mv0 rfl rfl [.int (xs (i + 1)), .int (xs (i + 2)), .int (xs (i + 3))]) rfl rfl hl.1 rfl (lv_room (Nat.le_of_ble_eq_true rfl)) dl_139 ⟨Nat.le_of_ble_eq_true rfl, Nat.le_of_ble_eq_true rfl⟩) hI hWx hS (fun H locs hWx hWy hS => ?_)
  refine lv_icmp_eq (tgt := 634) hx hb dl_142 (by decide) (fun _ => ?_) (fun c1 => ?_)
  · exact kk _ _ _ _ (si_fare h (xs (i + 1)) (xs (i + 2)) (xs (i + 3))).2 hWx hWy hS
  · exact absurd (si_fare h (xs (i + 1)) (xs (i + 2)) (xs (i + 3))).1 c1
set_option maxHeartbeats 4000000 in
set_option maxRecDepth 100000 in
theorem lc_set (hL : L ≤ 2048) (C0 : lw_At p s m meth c b L xs) (hI : lw_I X Y s) (h : re_all n σ τ) (hn : n + 1 ≤ 512) (hi : i + 4 ≤ L) (hWx : fw_W fw_cl csh cV X σ H) (hWy : fw_W fw_cl msh mV Y τ H) (hS : va_S (fun q => s.heap.size ≤ q) s.heap H locs) (hl : lv_has ls 4 [(0, .ref b), (1, .ref (X.2.2 (0, 0, 0))), (2, .ref (Y.2.2 (0, 0, 0))), (3, .int (nI i))])
    (kk : ∀ (σ1 τ1 : fw_S) (H1 : Heap) (locs1 : List Loc), re_all (n + 1) σ1 τ1 → fw_W fw_cl csh cV X σ1 H1 → fw_W fw_cl msh mV Y τ1 H1 → va_S (fun q => s.heap.size ≤ q) s.heap H1 locs1 → W p l e room_1 s m #[Value.ref b] below meth c H1 locs1 105 13082 (lw_Z below #[Value.ref b] s) (F0 m 634 ls [])) : W p l e room_1 s m #[Value.ref b] below meth c H locs 105 13082 (lw_Z below #[Value.ref b] s) (F0 m 147 ls []) := by
  obtain ⟨hx, hb, hr, hml, hown, hts0, hX, hbl, hlocks, hgv⟩ := C0
  obtain ⟨hIx, hIy, hKx, hKy, hnb, hAx, hAy, hXY, tb, hz, hT⟩ := id hI
  have hts := lw_ts hts0
  refine lv_aload_n hx hb dl_147 rfl (lv_at hl 1 rfl) ?_
  refine la_arg hx hb hX hbl hS (lv_at hl 0 rfl) (lv_at hl 3 rfl) 1 (by omega) hL (by decide) dl_148 dl_149 dl_150 dl_151 dl_152 ?_
  refine la_arg hx hb hX hbl hS (lv_at hl 0 rfl) (lv_at hl 3 rfl) 2 (by omega) hL (by decide) dl_153 dl_154 dl_155 dl_156 dl_157 ?_
  refine lw_c1 (τ := τ) (out := (cs_set σ (xs (i + 1)) (xs (i + 2)))) (va_runV (As := [.int (xs (i + 1)), .int (xs (i + 2))]) (rest := []) ⟨hx, hb, hml, hown, hts⟩ (c_set l X hIx σ (xs (i + 1)) (xs (i + 2)) tb) (cwV 2 hts (tb_V m_180 m_177 m_178 m_179 m_25) rfl rfl rfl (by decide +kernel) ⟨Nat.le_of_ble_eq_true rfl, Nat.le_of_ble_eq_true rfl⟩) (lw_preE hI hWx hS hz hT [.int (xs (i + 1)), .int (xs (i + 2))]) rfl rfl hl.1 rfl (lv_room (Nat.le_of_ble_eq_true rfl)) dl_158 ⟨Nat.le_of_ble_eq_true rfl, Nat.le_of_ble_eq_true rfl⟩) hI hWy hS (fun H locs hWx hWy hS => ?_)
  refine lv_aload_n hx hb dl_161 rfl (lv_at hl 2 rfl) ?_
  refine la_arg hx hb hX hbl hS (lv_at hl 0 rfl) (lv_at hl 3 rfl) 1 (by omega) hL (by decide) dl_162 dl_163 dl_164 dl_165 dl_166 ?_
  refine la_arg hx hb hX hbl hS (lv_at hl 0 rfl) (lv_at hl 3 rfl) 2 (by omega) hL (by decide) dl_167 dl_168 dl_169 dl_170 dl_171 ?_
  refine lw_c2 (out := (ms_set τ (xs (i + 1)) (xs (i + 2)))) (va_runV (As := [.int (xs (i + 1)), .int (xs (i + 2))]) (rest := [.int (cs_set σ (xs (i + 1)) (xs (i + 2))).1]) ⟨hx, hb, hml, hown, hts⟩ (cm_set l Y hIy τ (xs (i + 1)) (xs (i + 2))) (cwV 2 hts (tb_V m_471 m_468 m_469 m_470 m_31) rfl rfl rfl (by decide +kernel) ⟨Nat.le_of_ble_eq_true rfl, Nat.le_of_ble_eq_true rfl⟩) (fw_preV (X := Y) hKy hnb hWy (0, 0, 0) mv0 rfl rfl [.int (xs (i + 1)), .int (xs (i + 2))]) rfl rfl hl.1 rfl (lv_room (Nat.le_of_ble_eq_true rfl)) dl_172 ⟨Nat.le_of_ble_eq_true rfl, Nat.le_of_ble_eq_true rfl⟩) hI hWx hS (fun H locs hWx hWy hS => ?_)
  refine lv_icmp_eq (tgt := 634) hx hb dl_175 (by decide) (fun _ => ?_) (fun c1 => ?_)
  · exact kk _ _ _ _ (si_set h (xs (i + 1)) (xs (i + 2))).2 hWx hWy hS
  · exact absurd (si_set h (xs (i + 1)) (xs (i + 2))).1 c1
set_option maxHeartbeats 4000000 in
set_option maxRecDepth 100000 in
theorem lc_place (hL : L ≤ 2048) (C0 : lw_At p s m meth c b L xs) (hI : lw_I X Y s) (h : re_all n σ τ) (hn : n + 1 ≤ 512) (hi : i + 4 ≤ L) (hWx : fw_W fw_cl csh cV X σ H) (hWy : fw_W fw_cl msh mV Y τ H) (hS : va_S (fun q => s.heap.size ≤ q) s.heap H locs) (hl : lv_has ls 4 [(0, .ref b), (1, .ref (X.2.2 (0, 0, 0))), (2, .ref (Y.2.2 (0, 0, 0))), (3, .int (nI i))])
    (kk : ∀ (σ1 τ1 : fw_S) (H1 : Heap) (locs1 : List Loc), re_all (n + 1) σ1 τ1 → fw_W fw_cl csh cV X σ1 H1 → fw_W fw_cl msh mV Y τ1 H1 → va_S (fun q => s.heap.size ≤ q) s.heap H1 locs1 → W p l e room_1 s m #[Value.ref b] below meth c H1 locs1 105 13082 (lw_Z below #[Value.ref b] s) (F0 m 634 ls [])) : W p l e room_1 s m #[Value.ref b] below meth c H locs 105 13082 (lw_Z below #[Value.ref b] s) (F0 m 180 ls []) := by
  obtain ⟨hx, hb, hr, hml, hown, hts0, hX, hbl, hlocks, hgv⟩ := C0
  obtain ⟨hIx, hIy, hKx, hKy, hnb, hAx, hAy, hXY, tb, hz, hT⟩ := id hI
  have hts := lw_ts hts0
  refine lv_aload_n hx hb dl_180 rfl (lv_at hl 1 rfl) ?_
  refine la_arg hx hb hX hbl hS (lv_at hl 0 rfl) (lv_at hl 3 rfl) 1 (by omega) hL (by decide) dl_181 dl_182 dl_183 dl_184 dl_185 ?_
  refine la_arg hx hb hX hbl hS (lv_at hl 0 rfl) (lv_at hl 3 rfl) 2 (by omega) hL (by decide) dl_186 dl_187 dl_188 dl_189 dl_190 ?_
  refine la_arg hx hb hX hbl hS (lv_at hl 0 rfl) (lv_at hl 3 rfl) 3 (by omega) hL (by decide) dl_191 dl_192 dl_193 dl_194 dl_195 ?_
  refine la_bool hx hb dl_196 dl_199 dl_200 dl_203 ?_
  refine lw_c1 (τ := τ) (out := (cs_place σ (xs (i + 1)) (xs (i + 2)) (if xs (i + 3) = 0 then 0 else 1))) (va_runV (As := [.int (xs (i + 1)), .int (xs (i + 2)), .int (if xs (i + 3) = 0 then 0 else 1)]) (rest := []) ⟨hx, hb, hml, hown, hts⟩ (c_place l X hIx σ (xs (i + 1)) (xs (i + 2)) (if xs (i + 3) = 0 then 0 else 1) (lx_b _)) (cwV 3 hts (tb_V m_190 m_187 m_188 m_189 m_25) rfl rfl rfl (by decide +kernel) ⟨Nat.le_of_ble_eq_true rfl, Nat.le_of_ble_eq_true rfl⟩) (fw_preV (X := X) hKx hnb hWx (0, 0, 0) cv0 rfl rfl [.int (xs (i + 1)), .int (xs (i + 2)), .int (if xs (i + 3) = 0 then 0 else 1)]) rfl rfl hl.1 rfl (lv_room (Nat.le_of_ble_eq_true rfl)) dl_204 ⟨Nat.le_of_ble_eq_true rfl, Nat.le_of_ble_eq_true rfl⟩) hI hWy hS (fun H locs hWx hWy hS => ?_)
  refine lv_aload_n hx hb dl_207 rfl (lv_at hl 2 rfl) ?_
  refine la_arg hx hb hX hbl hS (lv_at hl 0 rfl) (lv_at hl 3 rfl) 1 (by omega) hL (by decide) dl_208 dl_209 dl_210 dl_211 dl_212 ?_
  refine la_arg hx hb hX hbl hS (lv_at hl 0 rfl) (lv_at hl 3 rfl) 2 (by omega) hL (by decide) dl_213 dl_214 dl_215 dl_216 dl_217 ?_
  refine la_arg hx hb hX hbl hS (lv_at hl 0 rfl) (lv_at hl 3 rfl) 3 (by omega) hL (by decide) dl_218 dl_219 dl_220 dl_221 dl_222 ?_
  refine la_bool hx hb dl_223 dl_226 dl_227 dl_230 ?_
  refine lw_c2 (out := (ms_place τ (xs (i + 1)) (xs (i + 2)) (if xs (i + 3) = 0 then 0 else 1))) (va_runV (As := [.int (xs (i + 1)), .int (xs (i + 2)), .int (if xs (i + 3) = 0 then 0 else 1)]) (rest := [.int (cs_place σ (xs (i + 1)) (xs (i + 2)) (if xs (i + 3) = 0 then 0 else 1)).1]) ⟨hx, hb, hml, hown, hts⟩ (cm_place l Y hIy τ (xs (i + 1)) (xs (i + 2)) (if xs (i + 3) = 0 then 0 else 1) (lx_b _)) (cwV 3 hts (tb_V m_475 m_472 m_473 m_474 m_31) rfl rfl rfl (by decide +kernel) ⟨Nat.le_of_ble_eq_true rfl, Nat.le_of_ble_eq_true rfl⟩) (fw_preV (X := Y) hKy hnb hWy (0, 0, 0) mv0 rfl rfl [.int (xs (i + 1)), .int (xs (i + 2)), .int (if xs (i + 3) = 0 then 0 else 1)]) rfl rfl hl.1 rfl (lv_room (Nat.le_of_ble_eq_true rfl)) dl_231 ⟨Nat.le_of_ble_eq_true rfl, Nat.le_of_ble_eq_true rfl⟩) hI hWx hS (fun H locs hWx hWy hS => ?_)
  refine lv_icmp_eq (tgt := 634) hx hb dl_234 (by decide) (fun _ => ?_) (fun c1 => ?_)
  · exact kk _ _ _ _ (si_place h (xs (i + 1)) (xs (i + 2)) (if xs (i + 3) = 0 then 0 else 1) (lx_b _)).2 hWx hWy hS
  · exact absurd (si_place h (xs (i + 1)) (xs (i + 2)) (if xs (i + 3) = 0 then 0 else 1) (lx_b _)).1 c1
set_option maxHeartbeats 4000000 in
set_option maxRecDepth 100000 in
theorem lc_clock (hL : L ≤ 2048) (C0 : lw_At p s m meth c b L xs) (hI : lw_I X Y s) (h : re_all n σ τ) (hn : n + 1 ≤ 512) (hi : i + 4 ≤ L) (hWx : fw_W fw_cl csh cV X σ H) (hWy : fw_W fw_cl msh mV Y τ H) (hS : va_S (fun q => s.heap.size ≤ q) s.heap H locs) (hl : lv_has ls 4 [(0, .ref b), (1, .ref (X.2.2 (0, 0, 0))), (2, .ref (Y.2.2 (0, 0, 0))), (3, .int (nI i))])
    (kk : ∀ (σ1 τ1 : fw_S) (H1 : Heap) (locs1 : List Loc), re_all (n + 1) σ1 τ1 → fw_W fw_cl csh cV X σ1 H1 → fw_W fw_cl msh mV Y τ1 H1 → va_S (fun q => s.heap.size ≤ q) s.heap H1 locs1 → W p l e room_1 s m #[Value.ref b] below meth c H1 locs1 105 13082 (lw_Z below #[Value.ref b] s) (F0 m 634 ls [])) : W p l e room_1 s m #[Value.ref b] below meth c H locs 105 13082 (lw_Z below #[Value.ref b] s) (F0 m 239 ls []) := by
  obtain ⟨hx, hb, hr, hml, hown, hts0, hX, hbl, hlocks, hgv⟩ := C0
  obtain ⟨hIx, hIy, hKx, hKy, hnb, hAx, hAy, hXY, tb, hz, hT⟩ := id hI
  have hts := lw_ts hts0
  refine lv_aload_n hx hb dl_239 rfl (lv_at hl 1 rfl) ?_
  refine la_arg hx hb hX hbl hS (lv_at hl 0 rfl) (lv_at hl 3 rfl) 1 (by omega) hL (by decide) dl_240 dl_241 dl_242 dl_243 dl_244 ?_
  refine lw_c1 (τ := τ) (out := (cs_clock σ (xs (i + 1)))) (va_runV (As := [.int (xs (i + 1))]) (rest := []) ⟨hx, hb, hml, hown, hts⟩ (c_clock l X hIx σ (xs (i + 1))) (cwV 1 hts (tb_V m_198 m_195 m_196 m_197 m_25) rfl rfl rfl (by decide +kernel) ⟨Nat.le_of_ble_eq_true rfl, Nat.le_of_ble_eq_true rfl⟩) (fw_preV (X := X) hKx hnb hWx (0, 0, 0) cv0 rfl rfl [.int (xs (i + 1))]) rfl rfl hl.1 rfl (lv_room (Nat.le_of_ble_eq_true rfl)) dl_245 ⟨Nat.le_of_ble_eq_true rfl, Nat.le_of_ble_eq_true rfl⟩) hI hWy hS (fun H locs hWx hWy hS => ?_)
  refine lv_aload_n hx hb dl_248 rfl (lv_at hl 2 rfl) ?_
  refine la_arg hx hb hX hbl hS (lv_at hl 0 rfl) (lv_at hl 3 rfl) 1 (by omega) hL (by decide) dl_249 dl_250 dl_251 dl_252 dl_253 ?_
  refine lw_c2 (out := (ms_clock τ (xs (i + 1)))) (va_runV (As := [.int (xs (i + 1))]) (rest := [.int (cs_clock σ (xs (i + 1))).1]) ⟨hx, hb, hml, hown, hts⟩ (cm_clock l Y hIy τ (xs (i + 1))) (cwV 1 hts (tb_V m_479 m_476 m_477 m_478 m_31) rfl rfl rfl (by decide +kernel) ⟨Nat.le_of_ble_eq_true rfl, Nat.le_of_ble_eq_true rfl⟩) (fw_preV (X := Y) hKy hnb hWy (0, 0, 0) mv0 rfl rfl [.int (xs (i + 1))]) rfl rfl hl.1 rfl (lv_room (Nat.le_of_ble_eq_true rfl)) dl_254 ⟨Nat.le_of_ble_eq_true rfl, Nat.le_of_ble_eq_true rfl⟩) hI hWx hS (fun H locs hWx hWy hS => ?_)
  refine lv_icmp_eq (tgt := 634) hx hb dl_257 (by decide) (fun _ => ?_) (fun c1 => ?_)
  · exact kk _ _ _ _ (si_clock h (xs (i + 1))).2 hWx hWy hS
  · exact absurd (si_clock h (xs (i + 1))).1 c1
set_option maxHeartbeats 4000000 in
set_option maxRecDepth 100000 in
theorem lc_tap (hL : L ≤ 2048) (C0 : lw_At p s m meth c b L xs) (hI : lw_I X Y s) (h : re_all n σ τ) (hn : n + 1 ≤ 512) (hi : i + 4 ≤ L) (hWx : fw_W fw_cl csh cV X σ H) (hWy : fw_W fw_cl msh mV Y τ H) (hS : va_S (fun q => s.heap.size ≤ q) s.heap H locs) (hl : lv_has ls 4 [(0, .ref b), (1, .ref (X.2.2 (0, 0, 0))), (2, .ref (Y.2.2 (0, 0, 0))), (3, .int (nI i))])
    (kk : ∀ (σ1 τ1 : fw_S) (H1 : Heap) (locs1 : List Loc), re_all (n + 1) σ1 τ1 → fw_W fw_cl csh cV X σ1 H1 → fw_W fw_cl msh mV Y τ1 H1 → va_S (fun q => s.heap.size ≤ q) s.heap H1 locs1 → W p l e room_1 s m #[Value.ref b] below meth c H1 locs1 105 13082 (lw_Z below #[Value.ref b] s) (F0 m 634 ls [])) : W p l e room_1 s m #[Value.ref b] below meth c H locs 105 13082 (lw_Z below #[Value.ref b] s) (F0 m 262 ls []) := by
  obtain ⟨hx, hb, hr, hml, hown, hts0, hX, hbl, hlocks, hgv⟩ := C0
  obtain ⟨hIx, hIy, hKx, hKy, hnb, hAx, hAy, hXY, tb, hz, hT⟩ := id hI
  have hts := lw_ts hts0
  refine lv_aload_n hx hb dl_262 rfl (lv_at hl 1 rfl) ?_
  refine la_arg hx hb hX hbl hS (lv_at hl 0 rfl) (lv_at hl 3 rfl) 1 (by omega) hL (by decide) dl_263 dl_264 dl_265 dl_266 dl_267 ?_
  refine la_arg hx hb hX hbl hS (lv_at hl 0 rfl) (lv_at hl 3 rfl) 2 (by omega) hL (by decide) dl_268 dl_269 dl_270 dl_271 dl_272 ?_
  refine la_arg hx hb hX hbl hS (lv_at hl 0 rfl) (lv_at hl 3 rfl) 3 (by omega) hL (by decide) dl_273 dl_274 dl_275 dl_276 dl_277 ?_
  refine lw_c1 (τ := τ) (out := (cs_tap σ (xs (i + 1)) (xs (i + 2)) (xs (i + 3)))) (va_runV (As := [.int (xs (i + 1)), .int (xs (i + 2)), .int (xs (i + 3))]) (rest := []) ⟨hx, hb, hml, hown, hts⟩ (c_tap l X hIx σ (xs (i + 1)) (xs (i + 2)) (xs (i + 3)) (lx_G h) (lx_0 h)) (cwV 3 hts (tb_V m_202 m_199 m_200 m_201 m_25) rfl rfl rfl (by decide +kernel) ⟨Nat.le_of_ble_eq_true rfl, Nat.le_of_ble_eq_true rfl⟩) (fw_preV (X := X) hKx hnb hWx (0, 0, 0) cv0 rfl rfl [.int (xs (i + 1)), .int (xs (i + 2)), .int (xs (i + 3))]) rfl rfl hl.1 rfl (lv_room (Nat.le_of_ble_eq_true rfl)) dl_278 ⟨Nat.le_of_ble_eq_true rfl, Nat.le_of_ble_eq_true rfl⟩) hI hWy hS (fun H locs hWx hWy hS => ?_)
  refine lv_aload_n hx hb dl_281 rfl (lv_at hl 2 rfl) ?_
  refine la_arg hx hb hX hbl hS (lv_at hl 0 rfl) (lv_at hl 3 rfl) 1 (by omega) hL (by decide) dl_282 dl_283 dl_284 dl_285 dl_286 ?_
  refine la_arg hx hb hX hbl hS (lv_at hl 0 rfl) (lv_at hl 3 rfl) 2 (by omega) hL (by decide) dl_287 dl_288 dl_289 dl_290 dl_291 ?_
  refine la_arg hx hb hX hbl hS (lv_at hl 0 rfl) (lv_at hl 3 rfl) 3 (by omega) hL (by decide) dl_292 dl_293 dl_294 dl_295 dl_296 ?_
  refine lw_c2 (out := (ms_tap τ (xs (i + 1)) (xs (i + 2)) (xs (i + 3)))) (va_runV (As := [.int (xs (i + 1)), .int (xs (i + 2)), .int (xs (i + 3))]) (rest := [.int (cs_tap σ (xs (i + 1)) (xs (i + 2)) (xs (i + 3))).1]) ⟨hx, hb, hml, hown, hts⟩ (cm_tap l Y hIy τ (xs (i + 1)) (xs (i + 2)) (xs (i + 3)) (lx_lg h) (lx_zn h) (lx_ww h)) (cwV 3 hts (tb_V m_483 m_480 m_481 m_482 m_31) rfl rfl rfl (by decide +kernel) ⟨Nat.le_of_ble_eq_true rfl, Nat.le_of_ble_eq_true rfl⟩) (fw_preV (X := Y) hKy hnb hWy (0, 0, 0) mv0 rfl rfl [.int (xs (i + 1)), .int (xs (i + 2)), .int (xs (i + 3))]) rfl rfl hl.1 rfl (lv_room (Nat.le_of_ble_eq_true rfl)) dl_297 ⟨Nat.le_of_ble_eq_true rfl, Nat.le_of_ble_eq_true rfl⟩) hI hWx hS (fun H locs hWx hWy hS => ?_)
  refine lv_icmp_eq (tgt := 634) hx hb dl_300 (by decide) (fun _ => ?_) (fun c1 => ?_)
  · exact kk _ _ _ _ (si_tap h hn (xs (i + 1)) (xs (i + 2)) (xs (i + 3))).2 hWx hWy hS
  · exact absurd (si_tap h hn (xs (i + 1)) (xs (i + 2)) (xs (i + 3))).1 c1
set_option maxHeartbeats 4000000 in
set_option maxRecDepth 100000 in
theorem lc_topUp (hL : L ≤ 2048) (C0 : lw_At p s m meth c b L xs) (hI : lw_I X Y s) (h : re_all n σ τ) (hn : n + 1 ≤ 512) (hi : i + 4 ≤ L) (hWx : fw_W fw_cl csh cV X σ H) (hWy : fw_W fw_cl msh mV Y τ H) (hS : va_S (fun q => s.heap.size ≤ q) s.heap H locs) (hl : lv_has ls 4 [(0, .ref b), (1, .ref (X.2.2 (0, 0, 0))), (2, .ref (Y.2.2 (0, 0, 0))), (3, .int (nI i))])
    (kk : ∀ (σ1 τ1 : fw_S) (H1 : Heap) (locs1 : List Loc), re_all (n + 1) σ1 τ1 → fw_W fw_cl csh cV X σ1 H1 → fw_W fw_cl msh mV Y τ1 H1 → va_S (fun q => s.heap.size ≤ q) s.heap H1 locs1 → W p l e room_1 s m #[Value.ref b] below meth c H1 locs1 105 13082 (lw_Z below #[Value.ref b] s) (F0 m 634 ls [])) : W p l e room_1 s m #[Value.ref b] below meth c H locs 105 13082 (lw_Z below #[Value.ref b] s) (F0 m 305 ls []) := by
  obtain ⟨hx, hb, hr, hml, hown, hts0, hX, hbl, hlocks, hgv⟩ := C0
  obtain ⟨hIx, hIy, hKx, hKy, hnb, hAx, hAy, hXY, tb, hz, hT⟩ := id hI
  have hts := lw_ts hts0
  refine lv_aload_n hx hb dl_305 rfl (lv_at hl 1 rfl) ?_
  refine la_arg hx hb hX hbl hS (lv_at hl 0 rfl) (lv_at hl 3 rfl) 1 (by omega) hL (by decide) dl_306 dl_307 dl_308 dl_309 dl_310 ?_
  refine la_arg hx hb hX hbl hS (lv_at hl 0 rfl) (lv_at hl 3 rfl) 2 (by omega) hL (by decide) dl_311 dl_312 dl_313 dl_314 dl_315 ?_
  refine lw_c1 (τ := τ) (out := (cs_topUp σ (xs (i + 1)) (xs (i + 2)))) (va_runV (As := [.int (xs (i + 1)), .int (xs (i + 2))]) (rest := []) ⟨hx, hb, hml, hown, hts⟩ (c_topUp l X hIx σ (xs (i + 1)) (xs (i + 2))) (cwV 2 hts (tb_V m_297 m_294 m_295 m_296 m_25) rfl rfl rfl (by decide +kernel) ⟨Nat.le_of_ble_eq_true rfl, Nat.le_of_ble_eq_true rfl⟩) (fw_preV (X := X) hKx hnb hWx (0, 0, 0) cv0 rfl rfl [.int (xs (i + 1)), .int (xs (i + 2))]) rfl rfl hl.1 rfl (lv_room (Nat.le_of_ble_eq_true rfl)) dl_316 ⟨Nat.le_of_ble_eq_true rfl, Nat.le_of_ble_eq_true rfl⟩) hI hWy hS (fun H locs hWx hWy hS => ?_)
  refine lv_aload_n hx hb dl_319 rfl (lv_at hl 2 rfl) ?_
  refine la_arg hx hb hX hbl hS (lv_at hl 0 rfl) (lv_at hl 3 rfl) 1 (by omega) hL (by decide) dl_320 dl_321 dl_322 dl_323 dl_324 ?_
  refine la_arg hx hb hX hbl hS (lv_at hl 0 rfl) (lv_at hl 3 rfl) 2 (by omega) hL (by decide) dl_325 dl_326 dl_327 dl_328 dl_329 ?_
  refine lw_c2 (out := (ms_topUp τ (xs (i + 1)) (xs (i + 2)))) (va_runV (As := [.int (xs (i + 1)), .int (xs (i + 2))]) (rest := [.int (cs_topUp σ (xs (i + 1)) (xs (i + 2))).1]) ⟨hx, hb, hml, hown, hts⟩ (cm_topUp l Y hIy τ (xs (i + 1)) (xs (i + 2)) (lx_ct h (by omega))) (cwV 2 hts (tb_V m_527 m_524 m_525 m_526 m_31) rfl rfl rfl (by decide +kernel) ⟨Nat.le_of_ble_eq_true rfl, Nat.le_of_ble_eq_true rfl⟩) (fw_preV (X := Y) hKy hnb hWy (0, 0, 0) mv0 rfl rfl [.int (xs (i + 1)), .int (xs (i + 2))]) rfl rfl hl.1 rfl (lv_room (Nat.le_of_ble_eq_true rfl)) dl_330 ⟨Nat.le_of_ble_eq_true rfl, Nat.le_of_ble_eq_true rfl⟩) hI hWx hS (fun H locs hWx hWy hS => ?_)
  refine lv_icmp_eq (tgt := 634) hx hb dl_333 (by decide) (fun _ => ?_) (fun c1 => ?_)
  · exact kk _ _ _ _ (si_topUp h hn (xs (i + 1)) (xs (i + 2))).2 hWx hWy hS
  · exact absurd (si_topUp h hn (xs (i + 1)) (xs (i + 2))).1 c1
set_option maxHeartbeats 4000000 in
set_option maxRecDepth 100000 in
theorem lc_upload (hL : L ≤ 2048) (C0 : lw_At p s m meth c b L xs) (hI : lw_I X Y s) (h : re_all n σ τ) (hn : n + 1 ≤ 512) (hi : i + 4 ≤ L) (hWx : fw_W fw_cl csh cV X σ H) (hWy : fw_W fw_cl msh mV Y τ H) (hS : va_S (fun q => s.heap.size ≤ q) s.heap H locs) (hl : lv_has ls 4 [(0, .ref b), (1, .ref (X.2.2 (0, 0, 0))), (2, .ref (Y.2.2 (0, 0, 0))), (3, .int (nI i))])
    (kk : ∀ (σ1 τ1 : fw_S) (H1 : Heap) (locs1 : List Loc), re_all (n + 1) σ1 τ1 → fw_W fw_cl csh cV X σ1 H1 → fw_W fw_cl msh mV Y τ1 H1 → va_S (fun q => s.heap.size ≤ q) s.heap H1 locs1 → W p l e room_1 s m #[Value.ref b] below meth c H1 locs1 105 13082 (lw_Z below #[Value.ref b] s) (F0 m 634 ls [])) : W p l e room_1 s m #[Value.ref b] below meth c H locs 105 13082 (lw_Z below #[Value.ref b] s) (F0 m 338 ls []) := by
  obtain ⟨hx, hb, hr, hml, hown, hts0, hX, hbl, hlocks, hgv⟩ := C0
  obtain ⟨hIx, hIy, hKx, hKy, hnb, hAx, hAy, hXY, tb, hz, hT⟩ := id hI
  have hts := lw_ts hts0
  refine lv_aload_n hx hb dl_338 rfl (lv_at hl 1 rfl) ?_
  refine la_arg hx hb hX hbl hS (lv_at hl 0 rfl) (lv_at hl 3 rfl) 1 (by omega) hL (by decide) dl_339 dl_340 dl_341 dl_342 dl_343 ?_
  refine la_arg hx hb hX hbl hS (lv_at hl 0 rfl) (lv_at hl 3 rfl) 2 (by omega) hL (by decide) dl_344 dl_345 dl_346 dl_347 dl_348 ?_
  refine la_bool hx hb dl_349 dl_352 dl_353 dl_356 ?_
  refine lw_c1 (τ := τ) (out := (cs_upload σ (xs (i + 1)) (if xs (i + 2) = 0 then 0 else 1))) (va_runV (As := [.int (xs (i + 1)), .int (if xs (i + 2) = 0 then 0 else 1)]) (rest := []) ⟨hx, hb, hml, hown, hts⟩ (c_upload l X hIx σ (xs (i + 1)) (if xs (i + 2) = 0 then 0 else 1) (lx_8 h)) (cwV 2 hts (tb_V m_314 m_311 m_312 m_313 m_25) rfl rfl rfl (by decide +kernel) ⟨Nat.le_of_ble_eq_true rfl, Nat.le_of_ble_eq_true rfl⟩) (fw_preV (X := X) hKx hnb hWx (0, 0, 0) cv0 rfl rfl [.int (xs (i + 1)), .int (if xs (i + 2) = 0 then 0 else 1)]) rfl rfl hl.1 rfl (lv_room (Nat.le_of_ble_eq_true rfl)) dl_357 ⟨Nat.le_of_ble_eq_true rfl, Nat.le_of_ble_eq_true rfl⟩) hI hWy hS (fun H locs hWx hWy hS => ?_)
  refine lv_aload_n hx hb dl_360 rfl (lv_at hl 2 rfl) ?_
  refine la_arg hx hb hX hbl hS (lv_at hl 0 rfl) (lv_at hl 3 rfl) 1 (by omega) hL (by decide) dl_361 dl_362 dl_363 dl_364 dl_365 ?_
  refine la_arg hx hb hX hbl hS (lv_at hl 0 rfl) (lv_at hl 3 rfl) 2 (by omega) hL (by decide) dl_366 dl_367 dl_368 dl_369 dl_370 ?_
  refine la_bool hx hb dl_371 dl_374 dl_375 dl_378 ?_
  refine lw_c2 (out := (ms_upload τ (xs (i + 1)) (if xs (i + 2) = 0 then 0 else 1))) (va_runV (As := [.int (xs (i + 1)), .int (if xs (i + 2) = 0 then 0 else 1)]) (rest := [.int (cs_upload σ (xs (i + 1)) (if xs (i + 2) = 0 then 0 else 1)).1]) ⟨hx, hb, hml, hown, hts⟩ (cm_upload l Y hIy τ (xs (i + 1)) (if xs (i + 2) = 0 then 0 else 1) (lx_lg h) (lx_lo h) (lx_dn h)) (cwV 2 hts (tb_V m_535 m_532 m_533 m_534 m_31) rfl rfl rfl (by decide +kernel) ⟨Nat.le_of_ble_eq_true rfl, Nat.le_of_ble_eq_true rfl⟩) (fw_preV (X := Y) hKy hnb hWy (0, 0, 0) mv0 rfl rfl [.int (xs (i + 1)), .int (if xs (i + 2) = 0 then 0 else 1)]) rfl rfl hl.1 rfl (lv_room (Nat.le_of_ble_eq_true rfl)) dl_379 ⟨Nat.le_of_ble_eq_true rfl, Nat.le_of_ble_eq_true rfl⟩) hI hWx hS (fun H locs hWx hWy hS => ?_)
  refine lv_icmp_eq (tgt := 634) hx hb dl_382 (by decide) (fun _ => ?_) (fun c1 => ?_)
  · exact kk _ _ _ _ (si_upload h (xs (i + 1)) (if xs (i + 2) = 0 then 0 else 1)).2 hWx hWy hS
  · exact absurd (si_upload h (xs (i + 1)) (if xs (i + 2) = 0 then 0 else 1)).1 c1
end LAW

section LAW
variable {p : Program} {l : Launch} {e : Env} {s : State} {m : MethodId} {below : List Frame} {meth : Method} {c : Code} {b L : Nat} {xs : Nat → Int32} {X Y : fw_X} {σ τ : fw_S} {H : Heap} {locs : List Loc} {ls : Array Slot} {n i pc : Nat}
theorem lw_sub {L i : Nat} (hL : L ≤ 2048) (hi : i ≤ 4096) : (nI L - 4 < nI i) ↔ L < i + 4 := by
  rcases Nat.lt_or_ge L 4 with h | h
  · have h' : L = 0 ∨ L = 1 ∨ L = 2 ∨ L = 3 := by omega
    have e : (nI i).toInt = (i : Int) := nI_toInt (by omega)
    rw [Int32.lt_iff_toInt_lt, e]
    rcases h' with rfl | rfl | rfl | rfl
    · rw [show (nI 0 - 4).toInt = -4 by decide]; omega
    · rw [show (nI 1 - 4).toInt = -3 by decide]; omega
    · rw [show (nI 2 - 4).toInt = -2 by decide]; omega
    · rw [show (nI 3 - 4).toInt = -1 by decide]; omega
  · obtain ⟨k, rfl⟩ : ∃ k, L = k + 4 := ⟨L - 4, by omega⟩
    have e : nI (k + 4) - 4 = nI k := by
      have e4 : (4 : Int32) = nI 4 := by decide
      rw [e4, ← nI_add, Int32.add_sub_cancel]
    rw [e, nI_ltI (by omega) (by omega)]
    omega
set_option maxHeartbeats 4000000 in
set_option maxRecDepth 100000 in
theorem lw_loop (hL : L ≤ 2048) (C0 : lw_At p s m meth c b L xs) (hI : lw_I X Y s) : ∀ (d n : Nat) (σ τ : fw_S) (H : Heap) (locs : List Loc) (ls : Array Slot), n ≤ 512 → 513 ≤ n + d → re_all n σ τ → fw_W fw_cl csh cV X σ H → fw_W fw_cl msh mV Y τ H → va_S (fun q => s.heap.size ≤ q) s.heap H locs → lv_has ls 4 [(0, .ref b), (1, .ref (X.2.2 (0, 0, 0))), (2, .ref (Y.2.2 (0, 0, 0))), (3, .int (nI (4 * n)))] → W p l e room_1 s m #[Value.ref b] below meth c H locs 105 13082 (lw_Z below #[Value.ref b] s) (F0 m 18 ls []) := by
  intro d
  induction d with
  | zero => intro n σ τ H locs ls h1 h2; omega
  | succ d ih =>
    intro n σ τ H locs ls h1 h2 h hWx hWy hS hl
    obtain ⟨hx, hb, hr, hml, hown, hts0, hX, hbl, hlocks, hgv⟩ := id C0
    refine lv_iload_n hx hb dl_18 rfl (lv_at hl 3 rfl) ?_
    refine lv_aload_n hx hb dl_19 rfl (lv_at hl 0 rfl) ?_
    refine va_slen (A := fun q => s.heap.size ≤ q) hx hb hX hbl (Nat.not_le.mpr hbl) hS dl_20 ?_
    refine lv_iconst (v := 4) hx hb dl_21 (by decide) ?_
    refine lv_isub hx hb dl_22 ?_
    refine lv_icmp_gt (tgt := 640) hx hb dl_23 (by decide) (fun c0 => ?_) (fun c0 => ?_)
    · refine lv_iconst (v := 1) hx hb dl_640 (by decide) ?_
      refine va_forget (fun q hq => hS.2.2 q hq) ?_
      refine W.widen (k := 600000) (n := 7302250) (Nat.le_of_ble_eq_true rfl) (Nat.le_of_ble_eq_true rfl) ?_
      exact lw_ret hx hb hr hlocks dl_641
    · have hi : 4 * n + 4 ≤ L := by
        have := mt (lw_sub hL (i := 4 * n) (by omega)).mpr c0
        omega
      have next : ∀ (σ1 τ1 : fw_S) (H1 : Heap) (locs1 : List Loc), re_all (n + 1) σ1 τ1 → fw_W fw_cl csh cV X σ1 H1 → fw_W fw_cl msh mV Y τ1 H1 → va_S (fun q => s.heap.size ≤ q) s.heap H1 locs1 → W p l e room_1 s m #[Value.ref b] below meth c H1 locs1 105 13082 (lw_Z below #[Value.ref b] s) (F0 m 634 ls []) := by
        intro σ1 τ1 H1 locs1 g1 g2 g3 g4
        refine lv_iinc (v := nI (4 * (n + 1))) (lv' := [(3, .int (nI (4 * (n + 1)))), (0, .ref b), (1, .ref (X.2.2 (0, 0, 0))), (2, .ref (Y.2.2 (0, 0, 0)))]) hx hb dl_634 hl (k := 3) rfl (by rw [show Int32.ofInt 4 = nI 4 by decide, nI_add]; rfl) (by decide) rfl (fun ls hl => ?_)
        refine lv_goto (tgt := 18) hx hb dl_637 (by decide) ?_
        exact ih (n + 1) σ1 τ1 H1 locs1 ls (by omega) (by omega) g1 g2 g3 g4 (lv_sub hl [1, 2, 3, 0] rfl)
      refine lv_aload_n hx hb dl_26 rfl (lv_at hl 0 rfl) ?_
      refine lv_iload_n hx hb dl_27 rfl (lv_at hl 3 rfl) ?_
      refine va_sld (A := fun q => s.heap.size ≤ q) hx hb hX hbl (Nat.not_le.mpr hbl) hS (vp_in_nI (show 4 * n < L by omega) (by omega)) dl_28 ?_
      refine lv_bipush (v := 15) hx hb dl_29 (by decide) ?_
      refine lv_iand hx hb dl_31 ?_
      refine lv_topi (fun x ex => ?_)
      by_cases c1 : x = 0
      · refine lv_tableIn (off := 72) (tgt := 104) hx hb dl_32 (by rw [c1]; decide) (by rw [c1]; decide) (by rw [c1]; decide) (by decide) ?_
        exact lc_fare hL C0 hI h (by omega) hi hWx hWy hS hl next
      by_cases c2 : x = 1
      · refine lv_tableIn (off := 115) (tgt := 147) hx hb dl_32 (by rw [c2]; decide) (by rw [c2]; decide) (by rw [c2]; decide) (by decide) ?_
        exact lc_set hL C0 hI h (by omega) hi hWx hWy hS hl next
      by_cases c3 : x = 2
      · refine lv_tableIn (off := 148) (tgt := 180) hx hb dl_32 (by rw [c3]; decide) (by rw [c3]; decide) (by rw [c3]; decide) (by decide) ?_
        exact lc_place hL C0 hI h (by omega) hi hWx hWy hS hl next
      by_cases c4 : x = 3
      · refine lv_tableIn (off := 207) (tgt := 239) hx hb dl_32 (by rw [c4]; decide) (by rw [c4]; decide) (by rw [c4]; decide) (by decide) ?_
        exact lc_clock hL C0 hI h (by omega) hi hWx hWy hS hl next
      by_cases c5 : x = 4
      · refine lv_tableIn (off := 230) (tgt := 262) hx hb dl_32 (by rw [c5]; decide) (by rw [c5]; decide) (by rw [c5]; decide) (by decide) ?_
        exact lc_tap hL C0 hI h (by omega) hi hWx hWy hS hl next
      by_cases c6 : x = 5
      · refine lv_tableIn (off := 273) (tgt := 305) hx hb dl_32 (by rw [c6]; decide) (by rw [c6]; decide) (by rw [c6]; decide) (by decide) ?_
        exact lc_topUp hL C0 hI h (by omega) hi hWx hWy hS hl next
      by_cases c7 : x = 6
      · refine lv_tableIn (off := 306) (tgt := 338) hx hb dl_32 (by rw [c7]; decide) (by rw [c7]; decide) (by rw [c7]; decide) (by decide) ?_
        exact lc_upload hL C0 hI h (by omega) hi hWx hWy hS hl next
      by_cases c8 : x = 7
      · refine lv_tableIn (off := 355) (tgt := 387) hx hb dl_32 (by rw [c8]; decide) (by rw [c8]; decide) (by rw [c8]; decide) (by decide) ?_
        exact lc_deny hL C0 hI h (by omega) hi hWx hWy hS hl next
      by_cases c9 : x = 8
      · refine lv_tableIn (off := 404) (tgt := 436) hx hb dl_32 (by rw [c9]; decide) (by rw [c9]; decide) (by rw [c9]; decide) (by decide) ?_
        exact lc_word hL C0 hI h (by omega) hi hWx hWy hS hl next
      by_cases c10 : x = 9
      · refine lv_tableIn (off := 447) (tgt := 479) hx hb dl_32 (by rw [c10]; decide) (by rw [c10]; decide) (by rw [c10]; decide) (by decide) ?_
        exact lc_card hL C0 hI h (by omega) hi hWx hWy hS hl next
      by_cases c11 : x = 10
      · refine lv_tableIn (off := 480) (tgt := 512) hx hb dl_32 (by rw [c11]; decide) (by rw [c11]; decide) (by rw [c11]; decide) (by decide) ?_
        exact lc_logged hL C0 hI h (by omega) hi hWx hWy hS hl next
      by_cases c12 : x = 11
      · refine lv_tableIn (off := 523) (tgt := 555) hx hb dl_32 (by rw [c12]; decide) (by rw [c12]; decide) (by rw [c12]; decide) (by decide) ?_
        exact lc_office hL C0 hI h (by omega) hi hWx hWy hS hl next
      by_cases c13 : x = 12
      · refine lv_tableIn (off := 556) (tgt := 588) hx hb dl_32 (by rw [c13]; decide) (by rw [c13]; decide) (by rw [c13]; decide) (by decide) ?_
        exact lc_income hL C0 hI h (by omega) hi hWx hWy hS hl next
      by_cases c14 : x = 13
      · refine lv_tableIn (off := 579) (tgt := 611) hx hb dl_32 (by rw [c14]; decide) (by rw [c14]; decide) (by rw [c14]; decide) (by decide) ?_
        exact lc_count hL C0 hI h (by omega) hi hWx hWy hS hl next
      have t0 : ¬ x.toInt = 0 := lv_neT c1 (by decide)
      have t1 : ¬ x.toInt = 1 := lv_neT c2 (by decide)
      have t2 : ¬ x.toInt = 2 := lv_neT c3 (by decide)
      have t3 : ¬ x.toInt = 3 := lv_neT c4 (by decide)
      have t4 : ¬ x.toInt = 4 := lv_neT c5 (by decide)
      have t5 : ¬ x.toInt = 5 := lv_neT c6 (by decide)
      have t6 : ¬ x.toInt = 6 := lv_neT c7 (by decide)
      have t7 : ¬ x.toInt = 7 := lv_neT c8 (by decide)
      have t8 : ¬ x.toInt = 8 := lv_neT c9 (by decide)
      have t9 : ¬ x.toInt = 9 := lv_neT c10 (by decide)
      have t10 : ¬ x.toInt = 10 := lv_neT c11 (by decide)
      have t11 : ¬ x.toInt = 11 := lv_neT c12 (by decide)
      have t12 : ¬ x.toInt = 12 := lv_neT c13 (by decide)
      have t13 : ¬ x.toInt = 13 := lv_neT c14 (by decide)
      refine lv_tableOut (tgt := 634) hx hb dl_32 (by omega) (by decide) ?_
      exact next σ τ H locs (re_up h) hWx hWy hS
end LAW

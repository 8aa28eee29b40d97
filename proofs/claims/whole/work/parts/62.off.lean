/-! the office: the reference's sums as functions of the kinds; one entry more -/
def os_k (K : Nat → Int32) : Nat → Int32
  | 0 => 0
  | m + 1 => if K m ≤ 0 then os_k K m else os_k K m + 1
def os_g (K : Nat → Int32) : Nat → Nat
  | 0 => 0
  | m + 1 => if K m ≤ 0 then os_g K m else m
def os_s (K A : Nat → Int32) (w : Int32) : Nat → Int32
  | 0 => 0
  | m + 1 => if K m = w then os_s K A w m + A m else os_s K A w m
section OFF
variable {n : Nat} {σ τ : fw_S}
theorem os_k_lp (τ : fw_S) (cd : Nat) : ∀ m j : Nat, m + j = 521 → j ≤ 520 → ms_known_lp cd τ m j (os_k (fun i => τ (12, 0, 0) (520 * cd + i)) j) = os_k (fun i => τ (12, 0, 0) (520 * cd + i)) 520
  | 0, j, h, h1 => by omega
  | m + 1, j, h, h1 => by
    unfold ms_known_lp
    by_cases c : 520 ≤ j
    · have : j = 520 := by omega
      subst this
      rw [if_pos c]
    · rw [if_neg c]
      have ih := os_k_lp τ cd m (j + 1) (by omega) (by omega)
      by_cases c2 : τ (12, 0, 0) (520 * cd + j) ≤ 0
      · rw [if_pos c2]
        rw [← ih]
        simp only [os_k, if_pos c2]
      · rw [if_neg c2]
        rw [← ih]
        simp only [os_k, if_neg c2]
theorem os_known (τ : fw_S) (cd : Nat) : ms_known τ cd = os_k (fun i => τ (12, 0, 0) (520 * cd + i)) 520 := os_k_lp τ cd 521 0 rfl (by omega)
theorem os_g_lp (τ : fw_S) (cd : Nat) : ∀ m j : Nat, m + j = 521 → j ≤ 520 → ms_greatest_lp cd τ m j (nI (os_g (fun i => τ (12, 0, 0) (520 * cd + i)) j)) = nI (os_g (fun i => τ (12, 0, 0) (520 * cd + i)) 520)
  | 0, j, h, h1 => by omega
  | m + 1, j, h, h1 => by
    unfold ms_greatest_lp
    by_cases c : 520 ≤ j
    · have : j = 520 := by omega
      subst this
      rw [if_pos c]
    · rw [if_neg c]
      have ih := os_g_lp τ cd m (j + 1) (by omega) (by omega)
      by_cases c2 : τ (12, 0, 0) (520 * cd + j) ≤ 0
      · rw [if_pos c2]
        rw [← ih]
        simp only [os_g, if_pos c2]
      · rw [if_neg c2]
        rw [← ih]
        simp only [os_g, if_neg c2]
theorem os_greatest (τ : fw_S) (cd : Nat) : ms_greatest τ cd = nI (os_g (fun i => τ (12, 0, 0) (520 * cd + i)) 520) := os_g_lp τ cd 521 0 rfl (by omega)
theorem os_s_lp (τ : fw_S) (cd : Nat) (w : Int32) : ∀ m j : Nat, m + j = 521 → j ≤ 520 → ms_sum_lp cd w τ m j (os_s (fun i => τ (12, 0, 0) (520 * cd + i)) (fun i => τ (13, 0, 0) (520 * cd + i)) w j) = os_s (fun i => τ (12, 0, 0) (520 * cd + i)) (fun i => τ (13, 0, 0) (520 * cd + i)) w 520
  | 0, j, h, h1 => by omega
  | m + 1, j, h, h1 => by
    unfold ms_sum_lp ms_sum_s1
    by_cases c : 520 ≤ j
    · have : j = 520 := by omega
      subst this
      rw [if_pos c]
    · rw [if_neg c]
      have ih := os_s_lp τ cd w m (j + 1) (by omega) (by omega)
      by_cases c2 : τ (12, 0, 0) (520 * cd + j) = w
      · rw [if_pos c2]
        rw [← ih]
        simp only [os_s, if_pos c2]
      · rw [if_neg c2]
        rw [← ih]
        simp only [os_s, if_neg c2]
theorem os_sum (τ : fw_S) (cd : Nat) (w : Int32) : ms_sum τ cd w = os_s (fun i => τ (12, 0, 0) (520 * cd + i)) (fun i => τ (13, 0, 0) (520 * cd + i)) w 520 := os_s_lp τ cd w 521 0 rfl (by omega)
theorem os_k_cg {K K1 : Nat → Int32} : ∀ m : Nat, (∀ i, i < m → K1 i = K i) → os_k K1 m = os_k K m
  | 0, _ => rfl
  | m + 1, h => by
    unfold os_k
    rw [h m (by omega), os_k_cg m fun i hi => h i (by omega)]
theorem os_g_cg {K K1 : Nat → Int32} : ∀ m : Nat, (∀ i, i < m → K1 i = K i) → os_g K1 m = os_g K m
  | 0, _ => rfl
  | m + 1, h => by
    unfold os_g
    rw [h m (by omega), os_g_cg m fun i hi => h i (by omega)]
theorem os_s_cg {K K1 A A1 : Nat → Int32} {w : Int32} : ∀ m : Nat, (∀ i, i < m → K1 i = K i ∧ A1 i = A i) → os_s K1 A1 w m = os_s K A w m
  | 0, _ => rfl
  | m + 1, h => by
    unfold os_s
    rw [(h m (by omega)).1, (h m (by omega)).2, os_s_cg m fun i hi => h i (by omega)]
theorem os_k_up {K K1 : Nat → Int32} {q : Nat} (h0 : K q = 0) (h1 : ¬ K1 q ≤ 0) (h : ∀ i, i ≠ q → K1 i = K i) : ∀ m : Nat, q < m → os_k K1 m = os_k K m + 1
  | 0, hq => by omega
  | m + 1, hq => by
    unfold os_k
    by_cases e : q = m
    · subst e
      rw [if_neg h1, h0, if_pos (by decide), os_k_cg q fun i hi => h i (by omega)]
    · rw [h m (fun z => e z.symm), os_k_up h0 h1 h m (by omega)]
      by_cases c : K m ≤ 0
      · rw [if_pos c, if_pos c]
      · rw [if_neg c, if_neg c]
theorem os_g_le (K : Nat → Int32) : ∀ m : Nat, os_g K m ≤ m
  | 0 => Nat.le_refl 0
  | m + 1 => by
    unfold os_g
    have := os_g_le K m
    by_cases c : K m ≤ 0
    · rw [if_pos c]; omega
    · rw [if_neg c]; omega
theorem os_g_up {K K1 : Nat → Int32} {q : Nat} (h0 : K q = 0) (h1 : ¬ K1 q ≤ 0) (h : ∀ i, i ≠ q → K1 i = K i) : ∀ m : Nat, q < m → os_g K1 m = max (os_g K m) q
  | 0, hq => by omega
  | m + 1, hq => by
    unfold os_g
    by_cases e : q = m
    · subst e
      have := os_g_le K q
      rw [if_neg h1, h0, if_pos (by decide)]
      omega
    · rw [h m (fun z => e z.symm), os_g_up h0 h1 h m (by omega)]
      by_cases c : K m ≤ 0
      · rw [if_pos c, if_pos c]
      · rw [if_neg c, if_neg c]
        omega
theorem os_s_up {K K1 A A1 : Nat → Int32} {w : Int32} {q : Nat} (h0 : ¬ K q = w) (h1 : K1 q = w) (h : ∀ i, i ≠ q → K1 i = K i ∧ A1 i = A i) : ∀ m : Nat, q < m → os_s K1 A1 w m = os_s K A w m + A1 q
  | 0, hq => by omega
  | m + 1, hq => by
    unfold os_s
    by_cases e : q = m
    · subst e
      rw [if_pos h1, if_neg h0, os_s_cg q fun i hi => h i (by omega)]
    · rw [(h m (fun z => e z.symm)).1, (h m (fun z => e z.symm)).2, os_s_up h0 h1 h m (by omega)]
      by_cases c : K m = w
      · rw [if_pos c, if_pos c, Int32.add_assoc, Int32.add_assoc, Int32.add_comm (A1 q)]
      · rw [if_neg c, if_neg c]
theorem os_s_no {K K1 A A1 : Nat → Int32} {w : Int32} {q : Nat} (h0 : ¬ K q = w) (h1 : ¬ K1 q = w) (h : ∀ i, i ≠ q → K1 i = K i ∧ A1 i = A i) : ∀ m : Nat, os_s K1 A1 w m = os_s K A w m
  | 0 => rfl
  | m + 1 => by
    unfold os_s
    rw [os_s_no h0 h1 h m]
    by_cases e : m = q
    · subst e
      rw [if_neg h0, if_neg h1]
    · rw [(h m e).1, (h m e).2]
/-! an entry at the office, on both sides -/
theorem en_at {k q : Nat} (hq1 : 1 ≤ q) (hq : q ≤ 512) (h0 : σ (15, k, 0) q = 0) (x y : Int32) : cs_enter σ k (nI q) x y = (1, fw_st (fw_st (fw_st (fw_st (fw_st σ (15, k, 0) q 1) (16, k, 0) q x) (17, k, 0) q y) (11, k, 0) 3 (σ (11, k, 0) 3 + 1)) (11, k, 0) 4 (if σ (11, k, 0) 4 < nI q then nI q else σ (11, k, 0) 4)) := by
  unfold cs_enter
  rw [nI_clamp (by omega), if_neg (show ¬ nI q < 1 from Int32.not_lt.mpr (nI_le (a := 1) (b := q) hq1 (by omega))), if_neg (show ¬ 512 < nI q from Int32.not_lt.mpr (nI_le (a := q) (b := 512) hq (by omega))), if_pos h0]
  simp only [cs_enter_s1, cs_enter_s2, cs_enter_s3, cs_enter_s4, cs_enter_s5, nI_clamp (show q < 2 ^ 31 by omega)]
  simp [fw_st_at]
theorem ec_at {k q : Nat} (hq1 : 1 ≤ q) (hq : q ≤ 512) (h0 : σ (15, k, 0) q = 0) (x y : Int32) : cs_enterCharge σ k (nI q) x y = fw_st (fw_st (fw_st (fw_st (fw_st (fw_st σ (15, k, 0) q 1) (16, k, 0) q (y + x)) (17, k, 0) q y) (11, k, 0) 3 (σ (11, k, 0) 3 + 1)) (11, k, 0) 4 (if σ (11, k, 0) 4 < nI q then nI q else σ (11, k, 0) 4)) (11, k, 0) 5 (σ (11, k, 0) 5 + x) := by
  unfold cs_enterCharge
  rw [en_at hq1 hq h0]
  unfold cs_enterCharge_s1 cs_enterCharge_s2
  dsimp only
  rw [if_neg (by decide)]
  simp [fw_st_at]
theorem et_at {k q : Nat} (hq1 : 1 ≤ q) (hq : q ≤ 512) (h0 : σ (15, k, 0) q = 0) (x y : Int32) : cs_enterTopUp σ k (nI q) x y = fw_st (fw_st (fw_st (fw_st (fw_st (fw_st σ (15, k, 0) q 1) (16, k, 0) q (y - x)) (17, k, 0) q y) (11, k, 0) 3 (σ (11, k, 0) 3 + 1)) (11, k, 0) 4 (if σ (11, k, 0) 4 < nI q then nI q else σ (11, k, 0) 4)) (11, k, 0) 6 (σ (11, k, 0) 6 + x) := by
  unfold cs_enterTopUp
  rw [en_at hq1 hq h0]
  unfold cs_enterTopUp_s1 cs_enterTopUp_s2
  dsimp only
  rw [if_neg (by decide)]
  simp [fw_st_at]
/-- the reference's kinds and amounts behind an entry, as a card reads them -/
theorem eo_K {k q : Nat} (hq : q < 520) (w x y : Int32) {c i : Nat} (hi : i < 520) (r : Nat) (hr : r = 12 ∨ r = 13 ∨ r = 14) : ms_enterOffice τ k q w x y (r, 0, 0) (520 * c + i) = if c = k ∧ i = q then (if r = 12 then w else if r = 13 then x else y) else τ (r, 0, 0) (520 * c + i) := by
  have e : (520 * c + i = 520 * k + q) ↔ (c = k ∧ i = q) := by omega
  simp only [ms_enterOffice, ms_enterOffice_s1, ms_enterOffice_s2, ms_enterOffice_s3]
  rcases hr with rfl | rfl | rfl <;> simp [fw_st_at, e]
theorem of_N3 {σ1 : fw_S} (hN3 : re_N3 σ τ) {k q : Nat} (hq : q < 520) (h0 : τ (12, 0, 0) (520 * k + q) = 0) {w x y : Int32} (hw : w = 1 ∨ w = 2)
    (h3 : ∀ c, c < 4 → σ1 (11, c, 0) 3 = if c = k then σ (11, c, 0) 3 + 1 else σ (11, c, 0) 3) (h4 : ∀ c, c < 4 → σ1 (11, c, 0) 4 = if c = k then (if σ (11, c, 0) 4 < nI q then nI q else σ (11, c, 0) 4) else σ (11, c, 0) 4)
    (h5 : ∀ c, c < 4 → σ1 (11, c, 0) 5 = if c = k ∧ w = 1 then σ (11, c, 0) 5 + x else σ (11, c, 0) 5) (h6 : ∀ c, c < 4 → σ1 (11, c, 0) 6 = if c = k ∧ w = 2 then σ (11, c, 0) 6 + x else σ (11, c, 0) 6) : re_N3 σ1 (ms_enterOffice τ k q w x y) := by
  intro c hc
  obtain ⟨a3, a4, a5, a6⟩ := hN3 c hc
  rw [h3 c hc, h4 c hc, h5 c hc, h6 c hc, a3, a4, a5, a6]
  simp only [os_known, os_greatest, os_sum]
  have hw0 : ¬ w ≤ 0 := by rcases hw with rfl | rfl <;> decide
  by_cases e : c = k
  · subst e
    have hK1 : ms_enterOffice τ c q w x y (12, 0, 0) (520 * c + q) = w := by rw [eo_K hq w x y hq 12 (Or.inl rfl), if_pos ⟨rfl, rfl⟩]; rfl
    have hA1 : ms_enterOffice τ c q w x y (13, 0, 0) (520 * c + q) = x := by rw [eo_K hq w x y hq 13 (Or.inr (Or.inl rfl)), if_pos ⟨rfl, rfl⟩]; rfl
    have hoff : ∀ (r i : Nat), r = 12 ∨ r = 13 ∨ r = 14 → i ≠ q → ms_enterOffice τ c q w x y (r, 0, 0) (520 * c + i) = τ (r, 0, 0) (520 * c + i) := fun r i hr hi => by
      have e : ¬ (520 * c + i = 520 * c + q) := by omega
      simp only [ms_enterOffice, ms_enterOffice_s1, ms_enterOffice_s2, ms_enterOffice_s3]
      rcases hr with rfl | rfl | rfl <;> simp [fw_st_at, hi]
    have hgl := os_g_le (fun i => τ (12, 0, 0) (520 * c + i)) 520
    refine ⟨?_, ?_, ?_, ?_⟩
    · rw [if_pos rfl, os_k_up (K := fun i => τ (12, 0, 0) (520 * c + i)) (q := q) h0 (by show ¬ ms_enterOffice τ c q w x y (12, 0, 0) (520 * c + q) ≤ 0; rw [hK1]; exact hw0) (fun i hi => hoff 12 i (Or.inl rfl) hi) 520 hq]
    · rw [if_pos rfl, os_g_up (K := fun i => τ (12, 0, 0) (520 * c + i)) (q := q) h0 (by show ¬ ms_enterOffice τ c q w x y (12, 0, 0) (520 * c + q) ≤ 0; rw [hK1]; exact hw0) (fun i hi => hoff 12 i (Or.inl rfl) hi) 520 hq]
      by_cases g : os_g (fun i => τ (12, 0, 0) (520 * c + i)) 520 < q
      · rw [if_pos (nI_lt g (by omega)), Nat.max_eq_right (by omega)]
      · rw [if_neg (nI_nlt (by omega) (by omega)), Nat.max_eq_left (by omega)]
    · by_cases g : w = 1
      · rw [if_pos ⟨rfl, g⟩, os_s_up (K := fun i => τ (12, 0, 0) (520 * c + i)) (A := fun i => τ (13, 0, 0) (520 * c + i)) (q := q) (by show ¬ τ (12, 0, 0) (520 * c + q) = 1; rw [h0]; decide) (by show ms_enterOffice τ c q w x y (12, 0, 0) (520 * c + q) = 1; rw [hK1, g]) (fun i hi => ⟨hoff 12 i (Or.inl rfl) hi, hoff 13 i (Or.inr (Or.inl rfl)) hi⟩) 520 hq]
        show _ = _ + ms_enterOffice τ c q w x y (13, 0, 0) (520 * c + q)
        rw [hA1]
      · rw [if_neg (fun z => g z.2), os_s_no (K := fun i => τ (12, 0, 0) (520 * c + i)) (A := fun i => τ (13, 0, 0) (520 * c + i)) (q := q) (by show ¬ τ (12, 0, 0) (520 * c + q) = 1; rw [h0]; decide) (by show ¬ ms_enterOffice τ c q w x y (12, 0, 0) (520 * c + q) = 1; rw [hK1]; exact g) (fun i hi => ⟨hoff 12 i (Or.inl rfl) hi, hoff 13 i (Or.inr (Or.inl rfl)) hi⟩) 520]
    · by_cases g : w = 2
      · rw [if_pos ⟨rfl, g⟩, os_s_up (K := fun i => τ (12, 0, 0) (520 * c + i)) (A := fun i => τ (13, 0, 0) (520 * c + i)) (q := q) (by show ¬ τ (12, 0, 0) (520 * c + q) = 2; rw [h0]; decide) (by show ms_enterOffice τ c q w x y (12, 0, 0) (520 * c + q) = 2; rw [hK1, g]) (fun i hi => ⟨hoff 12 i (Or.inl rfl) hi, hoff 13 i (Or.inr (Or.inl rfl)) hi⟩) 520 hq]
        show _ = _ + ms_enterOffice τ c q w x y (13, 0, 0) (520 * c + q)
        rw [hA1]
      · rw [if_neg (fun z => g z.2), os_s_no (K := fun i => τ (12, 0, 0) (520 * c + i)) (A := fun i => τ (13, 0, 0) (520 * c + i)) (q := q) (by show ¬ τ (12, 0, 0) (520 * c + q) = 2; rw [h0]; decide) (by show ¬ ms_enterOffice τ c q w x y (12, 0, 0) (520 * c + q) = 2; rw [hK1]; exact g) (fun i hi => ⟨hoff 12 i (Or.inl rfl) hi, hoff 13 i (Or.inr (Or.inl rfl)) hi⟩) 520]
  · have hoff : ∀ (r i : Nat), r = 12 ∨ r = 13 ∨ r = 14 → i < 520 → ms_enterOffice τ k q w x y (r, 0, 0) (520 * c + i) = τ (r, 0, 0) (520 * c + i) := fun r i hr hi => by
      rw [eo_K hq w x y hi r hr, if_neg (fun z => e z.1)]
    rw [if_neg e, if_neg e, if_neg (fun z => e z.1), if_neg (fun z => e z.1)]
    refine ⟨?_, ?_, ?_, ?_⟩
    · exact (os_k_cg 520 fun i hi => hoff 12 i (Or.inl rfl) hi).symm
    · exact congrArg nI (os_g_cg 520 fun i hi => hoff 12 i (Or.inl rfl) hi).symm
    · exact (os_s_cg 520 fun i hi => ⟨hoff 12 i (Or.inl rfl) hi, hoff 13 i (Or.inr (Or.inl rfl)) hi⟩).symm
    · exact (os_s_cg 520 fun i hi => ⟨hoff 12 i (Or.inl rfl) hi, hoff 13 i (Or.inr (Or.inl rfl)) hi⟩).symm
theorem of_N1 {σ1 : fw_S} (hN1 : re_N1 σ τ) {k q : Nat} (hq : q < 520) {w x y : Int32} (hw : w = 1 ∨ w = 2)
    (h5 : ∀ c j, σ1 (15, c, 0) j = if c = k ∧ j = q then 1 else σ (15, c, 0) j) (h6 : ∀ c j, σ1 (16, c, 0) j = if c = k ∧ j = q then (if w = 1 then y + x else y - x) else σ (16, c, 0) j) (h7 : ∀ c j, σ1 (17, c, 0) j = if c = k ∧ j = q then y else σ (17, c, 0) j) : re_N1 σ1 (ms_enterOffice τ k q w x y) := by
  intro c hc j hj1 hj
  rw [h5, h6, h7, eo_K hq w x y (by omega) 12 (Or.inl rfl), eo_K hq w x y (by omega) 13 (Or.inr (Or.inl rfl)), eo_K hq w x y (by omega) 14 (Or.inr (Or.inr rfl))]
  by_cases e : c = k ∧ j = q
  · simp only [if_pos e]
    rcases hw with rfl | rfl
    · exact Or.inr (Or.inl (by simp))
    · exact Or.inr (Or.inr (by simp))
  · simp only [if_neg e]
    exact hN1 c hc j hj1 hj
/-! lost money -/
theorem lo_end (τ : fw_S) (cd : Nat) : ∀ (m j : Nat) (x y z : Int32), m + j = 522 → j ≤ 520 → (∀ i, j ≤ i → i < 520 → τ (12, 0, 0) (520 * cd + i) = 0) → ms_lost_lp cd τ m j x y z = x
  | 0, j, x, y, z, h, h1, _ => by omega
  | m + 1, j, x, y, z, h, h1, h2 => by
    unfold ms_lost_lp
    by_cases c : 520 ≤ j
    · rw [if_pos c]
    · rw [if_neg c, if_pos (h2 j (Nat.le_refl j) (by omega))]
      exact lo_end τ cd m (j + 1) x y z (by omega) (by omega) fun i hi hi2 => h2 i (by omega) hi2
theorem lo_lp (hN1 : re_N1 σ τ) {k : Nat} (hk : k < 4) (h2 : ∀ i, 513 ≤ i → i < 520 → τ (12, 0, 0) (520 * k + i) = 0) : ∀ (d j : Nat) (x y z : Int32), j + d = 513 → 1 ≤ j → cs_lostMoney_lp k σ (d + 2) (nI j) x y z = ms_lost_lp k τ (d + 9) j x y z
  | 0, j, x, y, z, h, _ => by
    have : j = 513 := by omega
    subst this
    rw [lo_end τ k 9 513 x y z (by omega) (by omega) h2]
    unfold cs_lostMoney_lp
    rw [if_pos (by decide)]
  | d + 1, j, x, y, z, h, hj => by
    unfold cs_lostMoney_lp ms_lost_lp
    rw [if_neg (show ¬ 512 < nI j from Int32.not_lt.mpr (nI_le (a := j) (b := 512) (by omega) (by omega))), if_neg (by omega : ¬ 520 ≤ j), nI_clamp (by omega)]
    have ih := lo_lp hN1 hk h2 d (j + 1)
    rcases hN1 k hk j hj (by omega) with ⟨a, b⟩ | ⟨a, b, c, e⟩ | ⟨a, b, c, e⟩
    · rw [if_pos b, if_pos a, ← nI_succ]
      exact ih x y z (by omega) (by omega)
    · rw [if_neg (show ¬ σ (15, k, 0) j = 0 by rw [b]; decide), if_neg (show ¬ τ (12, 0, 0) (520 * k + j) = 0 by rw [a]; decide), if_pos a]
      unfold cs_lostMoney_s1 cs_lostMoney_s2 cs_lostMoney_s3 ms_lost_s5 ms_lost_s6 ms_lost_s7 ms_lost_s8
      rw [c, e, ← nI_succ, nI_clamp (by omega), e]
      by_cases g : nI j = y + 1
      · rw [if_pos g, if_pos g]; exact ih _ _ _ (by omega) (by omega)
      · rw [if_neg g, if_neg g]; exact ih _ _ _ (by omega) (by omega)
    · rw [if_neg (show ¬ σ (15, k, 0) j = 0 by rw [b]; decide), if_neg (show ¬ τ (12, 0, 0) (520 * k + j) = 0 by rw [a]; decide), if_neg (show ¬ τ (12, 0, 0) (520 * k + j) = 1 by rw [a]; decide)]
      unfold cs_lostMoney_s1 cs_lostMoney_s2 cs_lostMoney_s3 ms_lost_s1 ms_lost_s2 ms_lost_s3 ms_lost_s4
      rw [c, e, ← nI_succ, nI_clamp (by omega), e]
      by_cases g : nI j = y + 1
      · rw [if_pos g, if_pos g]; exact ih _ _ _ (by omega) (by omega)
      · rw [if_neg g, if_neg g]; exact ih _ _ _ (by omega) (by omega)
theorem si_office (h : re_all n σ τ) (hn : n ≤ 512) (a w : Int32) : cs_office σ a w = ms_office τ a w := by
  obtain ⟨-, -, -, -, -, -, -, -, -, -, -, -, hM, hN1, hN2, hN3, -⟩ := h
  unfold cs_office ms_office
  rw [ib_4]
  by_cases c1 : ms_in a 0 3 = 0
  · simp only [if_pos c1]
  have hk := vi_lt (in_vi c1 (n := 4))
  simp only [if_neg c1]
  obtain ⟨a3, a4, a5, a6⟩ := hN3 _ hk
  have hl : cs_lostMoney σ a.toNatClampNeg = ms_lost τ a.toNatClampNeg := lo_lp hN1 hk (fun i hi hi2 => hN2 _ hk i hi2 (Or.inr (by have := (re_c_le hM hn hk).1; omega))) 512 1 0 0 0 rfl (Nat.le_refl 1)
  unfold cs_known cs_greatestCounter cs_missing cs_allCharges cs_allTopUps
  rw [a3, a4, a5, a6, hl]
end OFF

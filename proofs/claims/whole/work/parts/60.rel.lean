/-! THE RELATION of the class's numbers (σ) and the reference's (τ), n calls done -/
def bt (d c : Nat) : Int32 := if d.testBit c then 1 else 0
def re_c (σ : fw_S) (k : Nat) : Nat := (cs_counter σ k).toNatClampNeg
def re_z (σ : fw_S) (v : Nat) : Nat := (σ (12, v, 0) 1).toNatClampNeg
def re_lc (σ : fw_S) (v i : Nat) : Nat := (σ (20, v, i) 0).toNatClampNeg
def re_lq (σ : fw_S) (v i : Nat) : Nat := (σ (20, v, i) 1).toNatClampNeg
def re_A (n : Nat) (σ τ : fw_S) : Prop := ∃ t : Nat, t ≤ 3000 * n ∧ σ (0, 0, 0) 5 = nI t ∧ τ (0, 0, 0) 2 = nI t
def re_B (σ τ : fw_S) : Prop := σ (0, 0, 0) 7 = τ (0, 0, 0) 12
def re_C (σ τ : fw_S) : Prop := ∀ j, j < 5 → σ (7, 0, 0) j = τ (2, 0, 0) j
def re_D (σ τ : fw_S) : Prop := ∀ i, i < 6 → ∀ j, j < 6 → σ (8, i, 0) j = τ (1, 0, 0) (6 * i + j)
def re_E (σ τ : fw_S) : Prop := ∀ k, k < 4 → ∀ j, j < 2 → ∀ w, w < 8 → σ (19, k, j) w = τ (3, 0, 0) (16 * k + 8 * j + w)
def re_F (σ τ : fw_S) : Prop := ∀ v, v < 4 → σ (12, v, 0) 2 = τ (5, 0, 0) v ∧ vp_in (τ (5, 0, 0) v) 6
def re_G (σ τ : fw_S) : Prop := ∀ v, v < 4 → σ (12, v, 0) 3 = τ (6, 0, 0) v ∧ (τ (6, 0, 0) v = 0 ∨ τ (6, 0, 0) v = 1)
def re_H (σ τ : fw_S) : Prop := ∀ v, v < 4 → σ (12, v, 0) 1 = τ (8, 0, 0) v ∧ vp_in (τ (8, 0, 0) v) 9
def re_I (σ τ : fw_S) : Prop := ∀ v, v < 4 → ∀ i, i < 8 → ∀ p, p < 4 → σ (20, v, i) p = τ (7, 0, 0) (32 * v + 4 * i + p)
def re_J (σ τ : fw_S) : Prop := ∀ v, v < 4 → ∃ d : Nat, d < 16 ∧ σ (12, v, 0) 4 = nI d ∧ ∀ c, c < 4 → τ (9, 0, 0) (4 * v + c) = bt d c
def re_K (σ τ : fw_S) : Prop := ∃ d : Nat, d < 16 ∧ σ (0, 0, 0) 6 = nI d ∧ ∀ c, c < 4 → τ (10, 0, 0) c = bt d c
def re_L (σ τ : fw_S) : Prop := ∀ v, v < 4 → σ (5, 0, 0) v = τ (11, 0, 0) v
def re_M (n : Nat) (σ : fw_S) : Prop := ∀ k, k < 4 → ∀ j, j < 2 → (σ (19, k, j) 1 = -1 ∨ vp_in (σ (19, k, j) 1) 6) ∧ vp_in (σ (19, k, j) 3) 6 ∧ ∃ c d : Nat, c ≤ n ∧ d < 4096 ∧ σ (19, k, j) 7 = nI (c * 4096 + d)
def re_N1 (σ τ : fw_S) : Prop := ∀ k, k < 4 → ∀ j, 1 ≤ j → j ≤ 512 → (τ (12, 0, 0) (520 * k + j) = 0 ∧ σ (15, k, 0) j = 0) ∨ (τ (12, 0, 0) (520 * k + j) = 1 ∧ σ (15, k, 0) j = 1 ∧ σ (16, k, 0) j = τ (14, 0, 0) (520 * k + j) + τ (13, 0, 0) (520 * k + j) ∧ σ (17, k, 0) j = τ (14, 0, 0) (520 * k + j)) ∨ (τ (12, 0, 0) (520 * k + j) = 2 ∧ σ (15, k, 0) j = 1 ∧ σ (16, k, 0) j = τ (14, 0, 0) (520 * k + j) - τ (13, 0, 0) (520 * k + j) ∧ σ (17, k, 0) j = τ (14, 0, 0) (520 * k + j))
def re_N2 (σ τ : fw_S) : Prop := ∀ k, k < 4 → ∀ j, j < 520 → (j = 0 ∨ re_c σ k < j) → τ (12, 0, 0) (520 * k + j) = 0
def re_N3 (σ τ : fw_S) : Prop := ∀ k, k < 4 → σ (11, k, 0) 3 = ms_known τ k ∧ σ (11, k, 0) 4 = ms_greatest τ k ∧ σ (11, k, 0) 5 = ms_sum τ k 1 ∧ σ (11, k, 0) 6 = ms_sum τ k 2
def re_O1 (σ τ : fw_S) : Prop := ∀ v, v < 4 → ∀ i, i < re_z σ v → vp_in (σ (20, v, i) 0) 4 ∧ vp_in (σ (20, v, i) 1) 513 ∧ 1 ≤ re_lq σ v i ∧ re_lq σ v i ≤ re_c σ (re_lc σ v i) ∧ τ (12, 0, 0) (520 * re_lc σ v i + re_lq σ v i) = 0
def re_O2 (σ : fw_S) : Prop := ∀ v, v < 4 → ∀ i, i < re_z σ v → ∀ w, w < 4 → ∀ j, j < re_z σ w → re_lc σ v i = re_lc σ w j → re_lq σ v i = re_lq σ w j → v = w ∧ i = j
def re_all (n : Nat) (σ τ : fw_S) : Prop := re_A n σ τ ∧ re_B σ τ ∧ re_C σ τ ∧ re_D σ τ ∧ re_E σ τ ∧ re_F σ τ ∧ re_G σ τ ∧ re_H σ τ ∧ re_I σ τ ∧ re_J σ τ ∧ re_K σ τ ∧ re_L σ τ ∧ re_M n σ ∧ re_N1 σ τ ∧ re_N2 σ τ ∧ re_N3 σ τ ∧ re_O1 σ τ ∧ re_O2 σ
theorem re_up {n : Nat} {σ τ : fw_S} (h : re_all n σ τ) : re_all (n + 1) σ τ := by
  obtain ⟨⟨t, h1, h2⟩, hB, hC, hD, hE, hF, hG, hH, hI, hJ, hK, hL, hM, hr⟩ := h
  refine ⟨⟨t, by omega, h2⟩, hB, hC, hD, hE, hF, hG, hH, hI, hJ, hK, hL, fun k hk j hj => ?_, hr⟩
  obtain ⟨a, b, c, d, h3, h4⟩ := hM k hk j hj
  exact ⟨a, b, c, d, by omega, h4⟩
/-! frames: a component stands where its rows stand -/
section REF
variable {n : Nat} {σ τ σ1 τ1 : fw_S}
theorem cc_fr (h : ∀ k j, σ1 (19, k, j) = σ (19, k, j)) (k : Nat) : cs_counter σ1 k = cs_counter σ k := by
  simp only [cs_counter, cs_read, cs_recordCopy, h]
theorem re_c_fr (h : ∀ k j, σ1 (19, k, j) = σ (19, k, j)) (k : Nat) : re_c σ1 k = re_c σ k := by
  unfold re_c
  rw [cc_fr h]
theorem kn_fr (h : τ1 (12, 0, 0) = τ (12, 0, 0)) (cd : Nat) : ∀ (m j : Nat) (x : Int32), ms_known_lp cd τ1 m j x = ms_known_lp cd τ m j x
  | 0, _, _ => rfl
  | m + 1, j, x => by
    unfold ms_known_lp
    simp only [h, kn_fr h cd m]
theorem gr_fr (h : τ1 (12, 0, 0) = τ (12, 0, 0)) (cd : Nat) : ∀ (m j : Nat) (x : Int32), ms_greatest_lp cd τ1 m j x = ms_greatest_lp cd τ m j x
  | 0, _, _ => rfl
  | m + 1, j, x => by
    unfold ms_greatest_lp
    simp only [h, gr_fr h cd m]
theorem sm_fr (h : τ1 (12, 0, 0) = τ (12, 0, 0)) (h2 : τ1 (13, 0, 0) = τ (13, 0, 0)) (cd : Nat) (a : Int32) : ∀ (m j : Nat) (x : Int32), ms_sum_lp cd a τ1 m j x = ms_sum_lp cd a τ m j x
  | 0, _, _ => rfl
  | m + 1, j, x => by
    unfold ms_sum_lp ms_sum_s1
    simp only [h, h2, sm_fr h h2 cd a m]
theorem re_A.fr (h : re_A n σ τ) (a : σ1 (0, 0, 0) 5 = σ (0, 0, 0) 5) (b : τ1 (0, 0, 0) 2 = τ (0, 0, 0) 2) : re_A n σ1 τ1 := by
  unfold re_A; rw [a, b]; exact h
theorem re_B.fr (h : re_B σ τ) (a : σ1 (0, 0, 0) 7 = σ (0, 0, 0) 7) (b : τ1 (0, 0, 0) 12 = τ (0, 0, 0) 12) : re_B σ1 τ1 := by
  unfold re_B; rw [a, b]; exact h
theorem re_C.fr (h : re_C σ τ) (a : σ1 (7, 0, 0) = σ (7, 0, 0)) (b : τ1 (2, 0, 0) = τ (2, 0, 0)) : re_C σ1 τ1 := by
  unfold re_C; rw [a, b]; exact h
theorem re_D.fr (h : re_D σ τ) (a : ∀ i j, σ1 (8, i, j) = σ (8, i, j)) (b : τ1 (1, 0, 0) = τ (1, 0, 0)) : re_D σ1 τ1 := by
  unfold re_D; simp only [a, b]; exact h
theorem re_E.fr (h : re_E σ τ) (a : ∀ i j, σ1 (19, i, j) = σ (19, i, j)) (b : τ1 (3, 0, 0) = τ (3, 0, 0)) : re_E σ1 τ1 := by
  unfold re_E; simp only [a, b]; exact h
theorem re_F.fr (h : re_F σ τ) (a : ∀ i, i < 4 → σ1 (12, i, 0) 2 = σ (12, i, 0) 2) (b : τ1 (5, 0, 0) = τ (5, 0, 0)) : re_F σ1 τ1 := fun v hv => by
  rw [a v hv, b]; exact h v hv
theorem re_G.fr (h : re_G σ τ) (a : ∀ i, i < 4 → σ1 (12, i, 0) 3 = σ (12, i, 0) 3) (b : τ1 (6, 0, 0) = τ (6, 0, 0)) : re_G σ1 τ1 := fun v hv => by
  rw [a v hv, b]; exact h v hv
theorem re_H.fr (h : re_H σ τ) (a : ∀ i, i < 4 → σ1 (12, i, 0) 1 = σ (12, i, 0) 1) (b : τ1 (8, 0, 0) = τ (8, 0, 0)) : re_H σ1 τ1 := fun v hv => by
  rw [a v hv, b]; exact h v hv
theorem re_I.fr (h : re_I σ τ) (a : ∀ i j, σ1 (20, i, j) = σ (20, i, j)) (b : τ1 (7, 0, 0) = τ (7, 0, 0)) : re_I σ1 τ1 := by
  unfold re_I; simp only [a, b]; exact h
theorem re_J.fr (h : re_J σ τ) (a : ∀ i, i < 4 → σ1 (12, i, 0) 4 = σ (12, i, 0) 4) (b : τ1 (9, 0, 0) = τ (9, 0, 0)) : re_J σ1 τ1 := fun v hv => by
  rw [a v hv, b]; exact h v hv
theorem re_K.fr (h : re_K σ τ) (a : σ1 (0, 0, 0) 6 = σ (0, 0, 0) 6) (b : τ1 (10, 0, 0) = τ (10, 0, 0)) : re_K σ1 τ1 := by
  unfold re_K; rw [a, b]; exact h
theorem re_L.fr (h : re_L σ τ) (a : σ1 (5, 0, 0) = σ (5, 0, 0)) (b : τ1 (11, 0, 0) = τ (11, 0, 0)) : re_L σ1 τ1 := by
  unfold re_L; rw [a, b]; exact h
theorem re_M.fr (h : re_M n σ) (a : ∀ i j, σ1 (19, i, j) = σ (19, i, j)) : re_M n σ1 := by
  unfold re_M; simp only [a]; exact h
theorem re_N1.fr (h : re_N1 σ τ) (a : ∀ i j, σ1 (15, i, j) = σ (15, i, j)) (b : ∀ i j, σ1 (16, i, j) = σ (16, i, j)) (c : ∀ i j, σ1 (17, i, j) = σ (17, i, j)) (d : τ1 (12, 0, 0) = τ (12, 0, 0)) (e : τ1 (13, 0, 0) = τ (13, 0, 0)) (f : τ1 (14, 0, 0) = τ (14, 0, 0)) : re_N1 σ1 τ1 := by
  unfold re_N1; simp only [a, b, c, d, e, f]; exact h
theorem re_N2.fr (h : re_N2 σ τ) (a : ∀ i j, σ1 (19, i, j) = σ (19, i, j)) (d : τ1 (12, 0, 0) = τ (12, 0, 0)) : re_N2 σ1 τ1 := by
  unfold re_N2; simp only [re_c_fr a, d]; exact h
theorem re_N3.fr (h : re_N3 σ τ) (a : ∀ i j, σ1 (11, i, j) = σ (11, i, j)) (d : τ1 (12, 0, 0) = τ (12, 0, 0)) (e : τ1 (13, 0, 0) = τ (13, 0, 0)) : re_N3 σ1 τ1 := by
  unfold re_N3 ms_known ms_greatest ms_sum
  simp only [a, kn_fr d, gr_fr d, sm_fr d e]
  exact h
theorem re_O1.fr (h : re_O1 σ τ) (a : ∀ i j, σ1 (19, i, j) = σ (19, i, j)) (b : ∀ i j, σ1 (20, i, j) = σ (20, i, j)) (c : ∀ i, i < 4 → σ1 (12, i, 0) 1 = σ (12, i, 0) 1) (d : τ1 (12, 0, 0) = τ (12, 0, 0)) : re_O1 σ1 τ1 := fun v hv => by
  have hz : re_z σ1 v = re_z σ v := by unfold re_z; rw [c v hv]
  unfold re_lc re_lq
  simp only [hz, b, re_c_fr a, d]
  exact h v hv
theorem re_O2.fr (h : re_O2 σ) (b : ∀ i j, σ1 (20, i, j) = σ (20, i, j)) (c : ∀ i, i < 4 → σ1 (12, i, 0) 1 = σ (12, i, 0) 1) : re_O2 σ1 := fun v hv i hi w hw j hj => by
  have hz : ∀ v, v < 4 → re_z σ1 v = re_z σ v := fun v hv => by unfold re_z; rw [c v hv]
  rw [hz v hv] at hi
  rw [hz w hw] at hj
  unfold re_lc re_lq
  simp only [b]
  exact h v hv i hi w hw j hj
end REF
/-! words of the two tests -/
theorem ib_eq {x y h : Int32} (e : y.toInt = h.toInt + 1) : cs_isBelow x y = ms_in x 0 h := by
  unfold cs_isBelow ms_in
  by_cases h1 : x < 0
  · rw [if_pos h1, if_pos h1]
  · rw [if_neg h1, if_neg h1]
    have : y ≤ x ↔ h < x := by rw [Int32.le_iff_toInt_le, Int32.lt_iff_toInt_lt]; omega
    simp only [this]
theorem ib_4 (x : Int32) : cs_isBelow x 4 = ms_in x 0 3 := ib_eq (by decide)
theorem ib_6 (x : Int32) : cs_isBelow x 6 = ms_in x 0 5 := ib_eq (by decide)
theorem ib_5 (x : Int32) : cs_isBelow x 5 = ms_in x 0 4 := ib_eq (by decide)
theorem ib_2 (x : Int32) : cs_isBelow x 2 = ms_in x 0 1 := ib_eq (by decide)
theorem ib_8 (x : Int32) : cs_isBelow x 8 = ms_in x 0 7 := ib_eq (by decide)
theorem in_0 {x lo hi : Int32} : ms_in x lo hi = 0 ↔ x < lo ∨ hi < x := by
  unfold ms_in
  by_cases h1 : x < lo
  · simp [h1]
  · by_cases h2 : hi < x
    · simp [h2]
    · simp [h1, h2]
theorem in_n {x lo hi : Int32} : ¬ ms_in x lo hi = 0 ↔ ¬ x < lo ∧ x ≤ hi := by
  rw [in_0, not_or, Int32.not_lt (a := hi)]
/-! the record's words -/
section REW
variable {n : Nat} {σ τ : fw_S}
theorem mb_rc (hE : re_E σ τ) {k : Nat} (hk : k < 4) : mb τ k = 16 * k + 8 * (cs_recordCopy σ k).toNatClampNeg := by
  have h0 := hE k hk 0 (by omega) 7 (by omega)
  have h1 := hE k hk 1 (by omega) 7 (by omega)
  unfold mb cs_recordCopy
  rw [h0, h1]
  show (if τ (3, 0, 0) (16 * k + 8 * 1 + 7) / 4096 ≤ τ (3, 0, 0) (16 * k + 8 * 0 + 7) / 4096 then _ else _) = _
  by_cases c : τ (3, 0, 0) (16 * k + 8 * 1 + 7) / 4096 ≤ τ (3, 0, 0) (16 * k + 8 * 0 + 7) / 4096
  · rw [if_pos c, if_pos c]; rfl
  · rw [if_neg c, if_neg c]; rfl
theorem rc_lt (σ : fw_S) (k : Nat) : (cs_recordCopy σ k).toNatClampNeg < 2 := vi_lt (rc_in σ k)
theorem rd_eq (hE : re_E σ τ) {k : Nat} (hk : k < 4) {x : Int32} {w : Nat} (hx : x.toNatClampNeg = w) (hw : w < 8) : cs_read σ k x = τ (3, 0, 0) (mb τ k + w) := by
  unfold cs_read
  rw [hx, hE k hk _ (rc_lt σ k) w hw, mb_rc hE hk]
theorem co_eq (hE : re_E σ τ) {k : Nat} (hk : k < 4) : cs_counter σ k = ms_counter τ k := by
  unfold cs_counter ms_counter
  rw [rd_eq hE hk (w := 7) (by decide) (by omega)]
theorem sp_eq (hE : re_E σ τ) {k : Nat} (hk : k < 4) {d : Int32} (hd : d = τ (0, 0, 0) 2 / 1440) : cs_spentOn σ k d = ms_spent τ k := by
  unfold cs_spentOn ms_spent
  rw [rd_eq hE hk (w := 7) (by decide) (by omega), rd_eq hE hk (w := 6) (by decide) (by omega), hd]
theorem st_div {c d : Nat} (hc : c ≤ 600) (hd : d < 4096) : nI (c * 4096 + d) / 4096 = nI c := by
  have h := pk_div (a := c * 4096 + d) (d := 4096) (by omega) (by omega) (by omega)
  have e : nI 4096 = 4096 := by decide
  rw [e] at h
  rw [h]
  congr 1
  omega
theorem st_rem {c d : Nat} (hc : c ≤ 600) (hd : d < 4096) : nI (c * 4096 + d) - nI (c * 4096 + d) / 4096 * 4096 = nI d := by
  have h := pk_rem (a := c * 4096 + d) (d := 4096) (by omega) (by omega) (by omega)
  have e : nI 4096 = 4096 := by decide
  rw [e] at h
  rw [h]
  congr 1
  omega
/-- the counter of the record: the greater of both copies' -/
theorem co_nat (hM : re_M n σ) (hn : n ≤ 512) {k : Nat} (hk : k < 4) : ∃ c : Nat, c ≤ n ∧ cs_counter σ k = nI c := by
  obtain ⟨-, -, c, d, h1, h2, h3⟩ := hM k hk _ (rc_lt σ k)
  refine ⟨c, h1, ?_⟩
  unfold cs_counter cs_read
  rw [show ((7 : Int32).toNatClampNeg) = 7 by decide, h3, st_div (by omega) h2]
theorem re_c_le (hM : re_M n σ) (hn : n ≤ 512) {k : Nat} (hk : k < 4) : re_c σ k ≤ n ∧ cs_counter σ k = nI (re_c σ k) := by
  obtain ⟨c, h1, h2⟩ := co_nat hM hn hk
  have : re_c σ k = c := by unfold re_c; rw [h2, nI_clamp (by omega)]
  rw [this]
  exact ⟨h1, h2⟩
end REW

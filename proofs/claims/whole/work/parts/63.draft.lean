/-! prices, the draft, the writing of it, on both sides -/
section DRF
variable {n : Nat} {σ τ : fw_S}
theorem pr_eq (hC : re_C σ τ) (x y : Int32) : cs_price σ x y = ms_price τ x y := by
  unfold cs_price ms_price cs_price_s1 ms_price_s1
  rw [hC 0 (by omega), hC 1 (by omega), hC 2 (by omega)]
theorem fp_lp (hC : re_C σ τ) (hD : re_D σ τ) {Z : Nat} (hZ : Z < 6) (y : Int32) : ∀ (d j : Nat) (x : Int32), j + d = 6 → cs_fullPrice_lp (nI Z) y σ (d + 1) (nI j) x = ms_price τ (ms_full_lp Z τ (d + 1) j x) y
  | 0, j, x, h => by
    have : j = 6 := by omega
    subst this
    unfold cs_fullPrice_lp ms_full_lp
    rw [if_pos (by decide), if_pos (Nat.le_refl 6), pr_eq hC]
  | d + 1, j, x, h => by
    unfold cs_fullPrice_lp ms_full_lp cs_fullPrice_s1 ms_full_s1
    rw [if_neg (show ¬ 6 ≤ nI j from nI_ge (a := j) (b := 6) (by omega) (by omega)), if_neg (by omega : ¬ 6 ≤ j), nI_clamp (by omega), nI_clamp (by omega), hD Z hZ j (by omega), ← nI_succ]
    by_cases c : τ (1, 0, 0) (6 * Z + j) ≤ x
    · rw [if_neg (Int32.not_lt.mpr c), if_pos c]; exact fp_lp hC hD hZ y d (j + 1) x (by omega)
    · rw [if_pos (Int32.not_le.mp c), if_neg c]; exact fp_lp hC hD hZ y d (j + 1) _ (by omega)
theorem ib_nI {Z : Nat} (hZ : Z < 6) : ¬ cs_isBelow (nI Z) 6 = 0 := by
  unfold cs_isBelow
  rw [if_neg (nI_pos (by omega)), if_neg (show ¬ 6 ≤ nI Z from nI_ge (a := Z) (b := 6) hZ (by omega))]
  decide
theorem fp_eq (hC : re_C σ τ) (hD : re_D σ τ) {Z : Nat} (hZ : Z < 6) (y : Int32) : cs_fullPrice σ (nI Z) y = ms_price τ (ms_full τ Z) y := by
  unfold cs_fullPrice ms_full
  rw [if_neg (ib_nI hZ)]
  exact fp_lp hC hD hZ y 6 0 0 rfl
theorem pb_eq (hC : re_C σ τ) (hD : re_D σ τ) {F Z : Nat} (hF : F < 6) (hZ : Z < 6) (y : Int32) : cs_priceBetween σ (nI F) (nI Z) y = ms_price τ (τ (1, 0, 0) (6 * F + Z)) y := by
  unfold cs_priceBetween
  rw [if_neg (ib_nI hF), if_neg (ib_nI hZ), nI_clamp (by omega), nI_clamp (by omega), hD F hF Z hZ, pr_eq hC]
theorem m0_eq (r : Int32) : (if 0 < r then r else 0) = if 0 ≤ r then r else 0 := by
  by_cases c : 0 < r
  · rw [if_pos c, if_pos (Int32.le_iff_toInt_le.mpr (by have := Int32.lt_iff_toInt_lt.mp c; omega))]
  · rw [if_neg c]
    by_cases d : 0 ≤ r
    · rw [if_pos d]
      refine Int32.toInt_inj.mp ?_
      have h1 := Int32.le_iff_toInt_le.mp d
      have h2 := Int32.le_iff_toInt_le.mp (Int32.not_lt.mp c)
      omega
    · rw [if_neg d]
theorem cp_eq (hC : re_C σ τ) (x s : Int32) : cs_capped σ x s = ms_capped_s1 x (τ (2, 0, 0) 3 - s) := by
  unfold cs_capped ms_capped_s1
  rw [hC 3 (by omega)]
  generalize τ (2, 0, 0) 3 - s = r
  by_cases c : r < x
  · have c2 : r ≤ x := Int32.le_iff_toInt_le.mpr (by have := Int32.lt_iff_toInt_lt.mp c; omega)
    simp only [if_pos c, if_pos c2, m0_eq]
  · simp only [if_neg c, m0_eq]
    by_cases c2 : r ≤ x
    · have : r = x := Int32.toInt_inj.mp (by have h1 := Int32.le_iff_toInt_le.mp c2; have h2 := Int32.le_iff_toInt_le.mp (Int32.not_lt.mp c); omega)
      rw [if_pos c2, this]
    · rw [if_neg c2]
theorem cp_neg {x : Int32} (r : Int32) (h : ¬ 0 ≤ x) : ms_capped_s1 x r = ms_capped_s1 0 r := by
  unfold ms_capped_s1
  have hx : x.toInt < 0 := by have := Int32.lt_iff_toInt_lt.mp (Int32.not_le.mp h); simpa using this
  have z : (0 : Int32).toInt = 0 := by decide
  rw [if_neg h, if_pos (show (0 : Int32) ≤ 0 by decide)]
  have h1 : (if r ≤ x then (if 0 ≤ r then r else 0) else 0) = 0 := by
    by_cases c : r ≤ x
    · rw [if_pos c, if_neg (fun q => by have a := Int32.le_iff_toInt_le.mp c; have b := Int32.le_iff_toInt_le.mp q; omega)]
    · rw [if_neg c]
  have h2 : (if r ≤ 0 then (if 0 ≤ r then r else 0) else 0) = 0 := by
    by_cases c : r ≤ 0
    · rw [if_pos c]
      by_cases d : 0 ≤ r
      · rw [if_pos d]
        exact Int32.toInt_inj.mp (by have a := Int32.le_iff_toInt_le.mp c; have b := Int32.le_iff_toInt_le.mp d; omega)
      · rw [if_neg d]
    · rw [if_neg c]
  rw [h1, h2]
/-! a tap's draft -/
theorem en_eq (hC : re_C σ τ) (hD : re_D σ τ) {k Z : Nat} (hZ : Z < 6) {t : Int32} (ht : τ (0, 0, 0) 2 = t) (hd : ∀ j, j < 7 → σ (14, k, 0) j = τ (4, 0, 0) j) (hz : σ (14, k, 0) 1 = -1 ∨ vp_in (σ (14, k, 0) 1) 6) (h3 : vp_in (σ (14, k, 0) 3) 6) (hs : τ (4, 0, 0) 6 = ms_spent τ k) :
    (cs_draftEntry σ k (nI Z) t).1 = (ms_enter τ k Z).1 ∧ (∀ j, j < 7 → (cs_draftEntry σ k (nI Z) t).2 (14, k, 0) j = (ms_enter τ k Z).2 (4, 0, 0) j) ∧ ((cs_draftEntry σ k (nI Z) t).2 (14, k, 0) 1 = -1 ∨ vp_in ((cs_draftEntry σ k (nI Z) t).2 (14, k, 0) 1) 6) ∧ vp_in ((cs_draftEntry σ k (nI Z) t).2 (14, k, 0) 3) 6 ∧ (cs_draftEntry σ k (nI Z) t).2 (14, k, 0) 7 = σ (14, k, 0) 7 := by
  have e1 := hd 1 (by omega)
  have e2 := hd 2 (by omega)
  have e5 := hd 5 (by omega)
  have e6 := hd 6 (by omega)
  have hzz : vp_in (nI Z) 6 := vp_in_nI hZ (by omega)
  unfold cs_draftEntry ms_enter
  rcases hz with z | z
  · have z' : τ (4, 0, 0) 1 < 0 := by rw [← e1, z]; decide
    simp only [if_pos z, if_pos z', ht, e5]
    by_cases c : t ≤ τ (4, 0, 0) 5 + 30
    · simp only [if_pos c, cs_draftEntry_s1, cs_draftEntry_s2, ms_enter_s1, ms_enter_s2]
      refine ⟨trivial, fun j hj => ?_, Or.inr ?_, ?_, ?_⟩
      · simp [fw_st_at, hd j hj, ht]
      · simpa [fw_st_at] using hzz
      · simpa [fw_st_at] using h3
      · simp [fw_st_at]
    · simp only [if_neg c, cs_draftEntry_s3, cs_draftEntry_s4, cs_draftEntry_s5, cs_draftEntry_s6, ms_enter_s3, ms_enter_s4, ms_enter_s5, ms_enter_s6]
      refine ⟨trivial, fun j hj => ?_, Or.inr ?_, ?_, ?_⟩
      · simp [fw_st_at, hd j hj, ht]
      · simpa [fw_st_at] using hzz
      · simpa [fw_st_at] using hzz
      · simp [fw_st_at]
  · obtain ⟨Y, hY, y1⟩ := vp_in_of z (by omega)
    have zn : ¬ σ (14, k, 0) 1 = -1 := fun q => by rw [q] at z; exact absurd z (by unfold vp_in; decide)
    have y2 : τ (4, 0, 0) 1 = nI Y := by rw [← e1, y1]
    have z' : ¬ τ (4, 0, 0) 1 < 0 := by rw [y2]; exact nI_pos (by omega)
    have p1 : cs_capped σ (cs_fullPrice σ (σ (14, k, 0) 1) (σ (14, k, 0) 2)) (σ (14, k, 0) 6) = ms_capped τ (ms_price τ (ms_full τ (τ (4, 0, 0) 1).toNatClampNeg) (τ (4, 0, 0) 2)) k := by
      unfold ms_capped
      rw [y1, y2, nI_clamp (by omega), fp_eq hC hD hY, cp_eq hC, e2, e6, hs]
    simp only [if_neg zn, if_neg z', p1]
    simp only [cs_draftEntry_s7, cs_draftEntry_s8, cs_draftEntry_s9, cs_draftEntry_s10, cs_draftEntry_s11, ms_enter_s7, ms_enter_s8, ms_enter_s9, ms_enter_s10, ms_enter_s11]
    refine ⟨trivial, fun j hj => ?_, Or.inr ?_, ?_, ?_⟩
    · simp [fw_st_at, hd j hj, ht]
    · simpa [fw_st_at] using hzz
    · simpa [fw_st_at] using hzz
    · simp [fw_st_at]
theorem ex_eq (hC : re_C σ τ) (hD : re_D σ τ) {k Z : Nat} (hZ : Z < 6) {t : Int32} (ht : τ (0, 0, 0) 2 = t) (hd : ∀ j, j < 7 → σ (14, k, 0) j = τ (4, 0, 0) j) (hz : σ (14, k, 0) 1 = -1 ∨ vp_in (σ (14, k, 0) 1) 6) (h3 : vp_in (σ (14, k, 0) 3) 6) (hs : τ (4, 0, 0) 6 = ms_spent τ k) :
    (cs_draftExit σ k (nI Z) t).1 = (ms_leave τ k Z).1 ∧ (∀ j, j < 7 → (cs_draftExit σ k (nI Z) t).2 (14, k, 0) j = (ms_leave τ k Z).2 (4, 0, 0) j) ∧ ((cs_draftExit σ k (nI Z) t).2 (14, k, 0) 1 = -1 ∨ vp_in ((cs_draftExit σ k (nI Z) t).2 (14, k, 0) 1) 6) ∧ vp_in ((cs_draftExit σ k (nI Z) t).2 (14, k, 0) 3) 6 ∧ (cs_draftExit σ k (nI Z) t).2 (14, k, 0) 7 = σ (14, k, 0) 7 := by
  have e1 := hd 1 (by omega)
  have e2 := hd 2 (by omega)
  have e3 := hd 3 (by omega)
  have e4 := hd 4 (by omega)
  have e6 := hd 6 (by omega)
  unfold cs_draftExit ms_leave
  rcases hz with z | z
  · have z' : ¬ 0 ≤ τ (4, 0, 0) 1 := by rw [← e1, z]; decide
    have p1 : cs_capped σ (cs_priceOutOfTime σ k (nI Z) t) (σ (14, k, 0) 6) = ms_capped τ (ms_price τ (ms_full τ Z) (τ (0, 0, 0) 2)) k := by
      unfold ms_capped cs_priceOutOfTime
      rw [if_pos z, fp_eq hC hD hZ, cp_eq hC, ht, e6, hs]
    simp only [if_pos z, if_neg z', cs_draftExit_s1, p1]
    simp only [cs_draftExit_s2, cs_draftExit_s3, cs_draftExit_s4, cs_draftExit_s5, ms_leave_s14, ms_leave_s15, ms_leave_s16, ms_leave_s17]
    refine ⟨trivial, fun j hj => ?_, Or.inl ?_, ?_, ?_⟩
    · simp [fw_st_at, hd j hj, ht]
    · simp [fw_st_at]
    · simpa [fw_st_at] using h3
    · simp [fw_st_at]
  · obtain ⟨Y, hY, y1⟩ := vp_in_of z (by omega)
    obtain ⟨F, hF, f1⟩ := vp_in_of h3 (by omega)
    have zn : ¬ σ (14, k, 0) 1 = -1 := fun q => by rw [q] at z; exact absurd z (by unfold vp_in; decide)
    have y2 : τ (4, 0, 0) 1 = nI Y := by rw [← e1, y1]
    have f2 : τ (4, 0, 0) 3 = nI F := by rw [← e3, f1]
    have z' : 0 ≤ τ (4, 0, 0) 1 := by rw [y2]; exact nI_pos' (by omega)
    simp only [if_neg zn, if_pos z', ht, e2]
    by_cases c : τ (4, 0, 0) 2 + 180 < t
    · have p1 : cs_capped σ (cs_priceOutOfTime σ k (nI Z) t) (σ (14, k, 0) 6) = ms_capped τ (ms_price τ (ms_full τ (τ (4, 0, 0) 1).toNatClampNeg) (τ (4, 0, 0) 2)) k := by
        unfold ms_capped cs_priceOutOfTime
        rw [if_neg zn, y1, y2, nI_clamp (by omega), fp_eq hC hD hY, cp_eq hC, e2, e6, hs]
      simp only [if_pos c, if_neg (Int32.not_le.mpr c), cs_draftExit_s6, p1]
      simp only [cs_draftExit_s7, cs_draftExit_s8, cs_draftExit_s9, cs_draftExit_s10, ms_leave_s10, ms_leave_s11, ms_leave_s12, ms_leave_s13]
      refine ⟨trivial, fun j hj => ?_, Or.inl ?_, ?_, ?_⟩
      · simp [fw_st_at, hd j hj, ht]
      · simp [fw_st_at]
      · simpa [fw_st_at] using h3
      · simp [fw_st_at]
    · have p1 : cs_capped σ (cs_priceBetween σ (σ (14, k, 0) 3) (nI Z) (τ (4, 0, 0) 2) - σ (14, k, 0) 4) (σ (14, k, 0) 6) = ms_capped τ (ms_price τ (τ (1, 0, 0) (6 * (τ (4, 0, 0) 3).toNatClampNeg + Z)) (τ (4, 0, 0) 2) - τ (4, 0, 0) 4) k := by
        unfold ms_capped
        rw [f1, f2, nI_clamp (by omega), pb_eq hC hD hF hZ, cp_eq hC, e4, e6, hs]
      simp only [if_neg c, if_pos (Int32.not_lt.mp c), cs_draftExit_s11, p1]
      simp only [cs_draftExit_s12, cs_draftExit_s13, cs_draftExit_s14, cs_draftExit_s15, ms_leave_s1]
      generalize ms_price τ (τ (1, 0, 0) (6 * (τ (4, 0, 0) 3).toNatClampNeg + Z)) (τ (4, 0, 0) 2) - τ (4, 0, 0) 4 = x
      by_cases g : 0 ≤ x
      · simp only [if_pos g, ms_leave_s2, ms_leave_s3, ms_leave_s4, ms_leave_s5]
        refine ⟨trivial, fun j hj => ?_, Or.inl ?_, ?_, ?_⟩
        · simp [fw_st_at, hd j hj, ht, e4]
        · simp [fw_st_at]
        · simpa [fw_st_at] using h3
        · simp [fw_st_at]
      · have g2 : ms_capped τ x k = ms_capped τ 0 k := cp_neg _ g
        simp only [if_neg g, g2, ms_leave_s6, ms_leave_s7, ms_leave_s8, ms_leave_s9]
        refine ⟨trivial, fun j hj => ?_, Or.inl ?_, ?_, ?_⟩
        · simp [fw_st_at, hd j hj, ht, e4]
        · simp [fw_st_at]
        · simpa [fw_st_at] using h3
        · simp [fw_st_at]
/-! the start of a draft -/
theorem sp_fr {σ1 : fw_S} (h : ∀ k j, σ1 (19, k, j) = σ (19, k, j)) (k : Nat) (d : Int32) : cs_spentOn σ1 k d = cs_spentOn σ k d := by
  have r : ∀ w, cs_read σ1 k w = cs_read σ k w := fun w => by simp only [cs_read, cs_recordCopy, h]
  unfold cs_spentOn
  rw [r 7, r 6]
theorem sd_at (σ : fw_S) (k : Nat) (t : Int32) (j : Nat) (hj : j < 8) : cs_startDraft σ k t (14, k, 0) j = if j = 7 then (cs_counter σ k + 1) * 4096 + t / 1440 else if j = 6 then cs_spentOn σ k (t / 1440) else σ (19, k, (cs_recordCopy σ k).toNatClampNeg) j := by
  have q0 : ∀ (i l : Nat), fw_cp σ (19, k, (cs_recordCopy σ k).toNatClampNeg) (14, k, 0) 8 (19, i, l) = σ (19, i, l) := fun i l => fw_cp_off (by simp)
  have q1 : ∀ (x : Int32) (i l : Nat), fw_st (fw_cp σ (19, k, (cs_recordCopy σ k).toNatClampNeg) (14, k, 0) 8) (14, k, 0) 6 x (19, i, l) = σ (19, i, l) := fun x i l => by rw [fw_st_off (by simp), q0]
  simp only [cs_startDraft, cs_startDraft_s1, cs_startDraft_s2, cs_startDraft_s3, cs_startDraft_s4, fw_st_at, true_and]
  rw [cc_fr (q1 _)]
  rw [sp_fr q0]
  have q3 : fw_cp σ (19, k, (cs_recordCopy σ k).toNatClampNeg) (14, k, 0) 8 (14, k, 0) j = σ (19, k, (cs_recordCopy σ k).toNatClampNeg) j := by
    unfold fw_cp
    rw [fw_row_self]
    unfold va_cpy
    rw [if_pos ⟨Nat.zero_le j, by omega⟩]
    simp
  rw [q3]
/-! the writing -/
theorem wd_lp (k W : Nat) (hW : W ≤ 8) (u : fw_T) (j : Nat) : ∀ (m j0 : Nat) (ρ : fw_S), 9 ≤ m + j0 → j0 ≤ 8 → cs_writeDraft_lp k (nI W) σ m (nI j0) ρ u j = if u = (19, k, (1 - cs_recordCopy σ k).toNatClampNeg) ∧ j0 ≤ j ∧ j < W then ρ (14, k, 0) j else ρ u j
  | 0, j0, ρ, h, h1 => by omega
  | m + 1, j0, ρ, h, h1 => by
    unfold cs_writeDraft_lp cs_writeDraft_s1
    by_cases c : W ≤ j0
    · rw [if_pos (nI_le c (by omega)), if_neg (fun z => by have := z.2; omega)]
    · rw [if_neg (nI_ge (by omega) (by omega)), if_neg (show ¬ 8 ≤ nI j0 from nI_ge (a := j0) (b := 8) (by omega) (by omega)), ← nI_succ, nI_clamp (by omega), wd_lp k W hW u j m (j0 + 1) _ (by omega) (by omega)]
      simp only [fw_st_at]
      by_cases e : u = (19, k, (1 - cs_recordCopy σ k).toNatClampNeg)
      · subst e
        by_cases g : j0 = j
        · subst g
          rw [if_neg (fun z => by have := z.2; omega), if_pos ⟨rfl, rfl⟩, if_pos ⟨rfl, by omega, by omega⟩]
        · have g2 : (j0 + 1 ≤ j ∧ j < W) ↔ (j0 ≤ j ∧ j < W) := by omega
          have g3 : ¬ j = j0 := fun z => g z.symm
          simp [g2, g3]
      · simp [e]
theorem wd_at (σ : fw_S) (k W : Nat) (hW : W ≤ 8) (u : fw_T) (j : Nat) : cs_writeDraft σ k (nI W) u j = if u = (19, k, (1 - cs_recordCopy σ k).toNatClampNeg) ∧ j < W then σ (14, k, 0) j else σ u j := by
  have h := wd_lp (σ := σ) k W hW u j 9 0 σ (by omega) (by omega)
  show cs_writeDraft_lp k (nI W) σ 9 (nI 0) σ u j = _
  rw [h]
  simp
theorem ch_lp (w q : Nat) (hq : q ≤ 8) (u : fw_T) (j : Nat) : ∀ (m j0 : Nat) (ρ : fw_S), 9 ≤ m + j0 → j0 ≤ 8 → ms_change_lp q w m j0 ρ u j = if u = (3, 0, 0) ∧ w + j0 ≤ j ∧ j < w + q then ρ (4, 0, 0) (j - w) else ρ u j
  | 0, j0, ρ, h, h1 => by omega
  | m + 1, j0, ρ, h, h1 => by
    unfold ms_change_lp ms_change_s2
    by_cases c : q ≤ j0
    · rw [if_pos c, if_neg (fun z => by have := z.2; omega)]
    · rw [if_neg c, ch_lp w q hq u j m (j0 + 1) _ (by omega) (by omega)]
      simp only [fw_st_at]
      by_cases e : u = (3, 0, 0)
      · subst e
        by_cases g : w + j0 = j
        · subst g
          rw [if_neg (fun z => by have := z.2; omega), if_pos ⟨rfl, rfl⟩, if_pos ⟨rfl, by omega, by omega⟩]
          simp
        · have g2 : (w + (j0 + 1) ≤ j ∧ j < w + q) ↔ (w + j0 ≤ j ∧ j < w + q) := by omega
          have g3 : ¬ j = w + j0 := fun z => g z.symm
          simp [g2, g3]
      · simp [e]
/-- the other copy's place in the reference's words -/
theorem ch_at (hE : re_E σ τ) {k : Nat} (hk : k < 4) (τ1 : fw_S) (h3 : τ1 (3, 0, 0) = τ (3, 0, 0)) (q : Nat) (hq : q ≤ 8) (u : fw_T) (j : Nat) : ms_change τ1 k q u j = if u = (3, 0, 0) ∧ 16 * k + 8 * (1 - (cs_recordCopy σ k).toNatClampNeg) ≤ j ∧ j < 16 * k + 8 * (1 - (cs_recordCopy σ k).toNatClampNeg) + q then (if j - (16 * k + 8 * (1 - (cs_recordCopy σ k).toNatClampNeg)) = 7 then (ms_counter τ k + 1) * 4096 + τ1 (0, 0, 0) 2 / 1440 else τ1 (4, 0, 0) (j - (16 * k + 8 * (1 - (cs_recordCopy σ k).toNatClampNeg)))) else if u = (4, 0, 0) ∧ j = 7 then (ms_counter τ k + 1) * 4096 + τ1 (0, 0, 0) 2 / 1440 else τ1 u j := by
  have hb := mb_rc hE hk
  have hm : mb τ1 k = mb τ k := mb_frame h3 k
  have hc : ms_counter τ1 k = ms_counter τ k := ct_frame h3
  unfold ms_change ms_change_s1
  rw [hc, hm]
  rcases rc_01 σ k with r | r
  · have r1 : (cs_recordCopy σ k).toNatClampNeg = 0 := by rw [r]; decide
    rw [r1] at hb ⊢
    rw [if_pos (by omega), hb, show 16 * k + 8 * 0 + 8 = 16 * k + 8 * (1 - 0) by omega, ch_lp _ q hq u j 9 0 _ (by omega) (by omega)]
    simp only [fw_st_at, true_and, Nat.add_zero]
  · have r1 : (cs_recordCopy σ k).toNatClampNeg = 1 := by rw [r]; decide
    rw [r1] at hb ⊢
    rw [if_neg (by omega), hb, show 16 * k + 8 * 1 - 8 = 16 * k + 8 * (1 - 1) by omega, ch_lp _ q hq u j 9 0 _ (by omega) (by omega)]
    simp only [fw_st_at, true_and, Nat.add_zero, Nat.sub_self, Nat.mul_zero]
theorem rc_sub (σ : fw_S) (k : Nat) : (1 - cs_recordCopy σ k).toNatClampNeg = 1 - (cs_recordCopy σ k).toNatClampNeg := by
  rcases rc_01 σ k with r | r <;> rw [r] <;> decide
end DRF

/-! what the writing of a draft does to the relation -/
section WRI
variable {n : Nat} {σ τ σd τd : fw_S}
theorem ck_of {a b c d : Nat} (h : b < 16) (g : d < 16) : (16 * a + b = 16 * c + d) ↔ (a = c ∧ b = d) := by omega
theorem nI_mul2 (a b : Nat) : nI a * nI b = nI (a * b) := (Int32.ofNat_mul a b).symm
theorem stamp_eq {c t : Nat} (ht : t < 2 ^ 31) : (nI c + 1) * 4096 + nI t / 1440 = nI ((c + 1) * 4096 + t / 1440) := by
  have e1 : (4096 : Int32) = nI 4096 := by decide
  have e2 : (1440 : Int32) = nI 1440 := by decide
  rw [e1, e2, nI_1, nI_mul2, pk_div ht (by omega) (by omega), nI_add]
/-- the rows of the copies, behind a writing -/
theorem wr_19 (hσ : ∀ u : fw_T, u.1 ≠ 14 → σd u = σ u) (k W : Nat) (hW : W ≤ 8) (i l w : Nat) : cs_writeDraft σd k (nI W) (19, i, l) w = if (i = k ∧ l = 1 - (cs_recordCopy σ k).toNatClampNeg) ∧ w < W then σd (14, k, 0) w else σ (19, i, l) w := by
  have hr : cs_recordCopy σd k = cs_recordCopy σ k := by simp only [cs_recordCopy, hσ (19, k, 0) (by simp), hσ (19, k, 1) (by simp)]
  rw [wd_at σd k W hW, hr, rc_sub, hσ (19, i, l) (by simp)]
  simp only [Prod.mk.injEq, true_and]
theorem wr_E (hE : re_E σ τ) (hσ : ∀ u : fw_T, u.1 ≠ 14 → σd u = σ u) (h3 : τd (3, 0, 0) = τ (3, 0, 0)) {k W : Nat} (hk : k < 4) (hW : W ≤ 8) (hd : ∀ j, j < 7 → σd (14, k, 0) j = τd (4, 0, 0) j) (h7 : σd (14, k, 0) 7 = (ms_counter τ k + 1) * 4096 + τd (0, 0, 0) 2 / 1440) : re_E (cs_writeDraft σd k (nI W)) (ms_change τd k W) := by
  intro i hi l hl w hw
  rw [wr_19 hσ k W hW, ch_at hE hk τd h3 W hW, h3]
  have hr := rc_lt σ k
  generalize (cs_recordCopy σ k).toNatClampNeg = r at hr ⊢
  by_cases e : (i = k ∧ l = 1 - r) ∧ w < W
  · obtain ⟨⟨rfl, rfl⟩, e2⟩ := e
    rw [if_pos ⟨⟨rfl, rfl⟩, e2⟩, if_pos ⟨rfl, by omega, by omega⟩, show 16 * i + 8 * (1 - r) + w - (16 * i + 8 * (1 - r)) = w by omega]
    by_cases g : w = 7
    · subst g
      rw [if_pos rfl, h7]
    · rw [if_neg g, hd w (by omega)]
  · rw [if_neg e, if_neg (fun z => e ⟨by have := z.2; omega, by have := z.2; omega⟩), if_neg (fun z => by simp at z), hE i hi l hl w hw]
theorem wr_M (hM : re_M n σ) (hn : n + 1 ≤ 512) (hσ : ∀ u : fw_T, u.1 ≠ 14 → σd u = σ u) {k W : Nat} (hk : k < 4) (hW : W ≤ 8) (hz : σd (14, k, 0) 1 = -1 ∨ vp_in (σd (14, k, 0) 1) 6) (h3 : vp_in (σd (14, k, 0) 3) 6) {d : Nat} (hd : d < 4096) (h7 : σd (14, k, 0) 7 = nI ((re_c σ k + 1) * 4096 + d)) : re_M (n + 1) (cs_writeDraft σd k (nI W)) := by
  intro i hi l hl
  rw [wr_19 hσ k W hW, wr_19 hσ k W hW, wr_19 hσ k W hW]
  obtain ⟨m1, m2, c, e, m3, m4, m5⟩ := hM i hi l hl
  by_cases g : i = k ∧ l = 1 - (cs_recordCopy σ k).toNatClampNeg
  · refine ⟨?_, ?_, ?_⟩
    · by_cases w : 1 < W
      · rw [if_pos ⟨g, w⟩]; exact hz
      · rw [if_neg (fun z => w z.2)]; exact m1
    · by_cases w : 3 < W
      · rw [if_pos ⟨g, w⟩]; exact h3
      · rw [if_neg (fun z => w z.2)]; exact m2
    · by_cases w : 7 < W
      · rw [if_pos ⟨g, w⟩]
        exact ⟨re_c σ k + 1, d, by have := (re_c_le hM (by omega) hk).1; omega, hd, h7⟩
      · rw [if_neg (fun z => w z.2)]
        exact ⟨c, e, by omega, m4, m5⟩
  · rw [if_neg (fun z => g z.1), if_neg (fun z => g z.1), if_neg (fun z => g z.1)]
    exact ⟨m1, m2, c, e, by omega, m4, m5⟩
/-- the record behind a writing: another card's as it was; a torn one as it was; a whole one is the draft -/
theorem wr_c (hM : re_M n σ) (hn : n + 1 ≤ 512) (hσ : ∀ u : fw_T, u.1 ≠ 14 → σd u = σ u) {k W : Nat} (hk : k < 4) (hW : W ≤ 8) {d : Nat} (hd : d < 4096) (h7 : σd (14, k, 0) 7 = nI ((re_c σ k + 1) * 4096 + d)) :
    (∀ i, i < 4 → re_c σ i ≤ re_c (cs_writeDraft σd k (nI W)) i) ∧ (W = 8 → cs_counter (cs_writeDraft σd k (nI W)) k = nI (re_c σ k + 1) ∧ ∀ w, w < 8 → cs_read (cs_writeDraft σd k (nI W)) k (nI w) = σd (14, k, 0) w) := by
  have hcl := (re_c_le hM (by omega) hk)
  obtain ⟨-, -, c0, d0, a1, a2, a3⟩ := hM k hk 0 (by omega)
  obtain ⟨-, -, c1, d1, b1, b2, b3⟩ := hM k hk 1 (by omega)
  have x1 : nI (c1 * 4096 + d1) / 4096 = nI c1 := st_div (by omega) b2
  have x0 : nI (c0 * 4096 + d0) / 4096 = nI c0 := st_div (by omega) a2
  have x2 : nI ((re_c σ k + 1) * 4096 + d) / 4096 = nI (re_c σ k + 1) := st_div (by omega) hd
  have hrw : ∀ i l w, cs_writeDraft σd k (nI W) (19, i, l) w = if (i = k ∧ l = 1 - (cs_recordCopy σ k).toNatClampNeg) ∧ w < W then σd (14, k, 0) w else σ (19, i, l) w := wr_19 hσ k W hW
  generalize cs_writeDraft σd k (nI W) = ρ at hrw ⊢
  have t7 : (7 : Int32).toNatClampNeg = 7 := by decide
  -- the card itself
  have main : ∃ r : Nat, (cs_recordCopy ρ k).toNatClampNeg = r ∧ (if W = 8 then r = 1 - (cs_recordCopy σ k).toNatClampNeg ∧ cs_counter ρ k = nI (re_c σ k + 1) else cs_counter ρ k = nI (re_c σ k)) := by
    by_cases g : c1 ≤ c0
    · have r0 : cs_recordCopy σ k = 0 := by
        unfold cs_recordCopy
        rw [a3, b3, x1, x0, if_pos (nI_le g (by omega))]
      have k0 : cs_counter σ k = nI c0 := by
        unfold cs_counter cs_read
        rw [r0, t7, show (0 : Int32).toNatClampNeg = 0 by decide, a3, x0]
      have k1 : re_c σ k = c0 := by unfold re_c; rw [k0, nI_clamp (by omega)]
      have w0 : ρ (19, k, 0) 7 = nI (c0 * 4096 + d0) := by rw [hrw, r0, if_neg (by simp), a3]
      by_cases w : W = 8
      · have w1 : ρ (19, k, 1) 7 = nI ((re_c σ k + 1) * 4096 + d) := by rw [hrw, r0, if_pos ⟨⟨rfl, by decide⟩, by omega⟩, h7]
        have rr : cs_recordCopy ρ k = 1 := by
          unfold cs_recordCopy
          rw [w0, w1, x0, x2, if_neg (nI_ge (by omega) (by omega))]
        refine ⟨1, by rw [rr]; decide, ?_⟩
        rw [if_pos w, r0]
        refine ⟨by decide, ?_⟩
        unfold cs_counter cs_read
        rw [rr, t7, show (1 : Int32).toNatClampNeg = 1 by decide, w1, x2]
      · have w1 : ρ (19, k, 1) 7 = nI (c1 * 4096 + d1) := by rw [hrw, if_neg (fun z => by have := z.2; omega), b3]
        have rr : cs_recordCopy ρ k = 0 := by
          unfold cs_recordCopy
          rw [w0, w1, x0, x1, if_pos (nI_le g (by omega))]
        refine ⟨0, by rw [rr]; decide, ?_⟩
        rw [if_neg w]
        unfold cs_counter cs_read
        rw [rr, t7, show (0 : Int32).toNatClampNeg = 0 by decide, w0, x0, k1]
    · have r0 : cs_recordCopy σ k = 1 := by
        unfold cs_recordCopy
        rw [a3, b3, x1, x0, if_neg (nI_ge (by omega) (by omega))]
      have k0 : cs_counter σ k = nI c1 := by
        unfold cs_counter cs_read
        rw [r0, t7, show (1 : Int32).toNatClampNeg = 1 by decide, b3, x1]
      have k1 : re_c σ k = c1 := by unfold re_c; rw [k0, nI_clamp (by omega)]
      have w1 : ρ (19, k, 1) 7 = nI (c1 * 4096 + d1) := by rw [hrw, r0, if_neg (fun z => absurd z.1.2 (by decide)), b3]
      by_cases w : W = 8
      · have w0 : ρ (19, k, 0) 7 = nI ((re_c σ k + 1) * 4096 + d) := by rw [hrw, r0, if_pos ⟨⟨rfl, by decide⟩, by omega⟩, h7]
        have rr : cs_recordCopy ρ k = 0 := by
          unfold cs_recordCopy
          rw [w0, w1, x1, x2, if_pos (nI_le (by omega) (by omega))]
        refine ⟨0, by rw [rr]; decide, ?_⟩
        rw [if_pos w, r0]
        refine ⟨by decide, ?_⟩
        unfold cs_counter cs_read
        rw [rr, t7, show (0 : Int32).toNatClampNeg = 0 by decide, w0, x2]
      · have w0 : ρ (19, k, 0) 7 = nI (c0 * 4096 + d0) := by rw [hrw, if_neg (fun z => by have := z.2; omega), a3]
        have rr : cs_recordCopy ρ k = 1 := by
          unfold cs_recordCopy
          rw [w0, w1, x0, x1, if_neg (nI_ge (by omega) (by omega))]
        refine ⟨1, by rw [rr]; decide, ?_⟩
        rw [if_neg w]
        unfold cs_counter cs_read
        rw [rr, t7, show (1 : Int32).toNatClampNeg = 1 by decide, w1, x1, k1]
  obtain ⟨r, hr, hm⟩ := main
  refine ⟨fun i hi => ?_, fun w => ?_⟩
  · by_cases e : i = k
    · subst e
      by_cases w : W = 8
      · rw [if_pos w] at hm
        unfold re_c at hm ⊢
        rw [hm.2, nI_clamp (by unfold re_c at hcl; omega)]
        omega
      · rw [if_neg w] at hm
        unfold re_c at hm ⊢
        rw [hm, nI_clamp (by unfold re_c at hcl; omega)]
        exact Nat.le_refl _
    · have h19 : ∀ l, ρ (19, i, l) = σ (19, i, l) := fun l => funext fun w => by rw [hrw, if_neg (fun z => e z.1.1)]
      have : cs_counter ρ i = cs_counter σ i := by simp only [cs_counter, cs_read, cs_recordCopy, h19]
      unfold re_c
      rw [this]
      exact Nat.le_refl _
  · rw [if_pos w] at hm
    refine ⟨hm.2, fun j hj => ?_⟩
    unfold cs_read
    rw [hr, nI_clamp (by omega), hrw, if_pos ⟨⟨rfl, hm.1⟩, by omega⟩]
end WRI

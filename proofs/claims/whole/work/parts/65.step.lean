section STP
variable {n : Nat} {σ τ σ1 τ1 : fw_S}
def re_O1P (P : Nat → Nat → Prop) (σ τ : fw_S) : Prop := ∀ v, v < 4 → ∀ i, i < re_z σ v → P v i → vp_in (σ (20, v, i) 0) 4 ∧ vp_in (σ (20, v, i) 1) 513 ∧ 1 ≤ re_lq σ v i ∧ re_lq σ v i ≤ re_c σ (re_lc σ v i) ∧ τ (12, 0, 0) (520 * re_lc σ v i + re_lq σ v i) = 0
def re_alP (P : Nat → Nat → Prop) (n : Nat) (σ τ : fw_S) : Prop := re_A n σ τ ∧ re_B σ τ ∧ re_C σ τ ∧ re_D σ τ ∧ re_E σ τ ∧ re_F σ τ ∧ re_G σ τ ∧ re_H σ τ ∧ re_I σ τ ∧ re_J σ τ ∧ re_K σ τ ∧ re_L σ τ ∧ re_M n σ ∧ re_N1 σ τ ∧ re_N2 σ τ ∧ re_N3 σ τ ∧ re_O1P P σ τ ∧ re_O2 σ
theorem re_P {P : Nat → Nat → Prop} (h : re_all n σ τ) : re_alP P n σ τ := by
  obtain ⟨hA, hB, hC, hD, hE, hF, hG, hH, hI, hJ, hK, hL, hM, hN1, hN2, hN3, hO1, hO2⟩ := h
  exact ⟨hA, hB, hC, hD, hE, hF, hG, hH, hI, hJ, hK, hL, hM, hN1, hN2, hN3, fun v hv i hi _ => hO1 v hv i hi, hO2⟩
theorem re_oP {P : Nat → Nat → Prop} (h : re_alP P n σ τ) (hP : ∀ v, v < 4 → ∀ i, i < re_z σ v → P v i) : re_all n σ τ := by
  obtain ⟨hA, hB, hC, hD, hE, hF, hG, hH, hI, hJ, hK, hL, hM, hN1, hN2, hN3, hO1, hO2⟩ := h
  exact ⟨hA, hB, hC, hD, hE, hF, hG, hH, hI, hJ, hK, hL, hM, hN1, hN2, hN3, fun v hv i hi => hO1 v hv i hi (hP v hv i hi), hO2⟩
theorem re_pP {P Q : Nat → Nat → Prop} (h : re_alP P n σ τ) (hP : ∀ v i, Q v i → P v i) : re_alP Q n σ τ := by
  obtain ⟨hA, hB, hC, hD, hE, hF, hG, hH, hI, hJ, hK, hL, hM, hN1, hN2, hN3, hO1, hO2⟩ := h
  exact ⟨hA, hB, hC, hD, hE, hF, hG, hH, hI, hJ, hK, hL, hM, hN1, hN2, hN3, fun v hv i hi q => hO1 v hv i hi (hP v i q), hO2⟩
/-- the reference's next record is no part of the relation -/
theorem re_t4 (h : re_all n σ τ) (ht : ∀ u : fw_T, u.1 ≠ 4 → τ1 u = τ u) : re_all n σ τ1 := by
  obtain ⟨hA, hB, hC, hD, hE, hF, hG, hH, hI, hJ, hK, hL, hM, hN1, hN2, hN3, hO1, hO2⟩ := h
  refine ⟨hA.fr (by intros; first | rfl | rw [ht _ (by simp)]) (by intros; first | rfl | rw [ht _ (by simp)]), hB.fr (by intros; first | rfl | rw [ht _ (by simp)]) (by intros; first | rfl | rw [ht _ (by simp)]), hC.fr (by intros; first | rfl | rw [ht _ (by simp)]) (by intros; first | rfl | rw [ht _ (by simp)]), hD.fr (by intros; first | rfl | rw [ht _ (by simp)]) (by intros; first | rfl | rw [ht _ (by simp)]), hE.fr (by intros; first | rfl | rw [ht _ (by simp)]) (by intros; first | rfl | rw [ht _ (by simp)]), hF.fr (by intros; first | rfl | rw [ht _ (by simp)]) (by intros; first | rfl | rw [ht _ (by simp)]), hG.fr (by intros; first | rfl | rw [ht _ (by simp)]) (by intros; first | rfl | rw [ht _ (by simp)]), hH.fr (by intros; first | rfl | rw [ht _ (by simp)]) (by intros; first | rfl | rw [ht _ (by simp)]), hI.fr (by intros; first | rfl | rw [ht _ (by simp)]) (by intros; first | rfl | rw [ht _ (by simp)]), hJ.fr (by intros; first | rfl | rw [ht _ (by simp)]) (by intros; first | rfl | rw [ht _ (by simp)]), hK.fr (by intros; first | rfl | rw [ht _ (by simp)]) (by intros; first | rfl | rw [ht _ (by simp)]), hL.fr (by intros; first | rfl | rw [ht _ (by simp)]) (by intros; first | rfl | rw [ht _ (by simp)]), hM.fr (by intros; first | rfl | rw [ht _ (by simp)]), hN1.fr (by intros; first | rfl | rw [ht _ (by simp)]) (by intros; first | rfl | rw [ht _ (by simp)]) (by intros; first | rfl | rw [ht _ (by simp)]) (by intros; first | rfl | rw [ht _ (by simp)]) (by intros; first | rfl | rw [ht _ (by simp)]) (by intros; first | rfl | rw [ht _ (by simp)]), hN2.fr (by intros; first | rfl | rw [ht _ (by simp)]) (by intros; first | rfl | rw [ht _ (by simp)]), hN3.fr (by intros; first | rfl | rw [ht _ (by simp)]) (by intros; first | rfl | rw [ht _ (by simp)]) (by intros; first | rfl | rw [ht _ (by simp)]), hO1.fr (by intros; first | rfl | rw [ht _ (by simp)]) (by intros; first | rfl | rw [ht _ (by simp)]) (by intros; first | rfl | rw [ht _ (by simp)]) (by intros; first | rfl | rw [ht _ (by simp)]), hO2.fr (by intros; first | rfl | rw [ht _ (by simp)]) (by intros; first | rfl | rw [ht _ (by simp)])⟩

/-- a writing -/
theorem wr_all (h : re_all n σ τ) (hn : n + 1 ≤ 512) {σd τd : fw_S} (hσ : ∀ u : fw_T, u.1 ≠ 14 → σd u = σ u) (hτ : ∀ u : fw_T, u.1 ≠ 4 → τd u = τ u) {k W : Nat} (hk : k < 4) (hW : W ≤ 8) (hd : ∀ j, j < 7 → σd (14, k, 0) j = τd (4, 0, 0) j) (hz : σd (14, k, 0) 1 = -1 ∨ vp_in (σd (14, k, 0) 1) 6) (h3 : vp_in (σd (14, k, 0) 3) 6) (h7 : σd (14, k, 0) 7 = (cs_counter σ k + 1) * 4096 + σ (0, 0, 0) 5 / 1440) :
    re_all (n + 1) (cs_writeDraft σd k (nI W)) (ms_change τd k W) ∧ (W = 8 → cs_counter (cs_writeDraft σd k (nI W)) k = nI (re_c σ k + 1) ∧ ∀ w, w < 8 → cs_read (cs_writeDraft σd k (nI W)) k (nI w) = σd (14, k, 0) w) := by
  obtain ⟨t, t1, t2, t3⟩ := h.1
  have hM0 : re_M n σ := h.2.2.2.2.2.2.2.2.2.2.2.2.1
  have hE0 : re_E σ τ := h.2.2.2.2.1
  have hc := re_c_le hM0 (by omega) hk
  have h7' : σd (14, k, 0) 7 = nI ((re_c σ k + 1) * 4096 + t / 1440) := by rw [h7, hc.2, t2, stamp_eq (by omega)]
  have hdl : t / 1440 < 4096 := by omega
  have w1 := wr_c hM0 hn hσ hk hW hdl h7'
  refine ⟨?_, w1.2⟩
  have hmono := w1.1
  have gE := wr_E (W := W) hE0 hσ (hτ _ (by simp)) hk hW hd (by rw [h7, co_eq hE0 hk, hτ _ (by simp), t2, t3])
  have gM := wr_M (W := W) hM0 hn hσ hk hW hz h3 hdl h7'
  have hs : ∀ u : fw_T, u.1 ≠ 14 → u.1 ≠ 19 → cs_writeDraft σd k (nI W) u = σ u := fun u a b => by rw [fr_writeDraft _ _ _ _ b, hσ u a]
  have ht : ∀ u : fw_T, u.1 ≠ 3 → u.1 ≠ 4 → ms_change τd k W u = τ u := fun u a b => by rw [fr_change _ _ _ _ a b, hτ u b]
  generalize cs_writeDraft σd k (nI W) = ρ at *
  generalize ms_change τd k W = π at *
  have h := re_up h
  obtain ⟨hA, hB, hC, hD, hE, hF, hG, hH, hI, hJ, hK, hL, hM, hN1, hN2, hN3, hO1, hO2⟩ := h
  refine ⟨hA.fr (by intros; first | rfl | (rw [hs _ (by simp) (by simp)]) | (rw [ht _ (by simp) (by simp)])) (by intros; first | rfl | (rw [hs _ (by simp) (by simp)]) | (rw [ht _ (by simp) (by simp)])), hB.fr (by intros; first | rfl | (rw [hs _ (by simp) (by simp)]) | (rw [ht _ (by simp) (by simp)])) (by intros; first | rfl | (rw [hs _ (by simp) (by simp)]) | (rw [ht _ (by simp) (by simp)])), hC.fr (by intros; first | rfl | (rw [hs _ (by simp) (by simp)]) | (rw [ht _ (by simp) (by simp)])) (by intros; first | rfl | (rw [hs _ (by simp) (by simp)]) | (rw [ht _ (by simp) (by simp)])), hD.fr (by intros; first | rfl | (rw [hs _ (by simp) (by simp)]) | (rw [ht _ (by simp) (by simp)])) (by intros; first | rfl | (rw [hs _ (by simp) (by simp)]) | (rw [ht _ (by simp) (by simp)])), ?_, hF.fr (by intros; first | rfl | (rw [hs _ (by simp) (by simp)]) | (rw [ht _ (by simp) (by simp)])) (by intros; first | rfl | (rw [hs _ (by simp) (by simp)]) | (rw [ht _ (by simp) (by simp)])), hG.fr (by intros; first | rfl | (rw [hs _ (by simp) (by simp)]) | (rw [ht _ (by simp) (by simp)])) (by intros; first | rfl | (rw [hs _ (by simp) (by simp)]) | (rw [ht _ (by simp) (by simp)])), hH.fr (by intros; first | rfl | (rw [hs _ (by simp) (by simp)]) | (rw [ht _ (by simp) (by simp)])) (by intros; first | rfl | (rw [hs _ (by simp) (by simp)]) | (rw [ht _ (by simp) (by simp)])), hI.fr (by intros; first | rfl | (rw [hs _ (by simp) (by simp)]) | (rw [ht _ (by simp) (by simp)])) (by intros; first | rfl | (rw [hs _ (by simp) (by simp)]) | (rw [ht _ (by simp) (by simp)])), hJ.fr (by intros; first | rfl | (rw [hs _ (by simp) (by simp)]) | (rw [ht _ (by simp) (by simp)])) (by intros; first | rfl | (rw [hs _ (by simp) (by simp)]) | (rw [ht _ (by simp) (by simp)])), hK.fr (by intros; first | rfl | (rw [hs _ (by simp) (by simp)]) | (rw [ht _ (by simp) (by simp)])) (by intros; first | rfl | (rw [hs _ (by simp) (by simp)]) | (rw [ht _ (by simp) (by simp)])), hL.fr (by intros; first | rfl | (rw [hs _ (by simp) (by simp)]) | (rw [ht _ (by simp) (by simp)])) (by intros; first | rfl | (rw [hs _ (by simp) (by simp)]) | (rw [ht _ (by simp) (by simp)])), ?_, hN1.fr (by intros; first | rfl | (rw [hs _ (by simp) (by simp)]) | (rw [ht _ (by simp) (by simp)])) (by intros; first | rfl | (rw [hs _ (by simp) (by simp)]) | (rw [ht _ (by simp) (by simp)])) (by intros; first | rfl | (rw [hs _ (by simp) (by simp)]) | (rw [ht _ (by simp) (by simp)])) (by intros; first | rfl | (rw [hs _ (by simp) (by simp)]) | (rw [ht _ (by simp) (by simp)])) (by intros; first | rfl | (rw [hs _ (by simp) (by simp)]) | (rw [ht _ (by simp) (by simp)])) (by intros; first | rfl | (rw [hs _ (by simp) (by simp)]) | (rw [ht _ (by simp) (by simp)])), ?_, hN3.fr (by intros; first | rfl | (rw [hs _ (by simp) (by simp)]) | (rw [ht _ (by simp) (by simp)])) (by intros; first | rfl | (rw [hs _ (by simp) (by simp)]) | (rw [ht _ (by simp) (by simp)])) (by intros; first | rfl | (rw [hs _ (by simp) (by simp)]) | (rw [ht _ (by simp) (by simp)])), ?_, hO2.fr (by intros; first | rfl | (rw [hs _ (by simp) (by simp)]) | (rw [ht _ (by simp) (by simp)])) (by intros; first | rfl | (rw [hs _ (by simp) (by simp)]) | (rw [ht _ (by simp) (by simp)]))⟩
  · exact gE
  · exact gM
  · intro i hi j hj q
    rw [ht _ (by simp) (by simp)]
    exact hN2 i hi j hj (q.imp id fun z => Nat.lt_of_le_of_lt (hmono i hi) z)
  · intro v hv i hi
    have z : re_z ρ v = re_z σ v := by unfold re_z; rw [hs _ (by simp) (by simp)]
    rw [z] at hi
    obtain ⟨o1, o2, o3, o4, o5⟩ := hO1 v hv i hi
    have z1 : re_lc ρ v i = re_lc σ v i := by unfold re_lc; rw [hs _ (by simp) (by simp)]
    have z2 : re_lq ρ v i = re_lq σ v i := by unfold re_lq; rw [hs _ (by simp) (by simp)]
    rw [z1, z2, hs _ (by simp) (by simp), ht _ (by simp) (by simp)]
    exact ⟨o1, o2, o3, Nat.le_trans o4 (hmono _ (vi_lt o1)), o5⟩

/-- an entry at the office: w = 1 a charge, w = 2 a top-up -/
theorem st_enter {P : Nat → Nat → Prop} (h : re_alP P n σ τ) {k q : Nat} (hk : k < 4) (hq1 : 1 ≤ q) (hq : q ≤ 512) (hqc : q ≤ re_c σ k) {w x y : Int32} (hw : w = 1 ∨ w = 2) (h0 : τ (12, 0, 0) (520 * k + q) = 0) (hP : ∀ v, v < 4 → ∀ i, i < re_z σ v → P v i → ¬ (re_lc σ v i = k ∧ re_lq σ v i = q)) {ρ : fw_S} (hρ : (w = 1 ∧ ρ = cs_enterCharge σ k (nI q) x y) ∨ (w = 2 ∧ ρ = cs_enterTopUp σ k (nI q) x y)) : re_alP P n ρ (ms_enterOffice τ k q w x y) := by
  have hN1' : re_N1 σ τ := h.2.2.2.2.2.2.2.2.2.2.2.2.2.1
  have has : σ (15, k, 0) q = 0 := by
    rcases hN1' k hk q hq1 hq with a | a | a
    · exact a.2
    · rw [h0] at a; exact absurd a.1 (by decide)
    · rw [h0] at a; exact absurd a.1 (by decide)
  have hpt : ρ = fw_st (fw_st (fw_st (fw_st (fw_st (fw_st σ (15, k, 0) q 1) (16, k, 0) q (if w = 1 then y + x else y - x)) (17, k, 0) q y) (11, k, 0) 3 (σ (11, k, 0) 3 + 1)) (11, k, 0) 4 (if σ (11, k, 0) 4 < nI q then nI q else σ (11, k, 0) 4)) (11, k, 0) (if w = 1 then 5 else 6) ((if w = 1 then σ (11, k, 0) 5 else σ (11, k, 0) 6) + x) := by
    rcases hρ with ⟨rfl, rfl⟩ | ⟨rfl, rfl⟩
    · rw [ec_at hq1 hq has]; rfl
    · rw [et_at hq1 hq has]; rfl
  have hs : ∀ u : fw_T, u.1 ≠ 11 → u.1 ≠ 15 → u.1 ≠ 16 → u.1 ≠ 17 → ρ u = σ u := fun u a b c d => by
    rw [hpt, fw_st_off a, fw_st_off a, fw_st_off a, fw_st_off d, fw_st_off c, fw_st_off b]
  have ht : ∀ u : fw_T, u.1 ≠ 12 → u.1 ≠ 13 → u.1 ≠ 14 → ms_enterOffice τ k q w x y u = τ u := fun u a b c => fr_enterOffice _ _ _ _ _ _ u a b c
  have hrc : ∀ i, re_c ρ i = re_c σ i := re_c_fr (fun i j => hs _ (by simp) (by simp) (by simp) (by simp))
  have hN1n : re_N1 ρ (ms_enterOffice τ k q w x y) := of_N1 hN1' (by omega) hw (fun c j => by rw [hpt]; simp [fw_st_at]) (fun c j => by rw [hpt]; simp [fw_st_at]) (fun c j => by rw [hpt]; simp [fw_st_at])
  have hN3n : re_N3 ρ (ms_enterOffice τ k q w x y) := of_N3 h.2.2.2.2.2.2.2.2.2.2.2.2.2.2.2.1 (by omega) h0 hw
    (fun c _ => by rcases hw with rfl | rfl <;> by_cases e : c = k <;> simp [hpt, fw_st_at, e])
    (fun c _ => by rcases hw with rfl | rfl <;> by_cases e : c = k <;> simp [hpt, fw_st_at, e])
    (fun c _ => by rcases hw with rfl | rfl <;> by_cases e : c = k <;> simp [hpt, fw_st_at, e])
    (fun c _ => by rcases hw with rfl | rfl <;> by_cases e : c = k <;> simp [hpt, fw_st_at, e])
  clear hρ hpt
  obtain ⟨hA, hB, hC, hD, hE, hF, hG, hH, hI, hJ, hK, hL, hM, hN1, hN2, hN3, hO1, hO2⟩ := h
  refine ⟨hA.fr (by intros; first | rfl | (rw [hs _ (by simp) (by simp) (by simp) (by simp)]) | (rw [ht _ (by simp) (by simp) (by simp)])) (by intros; first | rfl | (rw [hs _ (by simp) (by simp) (by simp) (by simp)]) | (rw [ht _ (by simp) (by simp) (by simp)])), hB.fr (by intros; first | rfl | (rw [hs _ (by simp) (by simp) (by simp) (by simp)]) | (rw [ht _ (by simp) (by simp) (by simp)])) (by intros; first | rfl | (rw [hs _ (by simp) (by simp) (by simp) (by simp)]) | (rw [ht _ (by simp) (by simp) (by simp)])), hC.fr (by intros; first | rfl | (rw [hs _ (by simp) (by simp) (by simp) (by simp)]) | (rw [ht _ (by simp) (by simp) (by simp)])) (by intros; first | rfl | (rw [hs _ (by simp) (by simp) (by simp) (by simp)]) | (rw [ht _ (by simp) (by simp) (by simp)])), hD.fr (by intros; first | rfl | (rw [hs _ (by simp) (by simp) (by simp) (by simp)]) | (rw [ht _ (by simp) (by simp) (by simp)])) (by intros; first | rfl | (rw [hs _ (by simp) (by simp) (by simp) (by simp)]) | (rw [ht _ (by simp) (by simp) (by simp)])), hE.fr (by intros; first | rfl | (rw [hs _ (by simp) (by simp) (by simp) (by simp)]) | (rw [ht _ (by simp) (by simp) (by simp)])) (by intros; first | rfl | (rw [hs _ (by simp) (by simp) (by simp) (by simp)]) | (rw [ht _ (by simp) (by simp) (by simp)])), hF.fr (by intros; first | rfl | (rw [hs _ (by simp) (by simp) (by simp) (by simp)]) | (rw [ht _ (by simp) (by simp) (by simp)])) (by intros; first | rfl | (rw [hs _ (by simp) (by simp) (by simp) (by simp)]) | (rw [ht _ (by simp) (by simp) (by simp)])), hG.fr (by intros; first | rfl | (rw [hs _ (by simp) (by simp) (by simp) (by simp)]) | (rw [ht _ (by simp) (by simp) (by simp)])) (by intros; first | rfl | (rw [hs _ (by simp) (by simp) (by simp) (by simp)]) | (rw [ht _ (by simp) (by simp) (by simp)])), hH.fr (by intros; first | rfl | (rw [hs _ (by simp) (by simp) (by simp) (by simp)]) | (rw [ht _ (by simp) (by simp) (by simp)])) (by intros; first | rfl | (rw [hs _ (by simp) (by simp) (by simp) (by simp)]) | (rw [ht _ (by simp) (by simp) (by simp)])), hI.fr (by intros; first | rfl | (rw [hs _ (by simp) (by simp) (by simp) (by simp)]) | (rw [ht _ (by simp) (by simp) (by simp)])) (by intros; first | rfl | (rw [hs _ (by simp) (by simp) (by simp) (by simp)]) | (rw [ht _ (by simp) (by simp) (by simp)])), hJ.fr (by intros; first | rfl | (rw [hs _ (by simp) (by simp) (by simp) (by simp)]) | (rw [ht _ (by simp) (by simp) (by simp)])) (by intros; first | rfl | (rw [hs _ (by simp) (by simp) (by simp) (by simp)]) | (rw [ht _ (by simp) (by simp) (by simp)])), hK.fr (by intros; first | rfl | (rw [hs _ (by simp) (by simp) (by simp) (by simp)]) | (rw [ht _ (by simp) (by simp) (by simp)])) (by intros; first | rfl | (rw [hs _ (by simp) (by simp) (by simp) (by simp)]) | (rw [ht _ (by simp) (by simp) (by simp)])), hL.fr (by intros; first | rfl | (rw [hs _ (by simp) (by simp) (by simp) (by simp)]) | (rw [ht _ (by simp) (by simp) (by simp)])) (by intros; first | rfl | (rw [hs _ (by simp) (by simp) (by simp) (by simp)]) | (rw [ht _ (by simp) (by simp) (by simp)])), hM.fr (by intros; first | rfl | (rw [hs _ (by simp) (by simp) (by simp) (by simp)]) | (rw [ht _ (by simp) (by simp) (by simp)])), ?_, ?_, ?_, ?_, hO2.fr (by intros; first | rfl | (rw [hs _ (by simp) (by simp) (by simp) (by simp)]) | (rw [ht _ (by simp) (by simp) (by simp)])) (by intros; first | rfl | (rw [hs _ (by simp) (by simp) (by simp) (by simp)]) | (rw [ht _ (by simp) (by simp) (by simp)]))⟩
  · exact hN1n
  · intro i hi j hj g
    rw [hrc] at g
    rw [eo_K (by omega) w x y hj 12 (Or.inl rfl), if_neg (fun z => by obtain ⟨rfl, rfl⟩ := z; omega)]
    exact hN2 i hi j hj g
  · exact hN3n
  · intro v hv i hi hp
    have z : re_z ρ v = re_z σ v := by unfold re_z; rw [hs _ (by simp) (by simp) (by simp) (by simp)]
    rw [z] at hi
    obtain ⟨o1, o2, o3, o4, o5⟩ := hO1 v hv i hi hp
    have z1 : re_lc ρ v i = re_lc σ v i := by unfold re_lc; rw [hs _ (by simp) (by simp) (by simp) (by simp)]
    have z2 : re_lq ρ v i = re_lq σ v i := by unfold re_lq; rw [hs _ (by simp) (by simp) (by simp) (by simp)]
    have z3 : re_lq σ v i < 513 := vi_lt o2
    rw [z1, z2, hs _ (by simp) (by simp) (by simp) (by simp), hrc, eo_K (by omega) w x y (by omega) 12 (Or.inl rfl), if_neg (hP v hv i hi hp)]
    exact ⟨o1, o2, o3, o4, o5⟩

/-- a torn tap more -/
theorem st_torn (h : re_all n σ τ) : re_all n (fw_st σ (0, 0, 0) 7 (σ (0, 0, 0) 7 + 1)) (fw_st τ (0, 0, 0) 12 (τ (0, 0, 0) 12 + 1)) := by
  obtain ⟨hA, hB, hC, hD, hE, hF, hG, hH, hI, hJ, hK, hL, hM, hN1, hN2, hN3, hO1, hO2⟩ := h
  refine ⟨hA.fr (by intros; first | rfl | (simp only [fw_st_at]; simp) | simp [fw_st_off]) (by intros; first | rfl | (simp only [fw_st_at]; simp) | simp [fw_st_off]), ?_, hC.fr (by intros; first | rfl | (simp only [fw_st_at]; simp) | simp [fw_st_off]) (by intros; first | rfl | (simp only [fw_st_at]; simp) | simp [fw_st_off]), hD.fr (by intros; first | rfl | (simp only [fw_st_at]; simp) | simp [fw_st_off]) (by intros; first | rfl | (simp only [fw_st_at]; simp) | simp [fw_st_off]), hE.fr (by intros; first | rfl | (simp only [fw_st_at]; simp) | simp [fw_st_off]) (by intros; first | rfl | (simp only [fw_st_at]; simp) | simp [fw_st_off]), hF.fr (by intros; first | rfl | (simp only [fw_st_at]; simp) | simp [fw_st_off]) (by intros; first | rfl | (simp only [fw_st_at]; simp) | simp [fw_st_off]), hG.fr (by intros; first | rfl | (simp only [fw_st_at]; simp) | simp [fw_st_off]) (by intros; first | rfl | (simp only [fw_st_at]; simp) | simp [fw_st_off]), hH.fr (by intros; first | rfl | (simp only [fw_st_at]; simp) | simp [fw_st_off]) (by intros; first | rfl | (simp only [fw_st_at]; simp) | simp [fw_st_off]), hI.fr (by intros; first | rfl | (simp only [fw_st_at]; simp) | simp [fw_st_off]) (by intros; first | rfl | (simp only [fw_st_at]; simp) | simp [fw_st_off]), hJ.fr (by intros; first | rfl | (simp only [fw_st_at]; simp) | simp [fw_st_off]) (by intros; first | rfl | (simp only [fw_st_at]; simp) | simp [fw_st_off]), hK.fr (by intros; first | rfl | (simp only [fw_st_at]; simp) | simp [fw_st_off]) (by intros; first | rfl | (simp only [fw_st_at]; simp) | simp [fw_st_off]), hL.fr (by intros; first | rfl | (simp only [fw_st_at]; simp) | simp [fw_st_off]) (by intros; first | rfl | (simp only [fw_st_at]; simp) | simp [fw_st_off]), hM.fr (by intros; first | rfl | (simp only [fw_st_at]; simp) | simp [fw_st_off]), hN1.fr (by intros; first | rfl | (simp only [fw_st_at]; simp) | simp [fw_st_off]) (by intros; first | rfl | (simp only [fw_st_at]; simp) | simp [fw_st_off]) (by intros; first | rfl | (simp only [fw_st_at]; simp) | simp [fw_st_off]) (by intros; first | rfl | (simp only [fw_st_at]; simp) | simp [fw_st_off]) (by intros; first | rfl | (simp only [fw_st_at]; simp) | simp [fw_st_off]) (by intros; first | rfl | (simp only [fw_st_at]; simp) | simp [fw_st_off]), hN2.fr (by intros; first | rfl | (simp only [fw_st_at]; simp) | simp [fw_st_off]) (by intros; first | rfl | (simp only [fw_st_at]; simp) | simp [fw_st_off]), hN3.fr (by intros; first | rfl | (simp only [fw_st_at]; simp) | simp [fw_st_off]) (by intros; first | rfl | (simp only [fw_st_at]; simp) | simp [fw_st_off]) (by intros; first | rfl | (simp only [fw_st_at]; simp) | simp [fw_st_off]), hO1.fr (by intros; first | rfl | (simp only [fw_st_at]; simp) | simp [fw_st_off]) (by intros; first | rfl | (simp only [fw_st_at]; simp) | simp [fw_st_off]) (by intros; first | rfl | (simp only [fw_st_at]; simp) | simp [fw_st_off]) (by intros; first | rfl | (simp only [fw_st_at]; simp) | simp [fw_st_off]), hO2.fr (by intros; first | rfl | (simp only [fw_st_at]; simp) | simp [fw_st_off]) (by intros; first | rfl | (simp only [fw_st_at]; simp) | simp [fw_st_off])⟩
  · unfold re_B at hB ⊢
    simp only [fw_st_at, and_self, if_true]
    rw [hB]

/-- an entry more in a log -/
def lg_c (σ : fw_S) (v m : Nat) (a b c d : Int32) : fw_S := fw_st (fw_st (fw_st (fw_st (fw_st σ (20, v, m) 0 a) (20, v, m) 1 b) (20, v, m) 2 c) (20, v, m) 3 d) (12, v, 0) 1 (σ (12, v, 0) 1 + 1)
def lg_m (τ : fw_S) (v m : Nat) (a b c d : Int32) : fw_S := fw_st (fw_st (fw_st (fw_st (fw_st τ (7, 0, 0) (32 * v + 4 * m) a) (7, 0, 0) (32 * v + 4 * m + 1) b) (7, 0, 0) (32 * v + 4 * m + 2) c) (7, 0, 0) (32 * v + 4 * m + 3) d) (8, 0, 0) v (τ (8, 0, 0) v + 1)
theorem lg_20 (σ : fw_S) (v m : Nat) (a b c d : Int32) (w i p : Nat) (hp : p < 4) : lg_c σ v m a b c d (20, w, i) p = if w = v ∧ i = m then (if p = 0 then a else if p = 1 then b else if p = 2 then c else d) else σ (20, w, i) p := by
  have hp' : p = 0 ∨ p = 1 ∨ p = 2 ∨ p = 3 := by omega
  unfold lg_c
  by_cases e : w = v ∧ i = m
  · obtain ⟨rfl, rfl⟩ := e
    rcases hp' with rfl | rfl | rfl | rfl <;> simp [fw_st_at]
  · simp only [fw_st_at, Prod.mk.injEq, true_and, e, false_and, if_false]
    simp
theorem lg_7 (τ : fw_S) {v m : Nat} (a b c d : Int32) {w i p : Nat} (hm : m < 8) (hi : i < 8) (hp : p < 4) : lg_m τ v m a b c d (7, 0, 0) (32 * w + 4 * i + p) = if w = v ∧ i = m then (if p = 0 then a else if p = 1 then b else if p = 2 then c else d) else τ (7, 0, 0) (32 * w + 4 * i + p) := by
  have hp' : p = 0 ∨ p = 1 ∨ p = 2 ∨ p = 3 := by omega
  unfold lg_m
  by_cases e : w = v ∧ i = m
  · obtain ⟨rfl, rfl⟩ := e
    rcases hp' with rfl | rfl | rfl | rfl <;> simp [fw_st_at]
  · have g0 : ¬ 32 * w + 4 * i + p = 32 * v + 4 * m := by omega
    have g1 : ¬ 32 * w + 4 * i + p = 32 * v + 4 * m + 1 := by omega
    have g2 : ¬ 32 * w + 4 * i + p = 32 * v + 4 * m + 2 := by omega
    have g3 : ¬ 32 * w + 4 * i + p = 32 * v + 4 * m + 3 := by omega
    simp only [fw_st_at, e, g0, g1, g2, g3, and_false, if_false]
    simp
theorem st_log (h : re_all n σ τ) {v m k q : Nat} (hv : v < 4) (hm : m < 8) (hz : re_z σ v = m) (hk : k < 4) (hq1 : 1 ≤ q) (hq : q ≤ 512) (hqc : q ≤ re_c σ k) (h0 : τ (12, 0, 0) (520 * k + q) = 0) (hP : ∀ w, w < 4 → ∀ i, i < re_z σ w → ¬ (re_lc σ w i = k ∧ re_lq σ w i = q)) (x y : Int32) : re_all n (lg_c σ v m (nI k) (nI q) x y) (lg_m τ v m (nI k) (nI q) x y) := by
  have s20 := fun w i p hp => lg_20 σ v m (nI k) (nI q) x y w i p hp
  have t7 := fun {w i p : Nat} (hi : i < 8) (hp : p < 4) => lg_7 τ (v := v) (nI k) (nI q) x y (w := w) hm hi hp
  have s12 : ∀ i j, j ≠ 1 → lg_c σ v m (nI k) (nI q) x y (12, i, 0) j = σ (12, i, 0) j := fun i j hj => by unfold lg_c; simp [fw_st_at, hj]
  have s1 : ∀ i, lg_c σ v m (nI k) (nI q) x y (12, i, 0) 1 = if i = v then σ (12, v, 0) 1 + 1 else σ (12, i, 0) 1 := fun i => by unfold lg_c; simp [fw_st_at]
  have t8 : ∀ i, lg_m τ v m (nI k) (nI q) x y (8, 0, 0) i = if i = v then τ (8, 0, 0) v + 1 else τ (8, 0, 0) i := fun i => by unfold lg_m; simp [fw_st_at]
  have hs : ∀ u : fw_T, u.1 ≠ 12 → u.1 ≠ 20 → lg_c σ v m (nI k) (nI q) x y u = σ u := fun u a b => by
    unfold lg_c
    rw [fw_st_off a, fw_st_off b, fw_st_off b, fw_st_off b, fw_st_off b]
  have ht : ∀ u : fw_T, u.1 ≠ 7 → u.1 ≠ 8 → lg_m τ v m (nI k) (nI q) x y u = τ u := fun u a b => by
    unfold lg_m
    rw [fw_st_off b, fw_st_off a, fw_st_off a, fw_st_off a, fw_st_off a]
  have hv1 := h.2.2.2.2.2.2.2.1 v hv
  have hsz : σ (12, v, 0) 1 = nI m := by
    obtain ⟨j, hj, e⟩ := vp_in_of (hv1.1 ▸ hv1.2) (by omega)
    rw [e]
    unfold re_z at hz
    rw [e, nI_clamp (by omega)] at hz
    rw [hz]
  generalize lg_c σ v m (nI k) (nI q) x y = ρ at *
  generalize lg_m τ v m (nI k) (nI q) x y = π at *
  have hrc : ∀ i, re_c ρ i = re_c σ i := re_c_fr (fun i j => hs _ (by simp) (by simp))
  have hzz : ∀ i, re_z ρ i = if i = v then m + 1 else re_z σ i := fun i => by
    unfold re_z
    rw [s1]
    by_cases e : i = v
    · rw [if_pos e, if_pos e, hsz, ← nI_succ, nI_clamp (by omega)]
    · rw [if_neg e, if_neg e]
  have hlc : ∀ w i, re_lc ρ w i = if w = v ∧ i = m then k else re_lc σ w i := fun w i => by
    unfold re_lc
    rw [s20 w i 0 (by omega)]
    by_cases e : w = v ∧ i = m
    · rw [if_pos e, if_pos e, if_pos rfl, nI_clamp (by omega)]
    · rw [if_neg e, if_neg e]
  have hlq : ∀ w i, re_lq ρ w i = if w = v ∧ i = m then q else re_lq σ w i := fun w i => by
    unfold re_lq
    rw [s20 w i 1 (by omega)]
    by_cases e : w = v ∧ i = m
    · rw [if_pos e, if_pos e, if_neg (by decide), if_pos rfl, nI_clamp (by omega)]
    · rw [if_neg e, if_neg e]
  have hold : ∀ w i, i < re_z ρ w → ¬ (w = v ∧ i = m) → i < re_z σ w := fun w i hi e => by
    rw [hzz] at hi
    by_cases g : w = v
    · subst g
      rw [if_pos rfl] at hi
      rw [hz]
      have : ¬ i = m := fun q => e ⟨rfl, q⟩
      omega
    · rw [if_neg g] at hi
      exact hi
  obtain ⟨hA, hB, hC, hD, hE, hF, hG, hH, hI, hJ, hK, hL, hM, hN1, hN2, hN3, hO1, hO2⟩ := h
  refine ⟨hA.fr (by intros; first | rfl | (rw [hs _ (by simp) (by simp)]) | (rw [ht _ (by simp) (by simp)])) (by intros; first | rfl | (rw [hs _ (by simp) (by simp)]) | (rw [ht _ (by simp) (by simp)])), hB.fr (by intros; first | rfl | (rw [hs _ (by simp) (by simp)]) | (rw [ht _ (by simp) (by simp)])) (by intros; first | rfl | (rw [hs _ (by simp) (by simp)]) | (rw [ht _ (by simp) (by simp)])), hC.fr (by intros; first | rfl | (rw [hs _ (by simp) (by simp)]) | (rw [ht _ (by simp) (by simp)])) (by intros; first | rfl | (rw [hs _ (by simp) (by simp)]) | (rw [ht _ (by simp) (by simp)])), hD.fr (by intros; first | rfl | (rw [hs _ (by simp) (by simp)]) | (rw [ht _ (by simp) (by simp)])) (by intros; first | rfl | (rw [hs _ (by simp) (by simp)]) | (rw [ht _ (by simp) (by simp)])), hE.fr (by intros; first | rfl | (rw [hs _ (by simp) (by simp)]) | (rw [ht _ (by simp) (by simp)])) (by intros; first | rfl | (rw [hs _ (by simp) (by simp)]) | (rw [ht _ (by simp) (by simp)])), ?_, ?_, ?_, ?_, ?_, hK.fr (by intros; first | rfl | (rw [hs _ (by simp) (by simp)]) | (rw [ht _ (by simp) (by simp)])) (by intros; first | rfl | (rw [hs _ (by simp) (by simp)]) | (rw [ht _ (by simp) (by simp)])), hL.fr (by intros; first | rfl | (rw [hs _ (by simp) (by simp)]) | (rw [ht _ (by simp) (by simp)])) (by intros; first | rfl | (rw [hs _ (by simp) (by simp)]) | (rw [ht _ (by simp) (by simp)])), hM.fr (by intros; first | rfl | (rw [hs _ (by simp) (by simp)]) | (rw [ht _ (by simp) (by simp)])), hN1.fr (by intros; first | rfl | (rw [hs _ (by simp) (by simp)]) | (rw [ht _ (by simp) (by simp)])) (by intros; first | rfl | (rw [hs _ (by simp) (by simp)]) | (rw [ht _ (by simp) (by simp)])) (by intros; first | rfl | (rw [hs _ (by simp) (by simp)]) | (rw [ht _ (by simp) (by simp)])) (by intros; first | rfl | (rw [hs _ (by simp) (by simp)]) | (rw [ht _ (by simp) (by simp)])) (by intros; first | rfl | (rw [hs _ (by simp) (by simp)]) | (rw [ht _ (by simp) (by simp)])) (by intros; first | rfl | (rw [hs _ (by simp) (by simp)]) | (rw [ht _ (by simp) (by simp)])), hN2.fr (by intros; first | rfl | (rw [hs _ (by simp) (by simp)]) | (rw [ht _ (by simp) (by simp)])) (by intros; first | rfl | (rw [hs _ (by simp) (by simp)]) | (rw [ht _ (by simp) (by simp)])), hN3.fr (by intros; first | rfl | (rw [hs _ (by simp) (by simp)]) | (rw [ht _ (by simp) (by simp)])) (by intros; first | rfl | (rw [hs _ (by simp) (by simp)]) | (rw [ht _ (by simp) (by simp)])) (by intros; first | rfl | (rw [hs _ (by simp) (by simp)]) | (rw [ht _ (by simp) (by simp)])), ?_, ?_⟩
  · exact hF.fr (fun i _ => s12 i 2 (by omega)) (ht _ (by simp) (by simp))
  · exact hG.fr (fun i _ => s12 i 3 (by omega)) (ht _ (by simp) (by simp))
  · intro w hw
    rw [s1, t8]
    by_cases e : w = v
    · rw [if_pos e, if_pos e, ← hv1.1, hsz, ← nI_succ]
      exact ⟨rfl, vp_in_nI (by omega) (by omega)⟩
    · rw [if_neg e, if_neg e]
      exact hH w hw
  · intro w hw i hi p hp
    rw [s20 w i p hp, t7 hi hp, hI w hw i hi p hp]
  · exact hJ.fr (fun i _ => s12 i 4 (by omega)) (ht _ (by simp) (by simp))
  · intro w hw i hi
    rw [hlc, hlq, hrc, s20 w i 0 (by omega), s20 w i 1 (by omega), ht _ (by simp) (by simp)]
    by_cases e : w = v ∧ i = m
    · simp only [if_pos e]
      exact ⟨vp_in_nI hk (by omega), vp_in_nI (by omega) (by omega), hq1, hqc, h0⟩
    · simp only [if_neg e]
      exact hO1 w hw i (hold w i hi e)
  · intro w hw i hi w2 hw2 j hj
    rw [hlc, hlq, hlc, hlq]
    by_cases e : w = v ∧ i = m
    · by_cases g : w2 = v ∧ j = m
      · intro _ _
        exact ⟨e.1.trans g.1.symm, e.2.trans g.2.symm⟩
      · simp only [if_pos e, if_neg g]
        intro a b
        exact absurd ⟨a.symm, b.symm⟩ (hP w2 hw2 j (hold w2 j hj g))
    · by_cases g : w2 = v ∧ j = m
      · simp only [if_neg e, if_pos g]
        intro a b
        exact absurd ⟨a, b⟩ (hP w hw i (hold w i hi e))
      · simp only [if_neg e, if_neg g]
        exact hO2 w hw i (hold w i hi e) w2 hw2 j (hold w2 j hj g)

end STP

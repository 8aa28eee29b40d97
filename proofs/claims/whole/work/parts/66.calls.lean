section CAL
variable {n : Nat} {σ τ : fw_S}
theorem ch_eo (τ : fw_S) (k q W : Nat) (hW : W ≤ 8) (w x y : Int32) : ms_change (ms_enterOffice τ k q w x y) k W = ms_enterOffice (ms_change τ k W) k q w x y := by
  have f : ∀ u : fw_T, u.1 ≠ 12 → u.1 ≠ 13 → u.1 ≠ 14 → ms_enterOffice τ k q w x y u = τ u := fun u a b c => fr_enterOffice _ _ _ _ _ _ u a b c
  have g3 := f (3, 0, 0) (by simp) (by simp) (by simp)
  have g0 := f (0, 0, 0) (by simp) (by simp) (by simp)
  have g4 := f (4, 0, 0) (by simp) (by simp) (by simp)
  have key : ∀ (z : Nat) (s : Int32), ms_change_lp W z (8 + 1) 0 (fw_st (ms_enterOffice τ k q w x y) (4, 0, 0) 7 s) = ms_enterOffice (ms_change_lp W z (8 + 1) 0 (fw_st τ (4, 0, 0) 7 s)) k q w x y := fun z s => by
    funext u j
    rw [ch_lp z W hW u j 9 0 _ (by omega) (by omega)]
    by_cases e3 : u.1 = 12 ∨ u.1 = 13 ∨ u.1 = 14
    · have n3 : u.1 ≠ 3 := by omega
      have n4 : u.1 ≠ 4 := by omega
      rw [if_neg (fun q => n3 (by rw [q.1])), fw_st_off n4]
      have e : ∀ u : fw_T, u.1 ≠ 3 → u.1 ≠ 4 → ms_change_lp W z (8 + 1) 0 (fw_st τ (4, 0, 0) 7 s) u = τ u := fun u a b => by rw [fr_change_lp z W u a, fw_st_off b]
      simp only [ms_enterOffice, ms_enterOffice_s1, ms_enterOffice_s2, ms_enterOffice_s3, fw_st_at, e u n3 n4]
    · have n12 : u.1 ≠ 12 := by omega
      have n13 : u.1 ≠ 13 := by omega
      have n14 : u.1 ≠ 14 := by omega
      rw [fr_enterOffice _ _ _ _ _ _ u n12 n13 n14, ch_lp z W hW u j 9 0 _ (by omega) (by omega)]
      simp only [fw_st_at, g4, f u n12 n13 n14]
  unfold ms_change ms_change_s1
  rw [mb_frame g3, ct_frame g3, g0, key, key]
  by_cases c : mb τ k % 16 = 0
  · rw [if_pos c, if_pos c]
  · rw [if_neg c, if_neg c]
theorem ds_eq (hE : re_E σ τ) {k : Nat} (hk : k < 4) {t : Int32} (ht : t = τ (0, 0, 0) 2) (j : Nat) (hj : j < 7) : cs_startDraft σ k t (14, k, 0) j = ms_load τ k (4, 0, 0) j := by
  rw [sd_at σ k t j (by omega), if_neg (by omega)]
  by_cases g : j = 6
  · subst g
    rw [if_pos rfl, ld_6, sp_eq hE hk (by rw [ht])]
  · rw [if_neg g, ld_at τ k j (by omega) g, hE k hk _ (rc_lt σ k) j (by omega), mb_rc hE hk]
theorem ds_ok (hM : re_M n σ) {k : Nat} (hk : k < 4) (t : Int32) : (cs_startDraft σ k t (14, k, 0) 1 = -1 ∨ vp_in (cs_startDraft σ k t (14, k, 0) 1) 6) ∧ vp_in (cs_startDraft σ k t (14, k, 0) 3) 6 ∧ cs_startDraft σ k t (14, k, 0) 7 = (cs_counter σ k + 1) * 4096 + t / 1440 := by
  rw [sd_at σ k t 1 (by omega), sd_at σ k t 3 (by omega), sd_at σ k t 7 (by omega)]
  obtain ⟨a, b, -⟩ := hM k hk _ (rc_lt σ k)
  simp only [show ¬ (1 = 7) by decide, show ¬ (1 = 6) by decide, show ¬ (3 = 7) by decide, show ¬ (3 = 6) by decide, if_false, if_true]
  exact ⟨a, b, trivial⟩
/-! topUp -/
theorem si_topUp (h : re_all n σ τ) (hn : n + 1 ≤ 512) (a x : Int32) : (cs_topUp σ a x).1 = (ms_topUp τ a x).1 ∧ re_all (n + 1) (cs_topUp σ a x).2 (ms_topUp τ a x).2 := by
  unfold cs_topUp ms_topUp
  rw [ib_4]
  by_cases c1 : ms_in a 0 3 = 0
  · simp only [if_pos c1]; exact ⟨by trivial, re_up h⟩
  obtain ⟨k, hk, rfl⟩ := vp_in_of (in_vi c1) (n := 4) (by omega)
  have hkc : (nI k).toNatClampNeg = k := nI_clamp (by omega)
  simp only [if_neg c1, hkc]
  by_cases c2 : x < 1
  · have c4 : ms_in x 1 999 = 0 := in_0.mpr (Or.inl c2)
    simp only [if_pos c2, if_pos c4]; exact ⟨by trivial, re_up h⟩
  by_cases c3 : x ≤ 999
  case neg =>
    have c4 : ms_in x 1 999 = 0 := in_0.mpr (Or.inr (Int32.not_le.mp c3))
    simp only [if_neg c2, if_neg c3, if_pos c4]; exact ⟨by trivial, re_up h⟩
  have c4 : ¬ ms_in x 1 999 = 0 := in_n.mpr ⟨c2, c3⟩
  simp only [if_neg c2, if_pos c3, if_neg c4]
  have hE : re_E σ τ := h.2.2.2.2.1
  have hM : re_M n σ := h.2.2.2.2.2.2.2.2.2.2.2.2.1
  have l0 : ms_load τ k (4, 0, 0) 0 = cs_read σ k 0 := by rw [ld_at τ k 0 (by omega) (by omega), rd_eq hE hk (w := 0) (by decide) (by omega)]
  unfold ms_topUp_s1
  rw [l0]
  by_cases c5 : cs_read σ k 0 + x ≤ 9999
  case neg =>
    simp only [if_neg c5]; exact ⟨by trivial, re_t4 (re_up h) (fun u hu => fr_load τ k u hu)⟩
  simp only [if_pos c5]
  obtain ⟨t, t1, t2, t3⟩ := h.1
  have hσ : ∀ u : fw_T, u.1 ≠ 14 → cs_draftTopUp σ k x (σ (0, 0, 0) 5) u = σ u := fun u hu => by
    unfold cs_draftTopUp cs_draftTopUp_s1 cs_draftTopUp_s2
    rw [fw_st_off hu, fr_startDraft _ _ _ u hu]
  have hτ : ∀ u : fw_T, u.1 ≠ 4 → fw_st (ms_load τ k) (4, 0, 0) 0 (cs_read σ k 0 + x) u = τ u := fun u hu => by
    rw [fw_st_off hu, fr_load τ k u hu]
  have hds := ds_eq hE hk (t := σ (0, 0, 0) 5) (by rw [t2, t3])
  have hd : ∀ j, j < 7 → cs_draftTopUp σ k x (σ (0, 0, 0) 5) (14, k, 0) j = fw_st (ms_load τ k) (4, 0, 0) 0 (cs_read σ k 0 + x) (4, 0, 0) j := fun j hj => by
    unfold cs_draftTopUp cs_draftTopUp_s1 cs_draftTopUp_s2
    simp only [fw_st_at, true_and, hds j hj, hds 0 (by omega), l0]
  obtain ⟨o1, o2, o3⟩ := ds_ok hM hk (σ (0, 0, 0) 5)
  have hw := wr_all (W := 8) h hn hσ hτ hk (by omega) hd (by unfold cs_draftTopUp cs_draftTopUp_s1 cs_draftTopUp_s2; simpa [fw_st_at] using o1) (by unfold cs_draftTopUp cs_draftTopUp_s1 cs_draftTopUp_s2; simpa [fw_st_at] using o2) (by unfold cs_draftTopUp cs_draftTopUp_s1 cs_draftTopUp_s2; simpa [fw_st_at] using o3)
  have hc := re_c_le hM (by omega) hk
  have h8 : cs_counter (cs_writeDraft (cs_draftTopUp σ k x (σ (0, 0, 0) 5)) k 8) k = nI (re_c σ k + 1) := (hw.2 rfl).1
  have hr : cs_read (cs_writeDraft (cs_draftTopUp σ k x (σ (0, 0, 0) 5)) k 8) k 0 = cs_draftTopUp σ k x (σ (0, 0, 0) 5) (14, k, 0) 0 := (hw.2 rfl).2 0 (by omega)
  have hd0 := hd 0 (by omega)
  have hmc : ms_counter (fw_st (ms_load τ k) (4, 0, 0) 0 (cs_read σ k 0 + x)) k = nI (re_c σ k) := by
    rw [ct_frame (hτ (3, 0, 0) (by simp)), ← co_eq hE hk, hc.2]
  have hrw : re_all (n + 1) (cs_writeDraft (cs_draftTopUp σ k x (σ (0, 0, 0) 5)) k 8) (ms_change (fw_st (ms_load τ k) (4, 0, 0) 0 (cs_read σ k 0 + x)) k 8) := hw.1
  have h3' := ch_at hE hk (fw_st (ms_load τ k) (4, 0, 0) 0 (cs_read σ k 0 + x)) (hτ (3, 0, 0) (by simp)) 8 (by omega) (4, 0, 0) 0
  have f12 : ∀ u : fw_T, u.1 ≠ 3 → u.1 ≠ 4 → ms_change (fw_st (ms_load τ k) (4, 0, 0) 0 (cs_read σ k 0 + x)) k 8 u = τ u := fun u a b => by rw [fr_change _ _ _ _ a b, hτ u b]
  have f20 : ∀ u : fw_T, u.1 ≠ 14 → u.1 ≠ 19 → cs_writeDraft (cs_draftTopUp σ k x (σ (0, 0, 0) 5)) k 8 u = σ u := fun u a b => by rw [fr_writeDraft _ _ _ _ b, hσ u a]
  simp only [cs_topUp_s1, cs_topUp_s2, cs_topUp_s3, cs_topUp_s4, ms_topUp_s2, ms_topUp_s3, ms_topUp_s4, hkc, h8, hr, hmc, nI_clamp (show re_c σ k < 2 ^ 31 by omega), ch_eo _ k _ 8 (by omega)]
  generalize cs_writeDraft (cs_draftTopUp σ k x (σ (0, 0, 0) 5)) k 8 = ρ at *
  generalize fw_st (ms_load τ k) (4, 0, 0) 0 (cs_read σ k 0 + x) = τ6 at *
  generalize ms_change τ6 k 8 = π at *
  rw [← hd0]
  refine ⟨?_, ?_⟩
  · rw [fr_enterOffice _ _ _ _ _ _ (4, 0, 0) (by simp) (by simp) (by simp), h3', if_neg (fun z => by simp at z), if_neg (fun z => by simp at z), hd0]
  · refine re_oP (P := fun _ _ => True) (st_enter (re_P hrw) hk (q := re_c σ k + 1) (by omega) (by omega) ?_ (w := 2) (Or.inr rfl) ?_ ?_ (Or.inr ⟨rfl, rfl⟩)) (fun _ _ _ _ => trivial)
    · unfold re_c at h8 ⊢
      rw [h8, nI_clamp (by unfold re_c at hc; omega)]
      exact Nat.le_refl _
    · rw [f12 _ (by simp) (by simp)]
      exact h.2.2.2.2.2.2.2.2.2.2.2.2.2.2.1 k hk _ (by omega) (Or.inr (by omega))
    · intro v hv i hi _ ⟨q1, q2⟩
      have z : re_z ρ v = re_z σ v := by unfold re_z; rw [f20 _ (by simp) (by simp)]
      have z1 : re_lc ρ v i = re_lc σ v i := by unfold re_lc; rw [f20 _ (by simp) (by simp)]
      have z2 : re_lq ρ v i = re_lq σ v i := by unfold re_lq; rw [f20 _ (by simp) (by simp)]
      rw [z] at hi
      have := (h.2.2.2.2.2.2.2.2.2.2.2.2.2.2.2.2.1 v hv i hi).2.2.2.1
      rw [z1] at q1
      rw [z2] at q2
      rw [q1, q2] at this
      omega
/-! upload -/
theorem st_inc {P : Nat → Nat → Prop} (h : re_alP P n σ τ) (v : Nat) (hv : v < 4) (x : Int32) : re_alP P n (fw_st σ (5, 0, 0) v (σ (5, 0, 0) v + x)) (fw_st τ (11, 0, 0) v (τ (11, 0, 0) v + x)) := by
  obtain ⟨hA, hB, hC, hD, hE, hF, hG, hH, hI, hJ, hK, hL, hM, hN1, hN2, hN3, hO1, hO2⟩ := h
  refine ⟨hA.fr (by intros; first | rfl | (simp only [fw_st_at]; simp) | simp [fw_st_off]) (by intros; first | rfl | (simp only [fw_st_at]; simp) | simp [fw_st_off]), hB.fr (by intros; first | rfl | (simp only [fw_st_at]; simp) | simp [fw_st_off]) (by intros; first | rfl | (simp only [fw_st_at]; simp) | simp [fw_st_off]), hC.fr (by intros; first | rfl | (simp only [fw_st_at]; simp) | simp [fw_st_off]) (by intros; first | rfl | (simp only [fw_st_at]; simp) | simp [fw_st_off]), hD.fr (by intros; first | rfl | (simp only [fw_st_at]; simp) | simp [fw_st_off]) (by intros; first | rfl | (simp only [fw_st_at]; simp) | simp [fw_st_off]), hE.fr (by intros; first | rfl | (simp only [fw_st_at]; simp) | simp [fw_st_off]) (by intros; first | rfl | (simp only [fw_st_at]; simp) | simp [fw_st_off]), hF.fr (by intros; first | rfl | (simp only [fw_st_at]; simp) | simp [fw_st_off]) (by intros; first | rfl | (simp only [fw_st_at]; simp) | simp [fw_st_off]), hG.fr (by intros; first | rfl | (simp only [fw_st_at]; simp) | simp [fw_st_off]) (by intros; first | rfl | (simp only [fw_st_at]; simp) | simp [fw_st_off]), hH.fr (by intros; first | rfl | (simp only [fw_st_at]; simp) | simp [fw_st_off]) (by intros; first | rfl | (simp only [fw_st_at]; simp) | simp [fw_st_off]), hI.fr (by intros; first | rfl | (simp only [fw_st_at]; simp) | simp [fw_st_off]) (by intros; first | rfl | (simp only [fw_st_at]; simp) | simp [fw_st_off]), hJ.fr (by intros; first | rfl | (simp only [fw_st_at]; simp) | simp [fw_st_off]) (by intros; first | rfl | (simp only [fw_st_at]; simp) | simp [fw_st_off]), hK.fr (by intros; first | rfl | (simp only [fw_st_at]; simp) | simp [fw_st_off]) (by intros; first | rfl | (simp only [fw_st_at]; simp) | simp [fw_st_off]), ?_, hM.fr (by intros; first | rfl | (simp only [fw_st_at]; simp) | simp [fw_st_off]), hN1.fr (by intros; first | rfl | (simp only [fw_st_at]; simp) | simp [fw_st_off]) (by intros; first | rfl | (simp only [fw_st_at]; simp) | simp [fw_st_off]) (by intros; first | rfl | (simp only [fw_st_at]; simp) | simp [fw_st_off]) (by intros; first | rfl | (simp only [fw_st_at]; simp) | simp [fw_st_off]) (by intros; first | rfl | (simp only [fw_st_at]; simp) | simp [fw_st_off]) (by intros; first | rfl | (simp only [fw_st_at]; simp) | simp [fw_st_off]), hN2.fr (by intros; first | rfl | (simp only [fw_st_at]; simp) | simp [fw_st_off]) (by intros; first | rfl | (simp only [fw_st_at]; simp) | simp [fw_st_off]), hN3.fr (by intros; first | rfl | (simp only [fw_st_at]; simp) | simp [fw_st_off]) (by intros; first | rfl | (simp only [fw_st_at]; simp) | simp [fw_st_off]) (by intros; first | rfl | (simp only [fw_st_at]; simp) | simp [fw_st_off]), ?_, hO2.fr (by intros; first | rfl | (simp only [fw_st_at]; simp) | simp [fw_st_off]) (by intros; first | rfl | (simp only [fw_st_at]; simp) | simp [fw_st_off])⟩
  · intro w hw
    simp only [fw_st_at, true_and, hL w hw, hL v hv]
  · intro w hw i hi hp
    have e20 : ∀ i j, fw_st σ (5, 0, 0) v (σ (5, 0, 0) v + x) (20, i, j) = σ (20, i, j) := fun i j => fw_st_off (by simp)
    have e12 : ∀ i j, fw_st σ (5, 0, 0) v (σ (5, 0, 0) v + x) (12, i, j) = σ (12, i, j) := fun i j => fw_st_off (by simp)
    have e19 : ∀ i j, fw_st σ (5, 0, 0) v (σ (5, 0, 0) v + x) (19, i, j) = σ (19, i, j) := fun i j => fw_st_off (by simp)
    have t12 : fw_st τ (11, 0, 0) v (τ (11, 0, 0) v + x) (12, 0, 0) = τ (12, 0, 0) := fw_st_off (by simp)
    unfold re_z at hi
    rw [e12] at hi
    have := hO1 w hw i hi hp
    unfold re_lc re_lq at this ⊢
    rw [re_c_fr e19, e20, t12]
    exact this

theorem st_end {v m : Nat} (hv : v < 4) (h : re_alP (fun w i => w ≠ v ∨ m ≤ i) n σ τ) (hz : re_z σ v = m) : re_all n (fw_st (fw_st σ (12, v, 0) 1 0) (12, v, 0) 4 (σ (0, 0, 0) 6)) (fw_st (fw_st (fw_st (fw_st (fw_st τ (8, 0, 0) v 0) (9, 0, 0) (4 * v) (τ (10, 0, 0) 0)) (9, 0, 0) (4 * v + 1) (τ (10, 0, 0) 1)) (9, 0, 0) (4 * v + 2) (τ (10, 0, 0) 2)) (9, 0, 0) (4 * v + 3) (τ (10, 0, 0) 3)) := by
  have e20 : ∀ i j, fw_st (fw_st σ (12, v, 0) 1 0) (12, v, 0) 4 (σ (0, 0, 0) 6) (20, i, j) = σ (20, i, j) := fun i j => by rw [fw_st_off (by simp), fw_st_off (by simp)]
  have e19 : ∀ i j, fw_st (fw_st σ (12, v, 0) 1 0) (12, v, 0) 4 (σ (0, 0, 0) 6) (19, i, j) = σ (19, i, j) := fun i j => by rw [fw_st_off (by simp), fw_st_off (by simp)]
  have e1 : ∀ i, fw_st (fw_st σ (12, v, 0) 1 0) (12, v, 0) 4 (σ (0, 0, 0) 6) (12, i, 0) 1 = if i = v then 0 else σ (12, i, 0) 1 := fun i => by simp [fw_st_at]
  have zz : ∀ w i, i < re_z (fw_st (fw_st σ (12, v, 0) 1 0) (12, v, 0) 4 (σ (0, 0, 0) 6)) w → w ≠ v ∧ i < re_z σ w := fun w i hi => by
    unfold re_z at hi ⊢
    rw [e1] at hi
    by_cases e : w = v
    · rw [if_pos e] at hi
      have : (0 : Int32).toNatClampNeg = 0 := by decide
      omega
    · rw [if_neg e] at hi
      exact ⟨e, hi⟩
  obtain ⟨dk, dk1, dk2, dk3⟩ := h.2.2.2.2.2.2.2.2.2.2.1
  obtain ⟨hA, hB, hC, hD, hE, hF, hG, hH, hI, hJ, hK, hL, hM, hN1, hN2, hN3, hO1, hO2⟩ := h
  refine ⟨hA.fr (by intros; first | rfl | (simp only [fw_st_at]; simp) | simp [fw_st_off] | simp [fw_st_at]) (by intros; first | rfl | (simp only [fw_st_at]; simp) | simp [fw_st_off] | simp [fw_st_at]), hB.fr (by intros; first | rfl | (simp only [fw_st_at]; simp) | simp [fw_st_off] | simp [fw_st_at]) (by intros; first | rfl | (simp only [fw_st_at]; simp) | simp [fw_st_off] | simp [fw_st_at]), hC.fr (by intros; first | rfl | (simp only [fw_st_at]; simp) | simp [fw_st_off] | simp [fw_st_at]) (by intros; first | rfl | (simp only [fw_st_at]; simp) | simp [fw_st_off] | simp [fw_st_at]), hD.fr (by intros; first | rfl | (simp only [fw_st_at]; simp) | simp [fw_st_off] | simp [fw_st_at]) (by intros; first | rfl | (simp only [fw_st_at]; simp) | simp [fw_st_off] | simp [fw_st_at]), hE.fr (by intros; first | rfl | (simp only [fw_st_at]; simp) | simp [fw_st_off] | simp [fw_st_at]) (by intros; first | rfl | (simp only [fw_st_at]; simp) | simp [fw_st_off] | simp [fw_st_at]), hF.fr (by intros; first | rfl | (simp only [fw_st_at]; simp) | simp [fw_st_off] | simp [fw_st_at]) (by intros; first | rfl | (simp only [fw_st_at]; simp) | simp [fw_st_off] | simp [fw_st_at]), hG.fr (by intros; first | rfl | (simp only [fw_st_at]; simp) | simp [fw_st_off] | simp [fw_st_at]) (by intros; first | rfl | (simp only [fw_st_at]; simp) | simp [fw_st_off] | simp [fw_st_at]), ?_, hI.fr (by intros; first | rfl | (simp only [fw_st_at]; simp) | simp [fw_st_off] | simp [fw_st_at]) (by intros; first | rfl | (simp only [fw_st_at]; simp) | simp [fw_st_off] | simp [fw_st_at]), ?_, hK.fr (by intros; first | rfl | (simp only [fw_st_at]; simp) | simp [fw_st_off] | simp [fw_st_at]) (by intros; first | rfl | (simp only [fw_st_at]; simp) | simp [fw_st_off] | simp [fw_st_at]), hL.fr (by intros; first | rfl | (simp only [fw_st_at]; simp) | simp [fw_st_off] | simp [fw_st_at]) (by intros; first | rfl | (simp only [fw_st_at]; simp) | simp [fw_st_off] | simp [fw_st_at]), hM.fr (by intros; first | rfl | (simp only [fw_st_at]; simp) | simp [fw_st_off] | simp [fw_st_at]), hN1.fr (by intros; first | rfl | (simp only [fw_st_at]; simp) | simp [fw_st_off] | simp [fw_st_at]) (by intros; first | rfl | (simp only [fw_st_at]; simp) | simp [fw_st_off] | simp [fw_st_at]) (by intros; first | rfl | (simp only [fw_st_at]; simp) | simp [fw_st_off] | simp [fw_st_at]) (by intros; first | rfl | (simp only [fw_st_at]; simp) | simp [fw_st_off] | simp [fw_st_at]) (by intros; first | rfl | (simp only [fw_st_at]; simp) | simp [fw_st_off] | simp [fw_st_at]) (by intros; first | rfl | (simp only [fw_st_at]; simp) | simp [fw_st_off] | simp [fw_st_at]), hN2.fr (by intros; first | rfl | (simp only [fw_st_at]; simp) | simp [fw_st_off] | simp [fw_st_at]) (by intros; first | rfl | (simp only [fw_st_at]; simp) | simp [fw_st_off] | simp [fw_st_at]), hN3.fr (by intros; first | rfl | (simp only [fw_st_at]; simp) | simp [fw_st_off] | simp [fw_st_at]) (by intros; first | rfl | (simp only [fw_st_at]; simp) | simp [fw_st_off] | simp [fw_st_at]) (by intros; first | rfl | (simp only [fw_st_at]; simp) | simp [fw_st_off] | simp [fw_st_at]), ?_, ?_⟩
  · intro w hw
    have := hH w hw
    by_cases e : w = v
    · simp [fw_st_at, e]
      exact vp_in_nI (n := 0) (N := 9) (by omega) (by omega)
    · simp [fw_st_at, e]
      exact this
  · intro w hw
    by_cases e : w = v
    · subst e
      refine ⟨dk, dk1, by simp [fw_st_at, dk2], fun c hc => ?_⟩
      have hc' : c = 0 ∨ c = 1 ∨ c = 2 ∨ c = 3 := by omega
      rcases hc' with rfl | rfl | rfl | rfl <;> simp [fw_st_at, dk3]
    · obtain ⟨d, d1, d2, d3⟩ := hJ w hw
      refine ⟨d, d1, by simp [fw_st_at, e, d2], fun c hc => ?_⟩
      have g0 : ¬ 4 * w + c = 4 * v := by omega
      have g1 : ¬ 4 * w + c = 4 * v + 1 := by omega
      have g2 : ¬ 4 * w + c = 4 * v + 2 := by omega
      have g3 : ¬ 4 * w + c = 4 * v + 3 := by omega
      simp [fw_st_at, g0, g1, g2, g3, d3 c hc]
  · intro w hw i hi
    obtain ⟨z1, z2⟩ := zz w i hi
    have := hO1 w hw i z2 (Or.inl z1)
    unfold re_lc re_lq at this ⊢
    rw [re_c_fr e19, e20, fw_st_off (by simp), fw_st_off (by simp), fw_st_off (by simp), fw_st_off (by simp), fw_st_off (by simp)]
    exact this
  · intro w hw i hi w2 hw2 j hj
    have := hO2 w hw i (zz w i hi).2 w2 hw2 j (zz w2 j hj).2
    unfold re_lc re_lq at this ⊢
    rw [e20, e20]
    exact this

theorem uq_at (τ0 ρ : fw_S) {v m : Nat} (hv : v < 4) (h : τ0 (8, 0, 0) v = nI m) (hm : m ≤ 8) : ms_upload_s1 (nI v) τ0 ρ = (nI m, fw_st (fw_st (fw_st (fw_st ρ (9, 0, 0) (4 * v) (ρ (10, 0, 0) 0)) (9, 0, 0) (4 * v + 1) (ρ (10, 0, 0) 1)) (9, 0, 0) (4 * v + 2) (ρ (10, 0, 0) 2)) (9, 0, 0) (4 * v + 3) (ρ (10, 0, 0) 3)) := by
  unfold ms_upload_s1
  simp only [ms_upload_lq, ms_upload_s2, nI_clamp (show v < 2 ^ 31 by omega), h, nI_clamp (show m < 2 ^ 31 by omega), Nat.zero_add, Nat.reduceAdd, Nat.reduceLeDiff, if_false, if_true, Nat.le_refl, Nat.add_zero]
  have e : ∀ (ρ : fw_S) (j : Nat) (x : Int32), fw_st ρ (9, 0, 0) j x (10, 0, 0) = ρ (10, 0, 0) := fun ρ j x => fw_st_off (by simp)
  simp only [e]
theorem up_lp {v m : Nat} (hv : v < 4) (hm : m ≤ 8) (τ0 : fw_S) (h8 : τ0 (8, 0, 0) v = nI m) : ∀ (d j f : Nat) (σ τ : fw_S), re_alP (fun w i => w ≠ v ∨ j ≤ i) n σ τ → re_z σ v = m → j + d = m → f + j = 9 → (cs_upload_lp (nI v) (nI m) f (nI j) σ).1 = (ms_upload_lp (nI v) τ0 f j τ).1 ∧ re_all n (cs_upload_lp (nI v) (nI m) f (nI j) σ).2 (ms_upload_lp (nI v) τ0 f j τ).2
  | _, j, 0, σ, τ, h, hz, hj, hf => by omega
  | 0, j, f + 1, σ, τ, h, hz, hj, hf => by
    have : j = m := by omega
    subst this
    have hvc : (nI v).toNatClampNeg = v := nI_clamp (by omega)
    unfold cs_upload_lp ms_upload_lp
    rw [hvc, h8, nI_clamp (show j < 2 ^ 31 by omega)]
    simp only [if_pos (nI_le (Nat.le_refl j) (show j < 2 ^ 31 by omega)), if_pos (Nat.le_refl j), uq_at τ0 _ hv h8 hm, cs_upload_s2, cs_upload_s3, cs_takeDenied, cs_takeDenied_s1, cs_emptyLog, cs_emptyLog_s1, hvc]
    refine ⟨trivial, ?_⟩
    have e1 : fw_st σ (12, v, 0) 1 0 (0, 0, 0) = σ (0, 0, 0) := fw_st_off (by simp)
    have e2 : fw_st τ (8, 0, 0) v 0 (10, 0, 0) = τ (10, 0, 0) := fw_st_off (by simp)
    rw [e1, e2]
    exact st_end hv h hz
  | d + 1, j, f + 1, σ, τ, h, hz, hj, hf => by
    have hvc : (nI v).toNatClampNeg = v := nI_clamp (by omega)
    have hjc : (nI j).toNatClampNeg = j := nI_clamp (by omega)
    have hI : re_I σ τ := h.2.2.2.2.2.2.2.2.1
    obtain ⟨o1, o2, o3, o4, o5⟩ := h.2.2.2.2.2.2.2.2.2.2.2.2.2.2.2.2.1 v hv j (by omega) (Or.inr (Nat.le_refl j))
    have hO2 : re_O2 σ := h.2.2.2.2.2.2.2.2.2.2.2.2.2.2.2.2.2
    obtain ⟨c, hc, c1⟩ := vp_in_of o1 (by omega)
    obtain ⟨q, hq, q1⟩ := vp_in_of o2 (by omega)
    have lc : re_lc σ v j = c := by unfold re_lc; rw [c1, nI_clamp (by omega)]
    have lq : re_lq σ v j = q := by unfold re_lq; rw [q1, nI_clamp (by omega)]
    have i0 := hI v hv j (by omega) 0 (by omega)
    have i1 := hI v hv j (by omega) 1 (by omega)
    have i2 := hI v hv j (by omega) 2 (by omega)
    have i3 := hI v hv j (by omega) 3 (by omega)
    rw [Nat.add_zero] at i0
    unfold cs_upload_lp ms_upload_lp
    rw [hvc, h8, nI_clamp (show m < 2 ^ 31 by omega)]
    simp only [if_neg (nI_ge (show j < m by omega) (show m < 2 ^ 31 by omega)), if_neg (show ¬ m ≤ j by omega)]
    unfold cs_upload_s4 ms_upload_s3 ms_upload_s4
    rw [← i0, ← i1, ← i2, ← i3, c1, q1, nI_clamp (show c < 2 ^ 31 by omega), nI_clamp (show q < 2 ^ 31 by omega), ← nI_succ, hvc]
    have er : cs_receiveEntry σ (nI v) (nI j) = fw_st (cs_enterCharge σ c (nI q) (σ (20, v, j) 2) (σ (20, v, j) 3)) (5, 0, 0) v (cs_enterCharge σ c (nI q) (σ (20, v, j) 2) (σ (20, v, j) 3) (5, 0, 0) v + σ (20, v, j) 2) := by
      have hb : ¬ cs_isBelow (nI c) 4 = 0 := by
        unfold cs_isBelow
        rw [if_neg (nI_pos (by omega)), if_neg (show ¬ 4 ≤ nI c from nI_ge (a := c) (b := 4) hc (by omega))]
        decide
      have r0 : cs_readEntry σ v (nI j) 0 = nI c := by unfold cs_readEntry; rw [hjc]; exact c1
      have r1 : cs_readEntry σ v (nI j) 1 = nI q := by unfold cs_readEntry; rw [hjc]; exact q1
      have r2 : cs_readEntry σ v (nI j) 2 = σ (20, v, j) 2 := by unfold cs_readEntry; rw [hjc]; rfl
      have r3 : cs_readEntry σ v (nI j) 3 = σ (20, v, j) 3 := by unfold cs_readEntry; rw [hjc]; rfl
      unfold cs_receiveEntry cs_receiveEntry_s1 cs_receiveEntry_s2 cs_receiveEntry_s3 cs_receiveEntry_s4
      rw [hvc, r0, if_neg hb, r1, r2, r3, nI_clamp (show c < 2 ^ 31 by omega)]
    have em : ms_enterOffice τ c q 1 (σ (20, v, j) 2) (σ (20, v, j) 3) (7, 0, 0) (32 * v + 4 * j + 2) = σ (20, v, j) 2 := by
      rw [fr_enterOffice _ _ _ _ _ _ (7, 0, 0) (by simp) (by simp) (by simp), i2]
    rw [er, em]
    have hs := st_enter (P := fun w i => w ≠ v ∨ j + 1 ≤ i) (re_pP h (fun w i z => z.imp id (fun y => by omega))) hc (q := q) (by omega) (by omega) (by rw [← lq, ← lc]; exact o4) (w := 1) (x := σ (20, v, j) 2) (y := σ (20, v, j) 3) (Or.inl rfl) (by rw [← lq, ← lc]; exact o5)
      (fun w hw i hi hp z => by
        have := hO2 w hw i hi v hv j (by omega) (by rw [lc]; exact z.1) (by rw [lq]; exact z.2)
        rcases hp with y | y
        · exact y this.1
        · omega) (Or.inl ⟨rfl, rfl⟩)
    have hz2 : re_z (cs_enterCharge σ c (nI q) (σ (20, v, j) 2) (σ (20, v, j) 3)) v = m := by
      have has : σ (15, c, 0) q = 0 := by
        rcases h.2.2.2.2.2.2.2.2.2.2.2.2.2.1 c hc q (by omega) (by omega) with a | a | a
        · exact a.2
        · rw [← lq, ← lc, o5] at a; exact absurd a.1 (by decide)
        · rw [← lq, ← lc, o5] at a; exact absurd a.1 (by decide)
      unfold re_z at hz ⊢
      rw [ec_at (by omega) (by omega) has]
      rw [fw_st_off (by simp), fw_st_off (by simp), fw_st_off (by simp), fw_st_off (by simp), fw_st_off (by simp), fw_st_off (by simp)]
      exact hz
    exact up_lp hv hm τ0 h8 d (j + 1) f _ _ (st_inc hs v hv _) (by unfold re_z at hz2 ⊢; rw [fw_st_off (by simp)]; exact hz2) (by omega) (by omega)
theorem si_upload (h : re_all n σ τ) (a x : Int32) : (cs_upload σ a x).1 = (ms_upload τ a x).1 ∧ re_all (n + 1) (cs_upload σ a x).2 (ms_upload τ a x).2 := by
  have h := re_up h
  unfold cs_upload ms_upload
  rw [ib_4]
  by_cases c1 : ms_in a 0 3 = 0
  · simp only [if_pos c1]; exact ⟨by trivial, h⟩
  obtain ⟨v, hv, rfl⟩ := vp_in_of (in_vi c1) (n := 4) (by omega)
  simp only [if_neg c1]
  by_cases c2 : x = 0
  case neg => simp only [if_neg c2]; exact ⟨by trivial, h⟩
  simp only [if_pos c2]
  obtain ⟨h1, h2⟩ := h.2.2.2.2.2.2.2.1 v hv
  obtain ⟨m, hm, m1⟩ := vp_in_of h2 (by omega)
  unfold cs_upload_s1 cs_logSize
  rw [nI_clamp (show v < 2 ^ 31 by omega), h1, m1]
  exact up_lp hv (by omega) τ m1 m 0 9 σ τ (re_P h) (by unfold re_z; rw [h1, m1, nI_clamp (by omega)]) (by omega) (by omega)
end CAL

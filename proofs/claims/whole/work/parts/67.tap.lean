section TAP
variable {n : Nat} {σ τ : fw_S}
/-- a draft's or a next record's balance and spent, behind the charge -/
def td_c (σ : fw_S) (k : Nat) (r : Int32) : fw_S := fw_st (fw_st σ (14, k, 0) 0 (σ (14, k, 0) 0 - r)) (14, k, 0) 6 (σ (14, k, 0) 6 + r)
def td_m (τ : fw_S) (r : Int32) : fw_S := fw_st (fw_st τ (4, 0, 0) 0 (τ (4, 0, 0) 0 - r)) (4, 0, 0) 6 (τ (4, 0, 0) 6 + r)
theorem ke_at {ρ : fw_S} {v m : Nat} (hm : m < 8) (h : ρ (12, v, 0) 1 = nI m) (a b c d : Int32) : cs_keepEntry ρ v a b c d = lg_c ρ v m a b c d := by
  unfold cs_keepEntry cs_isFull
  rw [h, if_pos (show nI m < 8 from nI_lt (b := 8) hm (by omega)), if_pos rfl]
  unfold cs_keepEntry_s1 cs_keepEntry_s2 cs_keepEntry_s3 cs_keepEntry_s4 cs_keepEntry_s5 lg_c
  rw [h, nI_clamp (by omega)]
  congr 1
  simp [fw_st_at, h]
theorem mt_w (ρ : fw_S) {k v : Nat} (hk : k < 4) (hv : v < 4) (r z : Int32) : ms_tap_s31 (nI k) (nI v) 0 r z ρ = (r, lg_m ρ v (ρ (8, 0, 0) v).toNatClampNeg (nI k) z r (ρ (4, 0, 0) 0)) ∧ ms_tap_s13 (nI k) (nI v) 0 r z ρ = (r, lg_m ρ v (ρ (8, 0, 0) v).toNatClampNeg (nI k) z r (ρ (4, 0, 0) 0)) := by
  have hvc : (nI v).toNatClampNeg = v := nI_clamp (by omega)
  have hkc : (nI k).toNatClampNeg = k := nI_clamp (by omega)
  have e4 : ∀ (ρ : fw_S) (j : Nat) (x : Int32), fw_st ρ (7, 0, 0) j x (4, 0, 0) = ρ (4, 0, 0) := fun ρ j x => fw_st_off (by simp)
  have e8 : ∀ (ρ : fw_S) (j : Nat) (x : Int32), fw_st ρ (7, 0, 0) j x (8, 0, 0) = ρ (8, 0, 0) := fun ρ j x => fw_st_off (by simp)
  constructor
  · unfold ms_tap_s31
    rw [if_pos (by decide)]
    simp only [ms_tap_s32, ms_tap_s33, ms_tap_s34, ms_tap_s35, ms_tap_s36, hvc, hkc, e4, e8, lg_m]
  · unfold ms_tap_s13
    rw [if_pos (by decide)]
    simp only [ms_tap_s14, ms_tap_s15, ms_tap_s16, ms_tap_s17, ms_tap_s18, hvc, hkc, e4, e8, lg_m]
theorem mt_20 (τe : fw_S) {k v W : Nat} (hk : k < 4) (hv : v < 4) (hW : W ≤ 8) (r : Int32) : ms_tap_s20 (nI k) (nI v) (nI W) r τe = if W = 0 then (r, lg_m (ms_change (td_m τe r) k 8) v (ms_change (td_m τe r) k 8 (8, 0, 0) v).toNatClampNeg (nI k) (ms_counter (td_m τe r) k + 1) r (ms_change (td_m τe r) k 8 (4, 0, 0) 0)) else (-5, fw_st (ms_change (td_m τe r) k W) (0, 0, 0) 12 (ms_change (td_m τe r) k W (0, 0, 0) 12 + 1)) := by
  have hkc : (nI k).toNatClampNeg = k := nI_clamp (by omega)
  have e : fw_st (fw_st τe (4, 0, 0) 0 (τe (4, 0, 0) 0 - r)) (4, 0, 0) 6 (fw_st τe (4, 0, 0) 0 (τe (4, 0, 0) 0 - r) (4, 0, 0) 6 + r) = td_m τe r := by
    unfold td_m
    congr 1
  unfold ms_tap_s20 ms_tap_s21 ms_tap_s22 ms_tap_s23
  rw [e, hkc, nI_clamp (show W < 2 ^ 31 by omega)]
  by_cases g : W = 0
  · subst g
    rw [if_pos rfl, if_pos (show nI 0 = 0 from nI_0)]
    exact (mt_w _ hk hv r _).1
  · rw [if_neg g, if_neg (nI_ne0 (by omega) (by omega))]
    unfold ms_tap_s24 ms_tap_s30
    rw [if_neg (nI_nle (by omega) (by omega))]
theorem mt_2 (τe : fw_S) {k v W : Nat} (hk : k < 4) (hv : v < 4) (hW : W ≤ 8) (r : Int32) : ms_tap_s2 (nI k) (nI v) (nI W) r τe = if W = 0 then (r, lg_m (ms_change (td_m τe r) k 8) v (ms_change (td_m τe r) k 8 (8, 0, 0) v).toNatClampNeg (nI k) (ms_counter (td_m τe r) k + 1) r (ms_change (td_m τe r) k 8 (4, 0, 0) 0)) else (-5, fw_st (ms_change (td_m τe r) k W) (0, 0, 0) 12 (ms_change (td_m τe r) k W (0, 0, 0) 12 + 1)) := by
  have hkc : (nI k).toNatClampNeg = k := nI_clamp (by omega)
  have e : fw_st (fw_st τe (4, 0, 0) 0 (τe (4, 0, 0) 0 - r)) (4, 0, 0) 6 (fw_st τe (4, 0, 0) 0 (τe (4, 0, 0) 0 - r) (4, 0, 0) 6 + r) = td_m τe r := by
    unfold td_m
    congr 1
  unfold ms_tap_s2 ms_tap_s3 ms_tap_s4 ms_tap_s5
  rw [e, hkc, nI_clamp (show W < 2 ^ 31 by omega)]
  by_cases g : W = 0
  · subst g
    rw [if_pos rfl, if_pos (show nI 0 = 0 from nI_0)]
    exact (mt_w _ hk hv r _).2
  · rw [if_neg g, if_neg (nI_ne0 (by omega) (by omega))]
    unfold ms_tap_s6 ms_tap_s12
    rw [if_neg (nI_nle (by omega) (by omega))]
theorem ct_6 (σd : fw_S) {k v W : Nat} (hk : k < 4) (hv : v < 4) (hW : W ≤ 8) (r : Int32) : cs_tap_s6 (nI k) (nI v) (nI W) r σd = if W = 0 then (r, cs_keepEntry (cs_writeDraft σd k (nI 8)) v (nI k) (cs_counter (cs_writeDraft σd k (nI 8)) k) r (cs_read (cs_writeDraft σd k (nI 8)) k (nI 0))) else (-5, fw_st (cs_writeDraft σd k (nI W)) (0, 0, 0) 7 (cs_writeDraft σd k (nI W) (0, 0, 0) 7 + 1)) := by
  have hkc : (nI k).toNatClampNeg = k := nI_clamp (by omega)
  have hvc : (nI v).toNatClampNeg = v := nI_clamp (by omega)
  unfold cs_tap_s6 cs_tap_s7 cs_tap_s8 cs_tap_s9 cs_tap_s10
  rw [hkc, hvc]
  by_cases g : W = 0
  · subst g
    rw [if_pos rfl, if_pos (show nI 0 = 0 from nI_0)]
    rfl
  · rw [if_neg g, if_neg (nI_ne0 (by omega) (by omega))]
theorem ct_1 (σd : fw_S) {k v W : Nat} (hk : k < 4) (hv : v < 4) (hW : W ≤ 8) (r : Int32) : cs_tap_s1 (nI k) (nI v) (nI W) r σd = if W = 0 then (r, cs_keepEntry (cs_writeDraft σd k (nI 8)) v (nI k) (cs_counter (cs_writeDraft σd k (nI 8)) k) r (cs_read (cs_writeDraft σd k (nI 8)) k (nI 0))) else (-5, fw_st (cs_writeDraft σd k (nI W)) (0, 0, 0) 7 (cs_writeDraft σd k (nI W) (0, 0, 0) 7 + 1)) := by
  have hkc : (nI k).toNatClampNeg = k := nI_clamp (by omega)
  have hvc : (nI v).toNatClampNeg = v := nI_clamp (by omega)
  unfold cs_tap_s1 cs_tap_s2 cs_tap_s3 cs_tap_s4 cs_tap_s5
  rw [hkc, hvc]
  by_cases g : W = 0
  · subst g
    rw [if_pos rfl, if_pos (show nI 0 = 0 from nI_0)]
    rfl
  · rw [if_neg g, if_neg (nI_ne0 (by omega) (by omega))]
/-- the end of a tap: drafted alike on both sides, then written, whole or torn -/
theorem tp_end (h : re_all n σ τ) (hn : n + 1 ≤ 512) {k v W m : Nat} (hk : k < 4) (hv : v < 4) (hW : W ≤ 8) (hm : m < 8) (hsz : σ (12, v, 0) 1 = nI m) {σe τe : fw_S} {r : Int32} (hσ : ∀ u : fw_T, u.1 ≠ 14 → σe u = σ u) (hτ : ∀ u : fw_T, u.1 ≠ 4 → τe u = τ u) (hd : ∀ j, j < 7 → σe (14, k, 0) j = τe (4, 0, 0) j) (hz : σe (14, k, 0) 1 = -1 ∨ vp_in (σe (14, k, 0) 1) 6) (h3 : vp_in (σe (14, k, 0) 3) 6) (h7 : σe (14, k, 0) 7 = (cs_counter σ k + 1) * 4096 + σ (0, 0, 0) 5 / 1440)
    {x y : Int32 × fw_S} (hx : x = if W = 0 then (r, cs_keepEntry (cs_writeDraft (td_c σe k r) k (nI 8)) v (nI k) (cs_counter (cs_writeDraft (td_c σe k r) k (nI 8)) k) r (cs_read (cs_writeDraft (td_c σe k r) k (nI 8)) k (nI 0))) else (-5, fw_st (cs_writeDraft (td_c σe k r) k (nI W)) (0, 0, 0) 7 (cs_writeDraft (td_c σe k r) k (nI W) (0, 0, 0) 7 + 1)))
    (hy : y = if W = 0 then (r, lg_m (ms_change (td_m τe r) k 8) v (ms_change (td_m τe r) k 8 (8, 0, 0) v).toNatClampNeg (nI k) (ms_counter (td_m τe r) k + 1) r (ms_change (td_m τe r) k 8 (4, 0, 0) 0)) else (-5, fw_st (ms_change (td_m τe r) k W) (0, 0, 0) 12 (ms_change (td_m τe r) k W (0, 0, 0) 12 + 1))) : x.1 = y.1 ∧ re_all (n + 1) x.2 y.2 := by
  have hE : re_E σ τ := h.2.2.2.2.1
  have hM : re_M n σ := h.2.2.2.2.2.2.2.2.2.2.2.2.1
  have hc := re_c_le hM (by omega) hk
  have hσ' : ∀ u : fw_T, u.1 ≠ 14 → td_c σe k r u = σ u := fun u hu => by
    unfold td_c
    rw [fw_st_off hu, fw_st_off hu, hσ u hu]
  have hτ' : ∀ u : fw_T, u.1 ≠ 4 → td_m τe r u = τ u := fun u hu => by
    unfold td_m
    rw [fw_st_off hu, fw_st_off hu, hτ u hu]
  have hd' : ∀ j, j < 7 → td_c σe k r (14, k, 0) j = td_m τe r (4, 0, 0) j := fun j hj => by
    unfold td_c td_m
    simp only [fw_st_at, true_and, hd j hj, hd 0 (by omega), hd 6 (by omega)]
  have hz' : td_c σe k r (14, k, 0) 1 = -1 ∨ vp_in (td_c σe k r (14, k, 0) 1) 6 := by unfold td_c; simpa [fw_st_at] using hz
  have h3' : vp_in (td_c σe k r (14, k, 0) 3) 6 := by unfold td_c; simpa [fw_st_at] using h3
  have h7' : td_c σe k r (14, k, 0) 7 = (cs_counter σ k + 1) * 4096 + σ (0, 0, 0) 5 / 1440 := by unfold td_c; simpa [fw_st_at] using h7
  by_cases g : W = 0
  · rw [if_pos g] at hx hy
    rw [hx, hy]
    refine ⟨rfl, ?_⟩
    obtain ⟨hr, hw⟩ := wr_all (W := 8) h hn hσ' hτ' hk (by omega) hd' hz' h3' h7'
    obtain ⟨hcn, hrd⟩ := hw rfl
    have hmc : ms_counter (td_m τe r) k + 1 = nI (re_c σ k + 1) := by
      rw [ct_frame (hτ' (3, 0, 0) (by simp)), ← co_eq hE hk, hc.2, nI_succ]
    have hy4 : ms_change (td_m τe r) k 8 (4, 0, 0) 0 = td_m τe r (4, 0, 0) 0 := by
      rw [ch_at hE hk (td_m τe r) (hτ' (3, 0, 0) (by simp)) 8 (by omega) (4, 0, 0) 0, if_neg (fun z => by simp at z), if_neg (fun z => by simp at z)]
    have f20 : ∀ u : fw_T, u.1 ≠ 14 → u.1 ≠ 19 → cs_writeDraft (td_c σe k r) k (nI 8) u = σ u := fun u a b => by rw [fr_writeDraft _ _ _ _ b, hσ' u a]
    have f12 : ∀ u : fw_T, u.1 ≠ 3 → u.1 ≠ 4 → ms_change (td_m τe r) k 8 u = τ u := fun u a b => by rw [fr_change _ _ _ _ a b, hτ' u b]
    have hs1 : cs_writeDraft (td_c σe k r) k (nI 8) (12, v, 0) 1 = nI m := by rw [f20 _ (by simp) (by simp), hsz]
    have hs2 : (ms_change (td_m τe r) k 8 (8, 0, 0) v).toNatClampNeg = m := by
      rw [f12 _ (by simp) (by simp), ← (h.2.2.2.2.2.2.2.1 v hv).1, hsz, nI_clamp (by omega)]
    rw [ke_at hm hs1, hcn, hrd 0 (by omega), hmc, hs2, hy4, ← hd' 0 (by omega)]
    generalize cs_writeDraft (td_c σe k r) k (nI 8) = ρ at *
    generalize ms_change (td_m τe r) k 8 = π at *
    refine st_log hr hv hm (by unfold re_z; rw [hs1, nI_clamp (by omega)]) hk (by omega) (by omega) ?_ ?_ ?_ _ _
    · unfold re_c at hcn ⊢
      rw [hcn, nI_clamp (by unfold re_c at hc; omega)]
      exact Nat.le_refl _
    · rw [f12 _ (by simp) (by simp)]
      exact h.2.2.2.2.2.2.2.2.2.2.2.2.2.2.1 k hk _ (by omega) (Or.inr (by omega))
    · intro w hw i hi ⟨q1, q2⟩
      have z : re_z ρ w = re_z σ w := by unfold re_z; rw [f20 _ (by simp) (by simp)]
      have z1 : re_lc ρ w i = re_lc σ w i := by unfold re_lc; rw [f20 _ (by simp) (by simp)]
      have z2 : re_lq ρ w i = re_lq σ w i := by unfold re_lq; rw [f20 _ (by simp) (by simp)]
      rw [z] at hi
      have := (h.2.2.2.2.2.2.2.2.2.2.2.2.2.2.2.2.1 w hw i hi).2.2.2.1
      rw [z1] at q1
      rw [z2] at q2
      rw [q1, q2] at this
      omega
  · rw [if_neg g] at hx hy
    rw [hx, hy]
    exact ⟨rfl, st_torn (wr_all h hn hσ' hτ' hk hW hd' hz' h3' h7').1⟩
theorem si_tap (h : re_all n σ τ) (hn : n + 1 ≤ 512) (a b x : Int32) : (cs_tap σ a b x).1 = (ms_tap τ a b x).1 ∧ re_all (n + 1) (cs_tap σ a b x).2 (ms_tap τ a b x).2 := by
  unfold cs_tap ms_tap
  rw [ib_4, ib_4]
  by_cases c1 : ms_in a 0 3 = 0
  · simp only [if_pos c1]; exact ⟨by trivial, re_up h⟩
  by_cases c2 : ms_in b 0 3 = 0
  · simp only [if_neg c1, if_pos c2]; exact ⟨by trivial, re_up h⟩
  simp only [if_neg c1, if_neg c2, in_if]
  by_cases c3 : x < 0
  · simp only [if_pos c3]; exact ⟨by trivial, re_up h⟩
  by_cases c4 : x ≤ 8
  case neg => simp only [if_neg c3, if_neg c4]; exact ⟨by trivial, re_up h⟩
  obtain ⟨k, hk, rfl⟩ := vp_in_of (in_vi c1) (n := 4) (by omega)
  obtain ⟨v, hv, rfl⟩ := vp_in_of (in_vi c2) (n := 4) (by omega)
  obtain ⟨W, hW, rfl⟩ := nI_of2 (n := 8) (by decide) c3 c4
  have hkc : (nI k).toNatClampNeg = k := nI_clamp (by omega)
  have hvc : (nI v).toNatClampNeg = v := nI_clamp (by omega)
  simp only [if_neg c3, if_pos c4, hkc, hvc]
  have hC : re_C σ τ := h.2.2.1
  have hD : re_D σ τ := h.2.2.2.1
  have hE : re_E σ τ := h.2.2.2.2.1
  have hM : re_M n σ := h.2.2.2.2.2.2.2.2.2.2.2.2.1
  obtain ⟨f1, f2⟩ := h.2.2.2.2.2.1 v hv
  obtain ⟨g1, g2⟩ := h.2.2.2.2.2.2.1 v hv
  obtain ⟨h1, h2⟩ := h.2.2.2.2.2.2.2.1 v hv
  obtain ⟨m, hm, m1⟩ := vp_in_of h2 (by omega)
  have hsz : σ (12, v, 0) 1 = nI m := by rw [h1, m1]
  by_cases c5 : m = 8
  · have i1 : cs_isFull σ v = 1 := by unfold cs_isFull; rw [hsz, c5]; decide
    have i2 : τ (8, 0, 0) v = 8 := by rw [m1, c5]; decide
    simp only [i1, if_neg (show ¬ (1 : Int32) = 0 by decide), if_pos i2]; exact ⟨by trivial, re_up h⟩
  have i1 : cs_isFull σ v = 0 := by unfold cs_isFull; rw [hsz, if_pos (show nI m < 8 from nI_lt (b := 8) (by omega) (by omega))]
  have i2 : ¬ τ (8, 0, 0) v = 8 := by rw [m1]; exact fun z => c5 ((nI_eq (by omega) (by omega)).mp (show nI m = nI 8 from z))
  simp only [if_pos i1, if_neg i2]
  obtain ⟨d, d1, d2, d3⟩ := h.2.2.2.2.2.2.2.2.2.1 v hv
  have j1 : cs_denies σ v (nI k) = bt d k := by unfold cs_denies; rw [d2]; exact dn_is d d1 k hk
  rw [j1, d3 k hk]
  by_cases c6 : bt d k = 0
  case neg => simp only [if_neg c6]; exact ⟨by trivial, re_up h⟩
  simp only [if_pos c6]
  obtain ⟨t, t1, t2, t3⟩ := h.1
  obtain ⟨Z, hZ, z1⟩ := vp_in_of f2 (by omega)
  have fl : ∀ u : fw_T, u.1 ≠ 4 → ms_load τ k u = τ u := fun u hu => fr_load τ k u hu
  have fs : ∀ u : fw_T, u.1 ≠ 14 → cs_startDraft σ k (σ (0, 0, 0) 5) u = σ u := fun u hu => fr_startDraft _ _ _ u hu
  have l0 : ms_load τ k (4, 0, 0) 0 = cs_read σ k 0 := by rw [ld_at τ k 0 (by omega) (by omega), rd_eq hE hk (w := 0) (by decide) (by omega)]
  have hds := ds_eq hE hk (t := σ (0, 0, 0) 5) (by rw [t2, t3])
  obtain ⟨o1, o2, o3⟩ := ds_ok hM hk (σ (0, 0, 0) 5)
  have hC' : re_C (cs_startDraft σ k (σ (0, 0, 0) 5)) (ms_load τ k) := hC.fr (fs _ (by simp)) (fl _ (by simp))
  have hD' : re_D (cs_startDraft σ k (σ (0, 0, 0) 5)) (ms_load τ k) := hD.fr (fun i j => fs _ (by simp)) (fl _ (by simp))
  have hsp : ms_load τ k (4, 0, 0) 6 = ms_spent (ms_load τ k) k := by rw [ld_6, sp_frame (fl _ (by simp)) (fl _ (by simp))]
  have htm : ms_load τ k (0, 0, 0) 2 = σ (0, 0, 0) 5 := by rw [fl _ (by simp), t2, t3]
  have hzo : cs_zone (cs_startDraft σ k (σ (0, 0, 0) 5)) v = nI Z := by unfold cs_zone; rw [fs _ (by simp), f1, z1]
  have hex : cs_isExit σ v = τ (6, 0, 0) v := g1
  have hex' : cs_isExit (cs_startDraft σ k (σ (0, 0, 0) 5)) v = τ (6, 0, 0) v := by unfold cs_isExit; rw [fs _ (by simp)]; exact g1
  have hzm : (ms_load τ k (5, 0, 0) v).toNatClampNeg = Z := by rw [fl _ (by simp), z1, nI_clamp (by omega)]
  unfold ms_tap_s1
  rw [hex, hkc, hvc, hzm, fl (6, 0, 0) (by simp), fl (2, 0, 0) (by simp), l0]
  have hle : cs_least σ = τ (2, 0, 0) 4 := hC 4 (by omega)
  rw [hle]
  unfold cs_draftTap cs_draftTap_s1
  rw [hex', hzo]
  by_cases c7 : τ (6, 0, 0) v = 0
  · simp only [if_pos c7]
    by_cases c8 : τ (2, 0, 0) 4 ≤ cs_read σ k 0
    case neg => simp only [if_neg c8]; exact ⟨by trivial, re_t4 (re_up h) fl⟩
    simp only [if_pos c8]
    obtain ⟨e1, e2, e3, e4, e5⟩ := en_eq hC' hD' hZ htm hds o1 o2 hsp
    have q1 : ∀ (X : fw_S) (r : Int32), cs_draftTap_s2 k r X = (r, td_c X k r) := fun X r => by
      unfold cs_draftTap_s2 cs_draftTap_s3 cs_draftTap_s4 td_c
      simp [fw_st_at]
    rw [q1, ← e1]
    refine tp_end (r := (cs_draftEntry (cs_startDraft σ k (σ (0, 0, 0) 5)) k (nI Z) (σ (0, 0, 0) 5)).1) h hn hk hv hW (by omega) hsz (fun u hu => by rw [fr_draftEntry _ _ _ _ u hu, fs u hu]) (fun u hu => by rw [fr_enter _ _ _ u hu, fl u hu]) e2 e3 e4 (by rw [e5, o3]) (ct_6 _ hk hv hW _) (mt_20 _ hk hv hW _)
  · simp only [if_neg c7]
    obtain ⟨e1, e2, e3, e4, e5⟩ := ex_eq hC' hD' hZ htm hds o1 o2 hsp
    have q1 : ∀ (X : fw_S) (r : Int32), cs_draftTap_s5 k r X = (r, td_c X k r) := fun X r => by
      unfold cs_draftTap_s5 cs_draftTap_s6 cs_draftTap_s7 td_c
      simp [fw_st_at]
    rw [q1, ← e1]
    refine tp_end (r := (cs_draftExit (cs_startDraft σ k (σ (0, 0, 0) 5)) k (nI Z) (σ (0, 0, 0) 5)).1) h hn hk hv hW (by omega) hsz (fun u hu => by rw [fr_draftExit _ _ _ _ u hu, fs u hu]) (fun u hu => by rw [fr_leave _ _ _ u hu, fl u hu]) e2 e3 e4 (by rw [e5, o3]) (ct_1 _ hk hv hW _) (mt_2 _ hk hv hW _)
end TAP

section SI1
variable {n : Nat} {σ τ : fw_S}
theorem in_if {α : Type} {x M : Int32} (p q : α) : (if ms_in x 0 M = 0 then p else q) = if x < 0 then p else if x ≤ M then q else p := by
  by_cases c : ms_in x 0 M = 0
  · rw [if_pos c]
    rcases in_0.mp c with h | h
    · rw [if_pos h]
    · rw [if_neg (Int32.not_le.mpr h), ite_self]
  · rw [if_neg c, if_neg (in_n.mp c).1, if_pos (in_n.mp c).2]
theorem bt_if (d c : Nat) (x : Int32) : (if bt d c = 0 then x else x + 1) = x + bt d c := by
  unfold bt
  by_cases h : d.testBit c = true
  · rw [if_pos h, if_neg (by decide)]
  · rw [if_neg h, if_pos rfl, Int32.add_zero]
/-! fare -/
theorem st_fare (h : re_all n σ τ) {A B : Nat} (hA1 : A < 6) (hB1 : B < 6) (x : Int32) : re_all n (fw_st (fw_st σ (8, A, 0) B x) (8, B, 0) A x) (fw_st (fw_st τ (1, 0, 0) (6 * A + B) x) (1, 0, 0) (6 * B + A) x) := by
  obtain ⟨hA, hB, hC, hD, hE, hF, hG, hH, hI, hJ, hK, hL, hM, hN1, hN2, hN3, hO1, hO2⟩ := h
  refine ⟨hA.fr (by intros; first | rfl | simp [fw_st_off] | simp [fw_st_at]) (by intros; first | rfl | simp [fw_st_off] | simp [fw_st_at]), hB.fr (by intros; first | rfl | simp [fw_st_off] | simp [fw_st_at]) (by intros; first | rfl | simp [fw_st_off] | simp [fw_st_at]), hC.fr (by intros; first | rfl | simp [fw_st_off] | simp [fw_st_at]) (by intros; first | rfl | simp [fw_st_off] | simp [fw_st_at]), ?_, hE.fr (by intros; first | rfl | simp [fw_st_off] | simp [fw_st_at]) (by intros; first | rfl | simp [fw_st_off] | simp [fw_st_at]), hF.fr (by intros; first | rfl | simp [fw_st_off] | simp [fw_st_at]) (by intros; first | rfl | simp [fw_st_off] | simp [fw_st_at]), hG.fr (by intros; first | rfl | simp [fw_st_off] | simp [fw_st_at]) (by intros; first | rfl | simp [fw_st_off] | simp [fw_st_at]), hH.fr (by intros; first | rfl | simp [fw_st_off] | simp [fw_st_at]) (by intros; first | rfl | simp [fw_st_off] | simp [fw_st_at]), hI.fr (by intros; first | rfl | simp [fw_st_off] | simp [fw_st_at]) (by intros; first | rfl | simp [fw_st_off] | simp [fw_st_at]), hJ.fr (by intros; first | rfl | simp [fw_st_off] | simp [fw_st_at]) (by intros; first | rfl | simp [fw_st_off] | simp [fw_st_at]), hK.fr (by intros; first | rfl | simp [fw_st_off] | simp [fw_st_at]) (by intros; first | rfl | simp [fw_st_off] | simp [fw_st_at]), hL.fr (by intros; first | rfl | simp [fw_st_off] | simp [fw_st_at]) (by intros; first | rfl | simp [fw_st_off] | simp [fw_st_at]), hM.fr (by intros; first | rfl | simp [fw_st_off] | simp [fw_st_at]), hN1.fr (by intros; first | rfl | simp [fw_st_off] | simp [fw_st_at]) (by intros; first | rfl | simp [fw_st_off] | simp [fw_st_at]) (by intros; first | rfl | simp [fw_st_off] | simp [fw_st_at]) (by intros; first | rfl | simp [fw_st_off] | simp [fw_st_at]) (by intros; first | rfl | simp [fw_st_off] | simp [fw_st_at]) (by intros; first | rfl | simp [fw_st_off] | simp [fw_st_at]), hN2.fr (by intros; first | rfl | simp [fw_st_off] | simp [fw_st_at]) (by intros; first | rfl | simp [fw_st_off] | simp [fw_st_at]), hN3.fr (by intros; first | rfl | simp [fw_st_off] | simp [fw_st_at]) (by intros; first | rfl | simp [fw_st_off] | simp [fw_st_at]) (by intros; first | rfl | simp [fw_st_off] | simp [fw_st_at]), hO1.fr (by intros; first | rfl | simp [fw_st_off] | simp [fw_st_at]) (by intros; first | rfl | simp [fw_st_off] | simp [fw_st_at]) (by intros; first | rfl | simp [fw_st_off] | simp [fw_st_at]) (by intros; first | rfl | simp [fw_st_off] | simp [fw_st_at]), hO2.fr (by intros; first | rfl | simp [fw_st_off] | simp [fw_st_at]) (by intros; first | rfl | simp [fw_st_off] | simp [fw_st_at])⟩
  · intro i hi j hj
    have e1 : (6 * i + j = 6 * B + A) ↔ (i = B ∧ j = A) := by omega
    have e2 : (6 * i + j = 6 * A + B) ↔ (i = A ∧ j = B) := by omega
    simp only [fw_st_at, Prod.mk.injEq, true_and, and_true, e1, e2, hD i hi j hj]

theorem si_fare (h : re_all n σ τ) (a b x : Int32) : (cs_fare σ a b x).1 = (ms_fare τ a b x).1 ∧ re_all (n + 1) (cs_fare σ a b x).2 (ms_fare τ a b x).2 := by
  have h := re_up h
  unfold cs_fare ms_fare
  rw [ib_6, ib_6]
  by_cases c1 : ms_in a 0 5 = 0
  · simp only [if_pos c1]; exact ⟨by trivial, h⟩
  by_cases c2 : ms_in b 0 5 = 0
  · simp only [if_neg c1, if_pos c2]; exact ⟨by trivial, h⟩
  simp only [if_neg c1, if_neg c2, in_if]
  by_cases c3 : x < 0
  · simp only [if_pos c3]; exact ⟨by trivial, h⟩
  by_cases c4 : x ≤ 999
  · simp only [if_neg c3, if_pos c4]
    exact ⟨rfl, st_fare h (vi_lt (in_vi c1)) (vi_lt (in_vi c2)) x⟩
  · simp only [if_neg c3, if_neg c4]; exact ⟨by trivial, h⟩
/-! set -/
theorem st_set (h : re_all n σ τ) {A : Nat} (x : Int32) : re_all n (fw_st σ (7, 0, 0) A x) (fw_st τ (2, 0, 0) A x) := by
  obtain ⟨hA, hB, hC, hD, hE, hF, hG, hH, hI, hJ, hK, hL, hM, hN1, hN2, hN3, hO1, hO2⟩ := h
  refine ⟨hA.fr (by intros; first | rfl | simp [fw_st_off] | simp [fw_st_at]) (by intros; first | rfl | simp [fw_st_off] | simp [fw_st_at]), hB.fr (by intros; first | rfl | simp [fw_st_off] | simp [fw_st_at]) (by intros; first | rfl | simp [fw_st_off] | simp [fw_st_at]), ?_, hD.fr (by intros; first | rfl | simp [fw_st_off] | simp [fw_st_at]) (by intros; first | rfl | simp [fw_st_off] | simp [fw_st_at]), hE.fr (by intros; first | rfl | simp [fw_st_off] | simp [fw_st_at]) (by intros; first | rfl | simp [fw_st_off] | simp [fw_st_at]), hF.fr (by intros; first | rfl | simp [fw_st_off] | simp [fw_st_at]) (by intros; first | rfl | simp [fw_st_off] | simp [fw_st_at]), hG.fr (by intros; first | rfl | simp [fw_st_off] | simp [fw_st_at]) (by intros; first | rfl | simp [fw_st_off] | simp [fw_st_at]), hH.fr (by intros; first | rfl | simp [fw_st_off] | simp [fw_st_at]) (by intros; first | rfl | simp [fw_st_off] | simp [fw_st_at]), hI.fr (by intros; first | rfl | simp [fw_st_off] | simp [fw_st_at]) (by intros; first | rfl | simp [fw_st_off] | simp [fw_st_at]), hJ.fr (by intros; first | rfl | simp [fw_st_off] | simp [fw_st_at]) (by intros; first | rfl | simp [fw_st_off] | simp [fw_st_at]), hK.fr (by intros; first | rfl | simp [fw_st_off] | simp [fw_st_at]) (by intros; first | rfl | simp [fw_st_off] | simp [fw_st_at]), hL.fr (by intros; first | rfl | simp [fw_st_off] | simp [fw_st_at]) (by intros; first | rfl | simp [fw_st_off] | simp [fw_st_at]), hM.fr (by intros; first | rfl | simp [fw_st_off] | simp [fw_st_at]), hN1.fr (by intros; first | rfl | simp [fw_st_off] | simp [fw_st_at]) (by intros; first | rfl | simp [fw_st_off] | simp [fw_st_at]) (by intros; first | rfl | simp [fw_st_off] | simp [fw_st_at]) (by intros; first | rfl | simp [fw_st_off] | simp [fw_st_at]) (by intros; first | rfl | simp [fw_st_off] | simp [fw_st_at]) (by intros; first | rfl | simp [fw_st_off] | simp [fw_st_at]), hN2.fr (by intros; first | rfl | simp [fw_st_off] | simp [fw_st_at]) (by intros; first | rfl | simp [fw_st_off] | simp [fw_st_at]), hN3.fr (by intros; first | rfl | simp [fw_st_off] | simp [fw_st_at]) (by intros; first | rfl | simp [fw_st_off] | simp [fw_st_at]) (by intros; first | rfl | simp [fw_st_off] | simp [fw_st_at]), hO1.fr (by intros; first | rfl | simp [fw_st_off] | simp [fw_st_at]) (by intros; first | rfl | simp [fw_st_off] | simp [fw_st_at]) (by intros; first | rfl | simp [fw_st_off] | simp [fw_st_at]) (by intros; first | rfl | simp [fw_st_off] | simp [fw_st_at]), hO2.fr (by intros; first | rfl | simp [fw_st_off] | simp [fw_st_at]) (by intros; first | rfl | simp [fw_st_off] | simp [fw_st_at])⟩
  · intro j hj
    simp only [fw_st_at, hC j hj, true_and]

theorem ms_set_at (τ : fw_S) (a x : Int32) (h : vp_in a 5) : ms_set τ a x = if x < 0 then (-1, τ) else if x ≤ cs_most a.toNatClampNeg then (0, fw_st τ (2, 0, 0) a.toNatClampNeg x) else (-1, τ) := by
  obtain ⟨A, hA, rfl⟩ := vp_in_of h (by omega)
  have hA' : A = 0 ∨ A = 1 ∨ A = 2 ∨ A = 3 ∨ A = 4 := by omega
  unfold ms_set ms_set_s1 ms_set_s2 ms_set_s3 ms_set_s4
  rcases hA' with rfl | rfl | rfl | rfl | rfl
  · rw [if_neg (by decide), if_neg (by decide), in_if]; rfl
  · rw [if_neg (by decide), if_neg (by decide), in_if]; rfl
  · rw [if_neg (by decide), if_pos (by decide), if_pos (by decide), in_if]; rfl
  · rw [if_neg (by decide), if_pos (by decide), if_neg (by decide), if_pos (by decide), in_if]; rfl
  · rw [if_neg (by decide), if_pos (by decide), if_neg (by decide), if_neg (by decide), in_if]; rfl
theorem si_set (h : re_all n σ τ) (a x : Int32) : (cs_set σ a x).1 = (ms_set τ a x).1 ∧ re_all (n + 1) (cs_set σ a x).2 (ms_set τ a x).2 := by
  have h := re_up h
  by_cases c1 : ms_in a 0 4 = 0
  · unfold cs_set ms_set
    rw [ib_5]
    simp only [if_pos c1]; exact ⟨by trivial, h⟩
  rw [ms_set_at τ a x (in_vi c1)]
  unfold cs_set
  rw [ib_5]
  simp only [if_neg c1]
  by_cases c3 : x < 0
  · simp only [if_pos c3]; exact ⟨by trivial, h⟩
  by_cases c4 : x ≤ cs_most a.toNatClampNeg
  · simp only [if_neg c3, if_pos c4]
    exact ⟨rfl, st_set h x⟩
  · simp only [if_neg c3, if_neg c4]; exact ⟨by trivial, h⟩
/-! place -/
theorem st_place (h : re_all n σ τ) {V : Nat} (z x : Int32) (hz : vp_in z 6) (hx : x = 0 ∨ x = 1) : re_all n (fw_st (fw_st σ (12, V, 0) 2 z) (12, V, 0) 3 x) (fw_st (fw_st τ (5, 0, 0) V z) (6, 0, 0) V x) := by
  obtain ⟨hA, hB, hC, hD, hE, hF, hG, hH, hI, hJ, hK, hL, hM, hN1, hN2, hN3, hO1, hO2⟩ := h
  refine ⟨hA.fr (by intros; first | rfl | simp [fw_st_off] | simp [fw_st_at]) (by intros; first | rfl | simp [fw_st_off] | simp [fw_st_at]), hB.fr (by intros; first | rfl | simp [fw_st_off] | simp [fw_st_at]) (by intros; first | rfl | simp [fw_st_off] | simp [fw_st_at]), hC.fr (by intros; first | rfl | simp [fw_st_off] | simp [fw_st_at]) (by intros; first | rfl | simp [fw_st_off] | simp [fw_st_at]), hD.fr (by intros; first | rfl | simp [fw_st_off] | simp [fw_st_at]) (by intros; first | rfl | simp [fw_st_off] | simp [fw_st_at]), hE.fr (by intros; first | rfl | simp [fw_st_off] | simp [fw_st_at]) (by intros; first | rfl | simp [fw_st_off] | simp [fw_st_at]), ?_, ?_, hH.fr (by intros; first | rfl | simp [fw_st_off] | simp [fw_st_at]) (by intros; first | rfl | simp [fw_st_off] | simp [fw_st_at]), hI.fr (by intros; first | rfl | simp [fw_st_off] | simp [fw_st_at]) (by intros; first | rfl | simp [fw_st_off] | simp [fw_st_at]), hJ.fr (by intros; first | rfl | simp [fw_st_off] | simp [fw_st_at]) (by intros; first | rfl | simp [fw_st_off] | simp [fw_st_at]), hK.fr (by intros; first | rfl | simp [fw_st_off] | simp [fw_st_at]) (by intros; first | rfl | simp [fw_st_off] | simp [fw_st_at]), hL.fr (by intros; first | rfl | simp [fw_st_off] | simp [fw_st_at]) (by intros; first | rfl | simp [fw_st_off] | simp [fw_st_at]), hM.fr (by intros; first | rfl | simp [fw_st_off] | simp [fw_st_at]), hN1.fr (by intros; first | rfl | simp [fw_st_off] | simp [fw_st_at]) (by intros; first | rfl | simp [fw_st_off] | simp [fw_st_at]) (by intros; first | rfl | simp [fw_st_off] | simp [fw_st_at]) (by intros; first | rfl | simp [fw_st_off] | simp [fw_st_at]) (by intros; first | rfl | simp [fw_st_off] | simp [fw_st_at]) (by intros; first | rfl | simp [fw_st_off] | simp [fw_st_at]), hN2.fr (by intros; first | rfl | simp [fw_st_off] | simp [fw_st_at]) (by intros; first | rfl | simp [fw_st_off] | simp [fw_st_at]), hN3.fr (by intros; first | rfl | simp [fw_st_off] | simp [fw_st_at]) (by intros; first | rfl | simp [fw_st_off] | simp [fw_st_at]) (by intros; first | rfl | simp [fw_st_off] | simp [fw_st_at]), hO1.fr (by intros; first | rfl | simp [fw_st_off] | simp [fw_st_at]) (by intros; first | rfl | simp [fw_st_off] | simp [fw_st_at]) (by intros; first | rfl | simp [fw_st_off] | simp [fw_st_at]) (by intros; first | rfl | simp [fw_st_off] | simp [fw_st_at]), hO2.fr (by intros; first | rfl | simp [fw_st_off] | simp [fw_st_at]) (by intros; first | rfl | simp [fw_st_off] | simp [fw_st_at])⟩
  · intro v hv
    have h1 := hF v hv
    by_cases e : v = V <;> simp [fw_st_at, e, hz]
    exact h1
  · intro v hv
    have h1 := hG v hv
    by_cases e : v = V <;> simp [fw_st_at, e, hx]
    exact h1

theorem si_place (h : re_all n σ τ) (a z x : Int32) (hx : x = 0 ∨ x = 1) : (cs_place σ a z x).1 = (ms_place τ a z x).1 ∧ re_all (n + 1) (cs_place σ a z x).2 (ms_place τ a z x).2 := by
  have h := re_up h
  unfold cs_place ms_place
  rw [ib_4, ib_6]
  by_cases c1 : ms_in a 0 3 = 0
  · simp only [if_pos c1]; exact ⟨by trivial, h⟩
  by_cases c2 : ms_in z 0 5 = 0
  · simp only [if_neg c1, if_pos c2]; exact ⟨by trivial, h⟩
  simp only [if_neg c1, if_neg c2]
  exact ⟨rfl, st_place h z x (in_vi c2) hx⟩
/-! clock -/
theorem st_clock (h : re_all n σ τ) {m : Nat} (hm : m ≤ 3000) : re_all (n + 1) (fw_st σ (0, 0, 0) 5 (σ (0, 0, 0) 5 + nI m)) (fw_st τ (0, 0, 0) 2 (τ (0, 0, 0) 2 + nI m)) := by
  obtain ⟨t, t1, t2, t3⟩ := h.1
  have h := re_up h
  obtain ⟨hA, hB, hC, hD, hE, hF, hG, hH, hI, hJ, hK, hL, hM, hN1, hN2, hN3, hO1, hO2⟩ := h
  refine ⟨?_, hB.fr (by intros; first | rfl | simp [fw_st_off] | simp [fw_st_at]) (by intros; first | rfl | simp [fw_st_off] | simp [fw_st_at]), hC.fr (by intros; first | rfl | simp [fw_st_off] | simp [fw_st_at]) (by intros; first | rfl | simp [fw_st_off] | simp [fw_st_at]), hD.fr (by intros; first | rfl | simp [fw_st_off] | simp [fw_st_at]) (by intros; first | rfl | simp [fw_st_off] | simp [fw_st_at]), hE.fr (by intros; first | rfl | simp [fw_st_off] | simp [fw_st_at]) (by intros; first | rfl | simp [fw_st_off] | simp [fw_st_at]), hF.fr (by intros; first | rfl | simp [fw_st_off] | simp [fw_st_at]) (by intros; first | rfl | simp [fw_st_off] | simp [fw_st_at]), hG.fr (by intros; first | rfl | simp [fw_st_off] | simp [fw_st_at]) (by intros; first | rfl | simp [fw_st_off] | simp [fw_st_at]), hH.fr (by intros; first | rfl | simp [fw_st_off] | simp [fw_st_at]) (by intros; first | rfl | simp [fw_st_off] | simp [fw_st_at]), hI.fr (by intros; first | rfl | simp [fw_st_off] | simp [fw_st_at]) (by intros; first | rfl | simp [fw_st_off] | simp [fw_st_at]), hJ.fr (by intros; first | rfl | simp [fw_st_off] | simp [fw_st_at]) (by intros; first | rfl | simp [fw_st_off] | simp [fw_st_at]), hK.fr (by intros; first | rfl | simp [fw_st_off] | simp [fw_st_at]) (by intros; first | rfl | simp [fw_st_off] | simp [fw_st_at]), hL.fr (by intros; first | rfl | simp [fw_st_off] | simp [fw_st_at]) (by intros; first | rfl | simp [fw_st_off] | simp [fw_st_at]), hM.fr (by intros; first | rfl | simp [fw_st_off] | simp [fw_st_at]), hN1.fr (by intros; first | rfl | simp [fw_st_off] | simp [fw_st_at]) (by intros; first | rfl | simp [fw_st_off] | simp [fw_st_at]) (by intros; first | rfl | simp [fw_st_off] | simp [fw_st_at]) (by intros; first | rfl | simp [fw_st_off] | simp [fw_st_at]) (by intros; first | rfl | simp [fw_st_off] | simp [fw_st_at]) (by intros; first | rfl | simp [fw_st_off] | simp [fw_st_at]), hN2.fr (by intros; first | rfl | simp [fw_st_off] | simp [fw_st_at]) (by intros; first | rfl | simp [fw_st_off] | simp [fw_st_at]), hN3.fr (by intros; first | rfl | simp [fw_st_off] | simp [fw_st_at]) (by intros; first | rfl | simp [fw_st_off] | simp [fw_st_at]) (by intros; first | rfl | simp [fw_st_off] | simp [fw_st_at]), hO1.fr (by intros; first | rfl | simp [fw_st_off] | simp [fw_st_at]) (by intros; first | rfl | simp [fw_st_off] | simp [fw_st_at]) (by intros; first | rfl | simp [fw_st_off] | simp [fw_st_at]) (by intros; first | rfl | simp [fw_st_off] | simp [fw_st_at]), hO2.fr (by intros; first | rfl | simp [fw_st_off] | simp [fw_st_at]) (by intros; first | rfl | simp [fw_st_off] | simp [fw_st_at])⟩
  · refine ⟨t + m, by omega, ?_, ?_⟩
    · simp [fw_st_at, t2, nI_add]
    · simp [fw_st_at, t3, nI_add]

theorem si_clock (h : re_all n σ τ) (a : Int32) : (cs_clock σ a).1 = (ms_clock τ a).1 ∧ re_all (n + 1) (cs_clock σ a).2 (ms_clock τ a).2 := by
  unfold cs_clock ms_clock
  simp only [in_if]
  by_cases c3 : a < 0
  · simp only [if_pos c3]; exact ⟨by trivial, re_up h⟩
  by_cases c4 : a ≤ 3000
  · simp only [if_neg c3, if_pos c4]
    obtain ⟨m, hm, rfl⟩ := nI_of2 (n := 3000) (by decide) c3 c4
    obtain ⟨t, t1, t2, t3⟩ := h.1
    refine ⟨?_, st_clock h hm⟩
    simp [cs_clock_s1, ms_clock_s1, fw_st_at, t2, t3]
  · simp only [if_neg c3, if_neg c4]; exact ⟨by trivial, re_up h⟩
/-! deny -/
theorem dn_on : ∀ d : Nat, d < 16 → ∀ c : Nat, c < 4 → (d ||| 2 ^ c) < 16 ∧ (nI d ||| (1 <<< (nI c &&& 31))) = nI (d ||| 2 ^ c) ∧ ∀ e : Nat, e < 4 → bt (d ||| 2 ^ c) e = if e = c then 1 else bt d e := by decide +kernel
theorem dn_off : ∀ d : Nat, d < 16 → ∀ c : Nat, c < 4 → (d - (d &&& 2 ^ c)) < 16 ∧ (nI d &&& ((1 <<< (nI c &&& 31)) ^^^ (-1))) = nI (d - (d &&& 2 ^ c)) ∧ ∀ e : Nat, e < 4 → bt (d - (d &&& 2 ^ c)) e = if e = c then 0 else bt d e := by decide +kernel
theorem dn_is : ∀ d : Nat, d < 16 → ∀ c : Nat, c < 4 → (if ((nI d >>> (nI c &&& 31)) &&& 1) = 1 then (1 : Int32) else 0) = bt d c := by decide +kernel
theorem dn_bc : ∀ d : Nat, d < 16 → cs_bitCount (nI d) = 0 + bt d 0 + bt d 1 + bt d 2 + bt d 3 := by decide +kernel
theorem st_deny (h : re_all n σ τ) {C d1 : Nat} (y x : Int32) (h1 : d1 < 16) (h2 : y = nI d1) (h3 : ∀ e, e < 4 → bt d1 e = if e = C then x else τ (10, 0, 0) e) : re_all n (fw_st σ (0, 0, 0) 6 y) (fw_st τ (10, 0, 0) C x) := by
  obtain ⟨hA, hB, hC, hD, hE, hF, hG, hH, hI, hJ, hK, hL, hM, hN1, hN2, hN3, hO1, hO2⟩ := h
  refine ⟨hA.fr (by intros; first | rfl | simp [fw_st_off] | simp [fw_st_at]) (by intros; first | rfl | simp [fw_st_off] | simp [fw_st_at]), hB.fr (by intros; first | rfl | simp [fw_st_off] | simp [fw_st_at]) (by intros; first | rfl | simp [fw_st_off] | simp [fw_st_at]), hC.fr (by intros; first | rfl | simp [fw_st_off] | simp [fw_st_at]) (by intros; first | rfl | simp [fw_st_off] | simp [fw_st_at]), hD.fr (by intros; first | rfl | simp [fw_st_off] | simp [fw_st_at]) (by intros; first | rfl | simp [fw_st_off] | simp [fw_st_at]), hE.fr (by intros; first | rfl | simp [fw_st_off] | simp [fw_st_at]) (by intros; first | rfl | simp [fw_st_off] | simp [fw_st_at]), hF.fr (by intros; first | rfl | simp [fw_st_off] | simp [fw_st_at]) (by intros; first | rfl | simp [fw_st_off] | simp [fw_st_at]), hG.fr (by intros; first | rfl | simp [fw_st_off] | simp [fw_st_at]) (by intros; first | rfl | simp [fw_st_off] | simp [fw_st_at]), hH.fr (by intros; first | rfl | simp [fw_st_off] | simp [fw_st_at]) (by intros; first | rfl | simp [fw_st_off] | simp [fw_st_at]), hI.fr (by intros; first | rfl | simp [fw_st_off] | simp [fw_st_at]) (by intros; first | rfl | simp [fw_st_off] | simp [fw_st_at]), hJ.fr (by intros; first | rfl | simp [fw_st_off] | simp [fw_st_at]) (by intros; first | rfl | simp [fw_st_off] | simp [fw_st_at]), ?_, hL.fr (by intros; first | rfl | simp [fw_st_off] | simp [fw_st_at]) (by intros; first | rfl | simp [fw_st_off] | simp [fw_st_at]), hM.fr (by intros; first | rfl | simp [fw_st_off] | simp [fw_st_at]), hN1.fr (by intros; first | rfl | simp [fw_st_off] | simp [fw_st_at]) (by intros; first | rfl | simp [fw_st_off] | simp [fw_st_at]) (by intros; first | rfl | simp [fw_st_off] | simp [fw_st_at]) (by intros; first | rfl | simp [fw_st_off] | simp [fw_st_at]) (by intros; first | rfl | simp [fw_st_off] | simp [fw_st_at]) (by intros; first | rfl | simp [fw_st_off] | simp [fw_st_at]), hN2.fr (by intros; first | rfl | simp [fw_st_off] | simp [fw_st_at]) (by intros; first | rfl | simp [fw_st_off] | simp [fw_st_at]), hN3.fr (by intros; first | rfl | simp [fw_st_off] | simp [fw_st_at]) (by intros; first | rfl | simp [fw_st_off] | simp [fw_st_at]) (by intros; first | rfl | simp [fw_st_off] | simp [fw_st_at]), hO1.fr (by intros; first | rfl | simp [fw_st_off] | simp [fw_st_at]) (by intros; first | rfl | simp [fw_st_off] | simp [fw_st_at]) (by intros; first | rfl | simp [fw_st_off] | simp [fw_st_at]) (by intros; first | rfl | simp [fw_st_off] | simp [fw_st_at]), hO2.fr (by intros; first | rfl | simp [fw_st_off] | simp [fw_st_at]) (by intros; first | rfl | simp [fw_st_off] | simp [fw_st_at])⟩
  · refine ⟨d1, h1, by simp [fw_st_at, h2], fun e he => ?_⟩
    rw [h3 e he]
    simp only [fw_st_at, true_and]

theorem si_deny (h : re_all n σ τ) (a x : Int32) (hx : x = 0 ∨ x = 1) : (cs_deny σ a x).1 = (ms_deny τ a x).1 ∧ re_all (n + 1) (cs_deny σ a x).2 (ms_deny τ a x).2 := by
  have h := re_up h
  unfold cs_deny ms_deny
  rw [ib_4]
  by_cases c1 : ms_in a 0 3 = 0
  · simp only [if_pos c1]; exact ⟨by trivial, h⟩
  obtain ⟨A, hA, rfl⟩ := vp_in_of (in_vi c1) (n := 4) (by omega)
  obtain ⟨d, d1, d2, d3⟩ := h.2.2.2.2.2.2.2.2.2.2.1
  simp only [if_neg c1, nI_clamp (show A < 2 ^ 31 by omega)]
  rcases hx with rfl | rfl
  · simp only [if_true]
    have q := dn_off d d1 A hA
    refine ⟨rfl, st_deny h _ _ q.1 (by rw [d2]; exact q.2.1) (fun e he => ?_)⟩
    rw [d3 e he]; exact q.2.2 e he
  · simp only [if_neg (show ¬ (1 : Int32) = 0 by decide)]
    have q := dn_on d d1 A hA
    refine ⟨rfl, st_deny h _ _ q.1 (by rw [d2]; exact q.2.1) (fun e he => ?_)⟩
    rw [d3 e he]; exact q.2.2 e he
/-! word, card, logged, income, count -/
theorem si_word (h : re_all n σ τ) (a b w : Int32) : cs_word σ a b w = ms_word τ a b w := by
  unfold cs_word ms_word cs_readCopy
  rw [ib_4, ib_2, ib_8]
  by_cases c1 : ms_in a 0 3 = 0
  · simp only [if_pos c1]
  by_cases c2 : ms_in b 0 1 = 0
  · simp only [if_pos c2]
  by_cases c3 : ms_in w 0 7 = 0
  · simp only [if_pos c3]
  simp only [if_neg c1, if_neg c2, if_neg c3]
  exact h.2.2.2.2.1 _ (vi_lt (in_vi c1)) _ (vi_lt (in_vi c2)) _ (vi_lt (in_vi c3))
theorem si_card (h : re_all n σ τ) (a w : Int32) : cs_card σ a w = ms_card τ a w := by
  obtain ⟨⟨t, -, t2, t3⟩, -, -, -, hE, -⟩ := h
  unfold cs_card ms_card
  rw [ib_4]
  by_cases c1 : ms_in a 0 3 = 0
  · simp only [if_pos c1]
  have hk := vi_lt (in_vi c1 (n := 4))
  simp only [if_neg c1]
  by_cases c2 : ms_in w 0 7 = 0
  · have hw : ∀ j : Nat, j < 8 → ¬ w = nI j := fun j hj e => by
      rw [in_0, e] at c2
      rcases c2 with q | q
      · exact nI_pos (by omega) q
      · exact absurd q (Int32.not_lt.mpr (nI_le (b := 7) (by omega) (by omega)))
    rw [if_pos c2, if_neg (show ¬ w = 0 from hw 0 (by omega)), if_neg (show ¬ w = 1 from hw 1 (by omega)), if_neg (show ¬ w = 2 from hw 2 (by omega)), if_neg (show ¬ w = 3 from hw 3 (by omega)), if_neg (show ¬ w = 4 from hw 4 (by omega)), if_neg (show ¬ w = 5 from hw 5 (by omega)), if_neg (show ¬ w = 6 from hw 6 (by omega)), if_neg (show ¬ w = 7 from hw 7 (by omega))]
  obtain ⟨W, hW, rfl⟩ := vp_in_of (in_vi c2) (n := 8) (by omega)
  have hW' : W = 0 ∨ W = 1 ∨ W = 2 ∨ W = 3 ∨ W = 4 ∨ W = 5 ∨ W = 6 ∨ W = 7 := by omega
  rw [if_neg c2]
  rcases hW' with rfl | rfl | rfl | rfl | rfl | rfl | rfl | rfl
  · exact rd_eq hE hk (w := 0) (by decide) (by omega)
  · exact rd_eq hE hk (w := 1) (by decide) (by omega)
  · exact rd_eq hE hk (w := 2) (by decide) (by omega)
  · exact rd_eq hE hk (w := 3) (by decide) (by omega)
  · exact rd_eq hE hk (w := 4) (by decide) (by omega)
  · exact rd_eq hE hk (w := 5) (by decide) (by omega)
  · exact co_eq hE hk
  · exact sp_eq hE hk (by rw [t2, t3])
theorem si_logged (h : re_all n σ τ) (a i w : Int32) : cs_logged σ a i w = ms_logged τ a i w := by
  obtain ⟨-, -, -, -, -, -, -, hH, hI, -⟩ := h
  unfold cs_logged ms_logged cs_readEntry cs_logSize
  rw [ib_4, ib_4]
  by_cases c1 : ms_in a 0 3 = 0
  · simp only [if_pos c1]
  have hv := vi_lt (in_vi c1 (n := 4))
  simp only [if_neg c1]
  by_cases c2 : ms_in w 0 3 = 0
  · simp only [if_pos c2, ite_self]
  simp only [if_neg c2]
  obtain ⟨h1, h2⟩ := hH _ hv
  unfold cs_isBelow
  rw [h1]
  by_cases c3 : i < 0
  · simp only [if_pos c3, if_true]
  by_cases c4 : τ (8, 0, 0) a.toNatClampNeg ≤ i
  · simp only [if_neg c3, if_pos c4, if_true]
  simp only [if_neg c3, if_neg c4]
  rw [if_neg (by decide)]
  exact hI _ hv _ (vi_lt (lg_i h2 c3 c4)) _ (vi_lt (in_vi c2))
theorem si_income (h : re_all n σ τ) (a : Int32) : cs_income σ a = ms_income τ a := by
  unfold cs_income ms_income
  rw [ib_4]
  by_cases c1 : ms_in a 0 3 = 0
  · simp only [if_pos c1]
  simp only [if_neg c1]
  exact h.2.2.2.2.2.2.2.2.2.2.2.1 _ (vi_lt (in_vi c1))
theorem si_count (h : re_all n σ τ) (a : Int32) : cs_count σ a = ms_count τ a := by
  obtain ⟨⟨t, -, t2, t3⟩, hB, -, -, -, -, -, hH, -, -, ⟨d, d1, d2, d3⟩, -⟩ := h
  have e1 : cs_entriesInLogs σ = 0 + τ (8, 0, 0) 0 + τ (8, 0, 0) 1 + τ (8, 0, 0) 2 + τ (8, 0, 0) 3 := by
    rw [← (hH 0 (by omega)).1, ← (hH 1 (by omega)).1, ← (hH 2 (by omega)).1, ← (hH 3 (by omega)).1]
    rfl
  have e2 : ms_count τ a = if a = 0 then τ (0, 0, 0) 2 else if a = 1 then 0 + τ (8, 0, 0) 0 + τ (8, 0, 0) 1 + τ (8, 0, 0) 2 + τ (8, 0, 0) 3 else if a = 2 then τ (0, 0, 0) 12 else if a = 3 then 0 + bt d 0 + bt d 1 + bt d 2 + bt d 3 else -1 := by
    unfold ms_count
    simp only [ms_count_lp, ms_count_s1, d3 0 (by omega), d3 1 (by omega), d3 2 (by omega), d3 3 (by omega), Nat.zero_add, Nat.reduceAdd, Nat.reduceLeDiff, if_false, if_true, Nat.le_refl]
    by_cases b0 : bt d 0 = 0 <;> by_cases b1 : bt d 1 = 0 <;> by_cases b2 : bt d 2 = 0 <;> by_cases b3 : bt d 3 = 0 <;> simp only [b0, b1, b2, b3, if_true, if_false, ← bt_if d 0, ← bt_if d 1, ← bt_if d 2, ← bt_if d 3, Int32.add_zero]
  rw [e2]
  unfold cs_count
  rw [e1, d2, dn_bc d d1, t2, t3, hB]
end SI1

/-! the two new objects as families -/
def co (t : fw_T) : Nat := match t.1 with
  | 0 => 0
  | 1 => 1
  | 2 => 10
  | 3 => 11
  | 4 => 12
  | 5 => 13
  | 6 => 2
  | 7 => 9
  | 8 => 3 + t.2.1
  | 10 => 14 + 9 * t.2.1
  | 11 => 14 + 9 * t.2.1 + 5
  | 12 => 50 + 10 * t.2.1
  | 13 => 14 + 9 * t.2.1 + 1
  | 14 => 14 + 9 * t.2.1 + 4
  | 15 => 14 + 9 * t.2.1 + 5 + 1
  | 16 => 14 + 9 * t.2.1 + 5 + 2
  | 17 => 14 + 9 * t.2.1 + 5 + 3
  | 18 => 50 + 10 * t.2.1 + 1
  | 19 => 14 + 9 * t.2.1 + 2 + t.2.2
  | 20 => 50 + 10 * t.2.1 + 2 + t.2.2
  | _ => 0
def cL : List fw_T := [(0, 0, 0), (1, 0, 0), (6, 0, 0), (8, 0, 0), (8, 1, 0), (8, 2, 0), (8, 3, 0), (8, 4, 0), (8, 5, 0), (7, 0, 0), (2, 0, 0), (3, 0, 0), (4, 0, 0), (5, 0, 0), (10, 0, 0), (13, 0, 0), (19, 0, 0), (19, 0, 1), (14, 0, 0), (11, 0, 0), (15, 0, 0), (16, 0, 0), (17, 0, 0), (10, 1, 0), (13, 1, 0), (19, 1, 0), (19, 1, 1), (14, 1, 0), (11, 1, 0), (15, 1, 0), (16, 1, 0), (17, 1, 0), (10, 2, 0), (13, 2, 0), (19, 2, 0), (19, 2, 1), (14, 2, 0), (11, 2, 0), (15, 2, 0), (16, 2, 0), (17, 2, 0), (10, 3, 0), (13, 3, 0), (19, 3, 0), (19, 3, 1), (14, 3, 0), (11, 3, 0), (15, 3, 0), (16, 3, 0), (17, 3, 0), (12, 0, 0), (18, 0, 0), (20, 0, 0), (20, 0, 1), (20, 0, 2), (20, 0, 3), (20, 0, 4), (20, 0, 5), (20, 0, 6), (20, 0, 7), (12, 1, 0), (18, 1, 0), (20, 1, 0), (20, 1, 1), (20, 1, 2), (20, 1, 3), (20, 1, 4), (20, 1, 5), (20, 1, 6), (20, 1, 7), (12, 2, 0), (18, 2, 0), (20, 2, 0), (20, 2, 1), (20, 2, 2), (20, 2, 3), (20, 2, 4), (20, 2, 5), (20, 2, 6), (20, 2, 7), (12, 3, 0), (18, 3, 0), (20, 3, 0), (20, 3, 1), (20, 3, 2), (20, 3, 3), (20, 3, 4), (20, 3, 5), (20, 3, 6), (20, 3, 7)]
theorem cV_lt {k i j : Nat} (h : cV (k, i, j)) : k < 21 ∧ i < 6 ∧ j < 8 := by
  obtain ⟨h1, h2⟩ := h
  have hk : k < 21 := by
    rcases Nat.lt_or_ge k 21 with q | q
    · exact q
    · obtain ⟨m, rfl⟩ : ∃ m, k = m + 21 := ⟨k - 21, by omega⟩
      exact absurd h1 (Nat.not_lt_zero _)
  have key : ∀ k, k < 21 → cni k ≤ 6 ∧ cnj k ≤ 8 := by decide
  have := key k hk
  exact ⟨hk, Nat.lt_of_lt_of_le h1 this.1, Nat.lt_of_lt_of_le h2 this.2⟩
def cL_ok (k i j : Nat) : Bool := !(decide (i < cni k) && decide (j < cnj k)) || decide (cL[co (k, i, j)]? = some (k, i, j))
theorem cL_all : ∀ k, k < 21 → ∀ i, i < 6 → ∀ j, j < 8 → cL_ok k i j = true := by decide +kernel
theorem cL_at (k : Nat) (hk : k < 21) (i : Nat) (hi : i < 6) (j : Nat) (hj : j < 8) (h : i < cni k ∧ j < cnj k) : cL[co (k, i, j)]? = some (k, i, j) := by
  have := cL_all k hk i hi j hj
  unfold cL_ok at this
  simp only [h.1, h.2, decide_true, Bool.and_self, Bool.not_true, Bool.false_or, decide_eq_true_eq] at this
  exact this
theorem co_inj (a : Nat) (D : va_G) (cA : Nat → ClassId) : fw_I cV (D, cA, fun t => a + co t) := by
  intro t u ht hu e
  obtain ⟨k, i, j⟩ := t
  obtain ⟨k2, i2, j2⟩ := u
  have e2 : co (k, i, j) = co (k2, i2, j2) := Nat.add_left_cancel (n := a) e
  obtain ⟨a1, a2, a3⟩ := cV_lt ht
  obtain ⟨b1, b2, b3⟩ := cV_lt hu
  have h1 := cL_at k a1 i a2 j a3 ht
  have h2 := cL_at k2 b1 i2 b2 j2 b3 hu
  rw [e2, h2] at h1
  exact (Option.some.inj h1).symm
theorem co_lt {t : fw_T} (h : cV t) : co t < 90 := by
  obtain ⟨k, i, j⟩ := t
  obtain ⟨a1, a2, a3⟩ := cV_lt h
  exact (List.getElem?_eq_some_iff.mp (cL_at k a1 i a2 j a3 h)).1
def s0 (t : fw_T) (j : Nat) : Int32 := match t.1 with
  | 7 => cs_first j
  | 12 => if j = 2 then nI t.2.1 else 0
  | 19 => cs_blank j
  | _ => 0
theorem arrV_cg {c : ClassId} {n : Nat} {f g : Nat → Value} (h : ∀ j, j < n → f j = g j) : arrV c n f = arrV c n g := by
  unfold arrV
  have : (fun j : Fin n => f j.val) = fun j : Fin n => g j.val := funext fun j => h j.val j.isLt
  rw [this]
theorem at_cgi {D : va_G} {cl : List vw_C} {p : Nat} {c : ClassId} {n : Nat} {f g : Nat → Int32} {H : Heap} (h : va_at D cl (p, .inl (c, n, .inl f)) H) (e : ∀ j, j < n → f j = g j) : va_at D cl (p, .inl (c, n, .inl g)) H := by
  have h1 : H[p]? = some (arrV c n (fun j => .int (f j))) := h
  rw [arrV_cg (g := fun j => .int (g j)) (fun j hj => by rw [e j hj])] at h1
  exact h1
theorem at_cgr {D : va_G} {cl : List vw_C} {p : Nat} {c : ClassId} {n : Nat} {f g : Nat → Option Nat} {H : Heap} (h : va_at D cl (p, .inl (c, n, .inr (.inr (.inr (.inr f))))) H) (e : ∀ j, j < n → f j = g j) : va_at D cl (p, .inl (c, n, .inr (.inr (.inr (.inr g))))) H := by
  have h1 : H[p]? = some (arrV c n (fun j => va_rf (f j))) := h
  rw [arrV_cg (g := fun j => va_rf (g j)) (fun j hj => by rw [e j hj])] at h1
  exact h1
theorem I12_W {D : va_G} {cA : Nat → ClassId} {a : Nat} {E : Nat → va_E} {H : Heap} (hW : ∀ o, o < 90 → va_at D fw_cl (a + o, E o) H) (hI : I12 a cA 4 4 E) : fw_W fw_cl csh cV (D, cA, fun t => a + co t) s0 H := by
  obtain ⟨h0, hT, ⟨f2, e2, g2⟩, ⟨f3, e3, g3⟩, ⟨f4, e4, g4⟩, h5, hC, hV⟩ := hI
  have to : ∀ {o : Nat} {x : va_E}, o < 90 → E o = x → va_at D fw_cl (a + o, x) H := fun {o} {x} ho e => e ▸ hW o ho
  intro t ht
  obtain ⟨k, i, j⟩ := t
  obtain ⟨hk, -, -⟩ := cV_lt ht
  obtain ⟨hi, hj⟩ := ht
  match k, hk, hi, hj with
  | 0, _, hi, hj =>
    have hi : i < 1 := hi
    have hj : j < 1 := hj
    obtain rfl : i = 0 := by omega
    obtain rfl : j = 0 := by omega
    exact to (o := 0) (by omega) h0
  | 1, _, hi, hj =>
    have hi : i < 1 := hi
    have hj : j < 1 := hj
    obtain rfl : i = 0 := by omega
    obtain rfl : j = 0 := by omega
    exact to (o := 1 + 0) (by omega) (hT (0) (by omega))
  | 2, _, hi, hj =>
    have hi : i < 1 := hi
    have hj : j < 1 := hj
    obtain rfl : i = 0 := by omega
    obtain rfl : j = 0 := by omega
    exact at_cgr (to (o := 10) (by omega) e2) (fun j hj => g2 j hj)
  | 3, _, hi, hj =>
    have hi : i < 1 := hi
    have hj : j < 1 := hj
    obtain rfl : i = 0 := by omega
    obtain rfl : j = 0 := by omega
    exact at_cgr (to (o := 11) (by omega) e3) (fun j hj => g3 j hj)
  | 4, _, hi, hj =>
    have hi : i < 1 := hi
    have hj : j < 1 := hj
    obtain rfl : i = 0 := by omega
    obtain rfl : j = 0 := by omega
    exact at_cgr (to (o := 12) (by omega) e4) (fun j hj => g4 j hj)
  | 5, _, hi, hj =>
    have hi : i < 1 := hi
    have hj : j < 1 := hj
    obtain rfl : i = 0 := by omega
    obtain rfl : j = 0 := by omega
    exact to (o := 13) (by omega) h5
  | 6, _, hi, hj =>
    have hi : i < 1 := hi
    have hj : j < 1 := hj
    obtain rfl : i = 0 := by omega
    obtain rfl : j = 0 := by omega
    exact at_cgr (to (o := 2) (by omega) (hT 1 (by omega))) (fun j hj => by rw [if_pos hj]; show some _ = some (a + (3 + j)); congr 1; omega)
  | 7, _, hi, hj =>
    have hi : i < 1 := hi
    have hj : j < 1 := hj
    obtain rfl : i = 0 := by omega
    obtain rfl : j = 0 := by omega
    exact to (o := 9) (by omega) (hT 8 (by omega))
  | 8, _, hi, hj =>
    have hi : i < 6 := hi
    have hj : j < 1 := hj
    obtain rfl : j = 0 := by omega
    have h := hT (2 + i) (by omega)
    have e : ctT (a + 1) cA (2 + i) = .inl (cA 0, 6, .inl (fun _ => 0)) := by
      have : i = 0 ∨ i = 1 ∨ i = 2 ∨ i = 3 ∨ i = 4 ∨ i = 5 := by omega
      rcases this with rfl | rfl | rfl | rfl | rfl | rfl <;> rfl
    rw [e] at h
    have := to (by omega) h
    rw [show 1 + (2 + i) = 3 + i by omega] at this
    exact this
  | 9, _, hi, _ => exact absurd hi (Nat.not_lt_zero _)
  | 10, _, hi, hj =>
    have hi : i < 4 := hi
    have hj : j < 1 := hj
    obtain rfl : j = 0 := by omega
    exact to (o := 14 + 9 * i + 0) (by omega) ((hC i hi).1 0 (by omega))
  | 11, _, hi, hj =>
    have hi : i < 4 := hi
    have hj : j < 1 := hj
    obtain rfl : j = 0 := by omega
    exact to (o := 14 + 9 * i + 5 + 0) (by omega) ((hC i hi).2 0 (by omega))
  | 12, _, hi, hj =>
    have hi : i < 4 := hi
    have hj : j < 1 := hj
    obtain rfl : j = 0 := by omega
    exact to (o := 50 + 10 * i + 0) (by omega) (hV i hi 0 (by omega))
  | 13, _, hi, hj =>
    have hi : i < 4 := hi
    have hj : j < 1 := hj
    obtain rfl : j = 0 := by omega
    exact at_cgr (to (o := 14 + 9 * i + 1) (by omega) ((hC i hi).1 1 (by omega))) (fun j hj => by rw [if_pos hj]; show some _ = some (a + (14 + 9 * i + 2 + j)); congr 1; omega)
  | 14, _, hi, hj =>
    have hi : i < 4 := hi
    have hj : j < 1 := hj
    obtain rfl : j = 0 := by omega
    exact to (o := 14 + 9 * i + 4) (by omega) ((hC i hi).1 4 (by omega))
  | 15, _, hi, hj =>
    have hi : i < 4 := hi
    have hj : j < 1 := hj
    obtain rfl : j = 0 := by omega
    exact to (o := 14 + 9 * i + 5 + 1) (by omega) ((hC i hi).2 1 (by omega))
  | 16, _, hi, hj =>
    have hi : i < 4 := hi
    have hj : j < 1 := hj
    obtain rfl : j = 0 := by omega
    exact to (o := 14 + 9 * i + 5 + 2) (by omega) ((hC i hi).2 2 (by omega))
  | 17, _, hi, hj =>
    have hi : i < 4 := hi
    have hj : j < 1 := hj
    obtain rfl : j = 0 := by omega
    exact to (o := 14 + 9 * i + 5 + 3) (by omega) ((hC i hi).2 3 (by omega))
  | 18, _, hi, hj =>
    have hi : i < 4 := hi
    have hj : j < 1 := hj
    obtain rfl : j = 0 := by omega
    exact at_cgr (to (o := 50 + 10 * i + 1) (by omega) (hV i hi 1 (by omega))) (fun j hj => by rw [if_pos hj]; show some _ = some (a + (50 + 10 * i + 2 + j)); congr 1; omega)
  | 19, _, hi, hj =>
    have hi : i < 4 := hi
    have hj : j < 2 := hj
    have h := (hC i hi).1 (2 + j) (by omega)
    have e : ctC (a + (14 + 9 * i)) cA (2 + j) = .inl (cA 0, 8, .inl (va_cpy cs_blank (fun _ => 0) 0 0 8)) := by
      have : j = 0 ∨ j = 1 := by omega
      rcases this with rfl | rfl <;> rfl
    rw [e] at h
    have := at_cgi (g := cs_blank) (to (by omega) h) (fun w hw => by unfold va_cpy; rw [if_pos ⟨Nat.zero_le w, by omega⟩]; simp)
    rw [show 14 + 9 * i + (2 + j) = 14 + 9 * i + 2 + j by omega] at this
    exact this
  | 20, _, hi, hj =>
    have hi : i < 4 := hi
    have hj : j < 8 := hj
    have h := hV i hi (2 + j) (by omega)
    have e : ctV (a + (50 + 10 * i)) cA (nI i) (2 + j) = .inl (cA 0, 4, .inl (fun _ => 0)) := by
      have : j = 0 ∨ j = 1 ∨ j = 2 ∨ j = 3 ∨ j = 4 ∨ j = 5 ∨ j = 6 ∨ j = 7 := by omega
      rcases this with rfl | rfl | rfl | rfl | rfl | rfl | rfl | rfl <;> rfl
    rw [e] at h
    have := to (by omega) h
    rw [show 50 + 10 * i + (2 + j) = 50 + 10 * i + 2 + j by omega] at this
    exact this
  | k + 21, hk, _, _ => exact absurd hk (by omega)
/-! the reference -/
def mo (t : fw_T) : Nat := t.1
def t0 (t : fw_T) (j : Nat) : Int32 := match t.1 with
  | 2 => cs_first j
  | 3 => ctMw 8 j
  | 5 => nI j
  | _ => 0
theorem mV_lt {k i j : Nat} (h : mV (k, i, j)) : k < 15 ∧ i = 0 ∧ j = 0 := by
  obtain ⟨h1, h2⟩ := h
  have hk : k < 15 := by
    rcases Nat.lt_or_ge k 15 with q | q
    · exact q
    · obtain ⟨m, rfl⟩ : ∃ m, k = m + 15 := ⟨k - 15, by omega⟩
      exact absurd h1 (Nat.not_lt_zero _)
  have key : ∀ k, k < 15 → mni k ≤ 1 ∧ mnj k ≤ 1 := by decide
  have := key k hk
  have a1 : i < 1 := Nat.lt_of_lt_of_le h1 this.1
  have a2 : j < 1 := Nat.lt_of_lt_of_le h2 this.2
  exact ⟨hk, by omega, by omega⟩
theorem mo_inj (a : Nat) (D : va_G) (cA : Nat → ClassId) : fw_I mV (D, cA, fun t => a + mo t) := by
  intro t u ht hu e
  obtain ⟨k, i, j⟩ := t
  obtain ⟨k2, i2, j2⟩ := u
  have e2 : k = k2 := Nat.add_left_cancel (n := a) e
  obtain ⟨a1, rfl, rfl⟩ := mV_lt ht
  obtain ⟨b1, rfl, rfl⟩ := mV_lt hu
  rw [e2]
theorem mo_lt {t : fw_T} (h : mV t) : mo t < 15 := by
  obtain ⟨k, i, j⟩ := t
  exact (mV_lt h).1
theorem JM_W {D : va_G} {cA : Nat → ClassId} {a : Nat} {E : Nat → va_E} {H : Heap} (hW : ∀ o, o < 15 → va_at D fw_cl (a + o, E o) H) (hI : JM a cA 4 8 E) : fw_W fw_cl msh mV (D, cA, fun t => a + mo t) t0 H := by
  obtain ⟨h0, hz, ⟨f2, e2, g2⟩, ⟨f5, e5, g5⟩, f3, e3, g3⟩ := hI
  have to : ∀ {o : Nat} {x : va_E}, o < 15 → E o = x → va_at D fw_cl (a + o, x) H := fun {o} {x} ho e => e ▸ hW o ho
  intro t ht
  obtain ⟨k, i, j⟩ := t
  obtain ⟨hk, rfl, rfl⟩ := mV_lt ht
  clear ht
  match k, hk with
  | 0, _ => exact to (o := 0) (by omega) h0
  | 2, _ => exact at_cgi (to (o := 2) (by omega) e2) g2
  | 3, _ => exact at_cgi (to (o := 3) (by omega) e3) g3
  | 5, _ => exact at_cgi (to (o := 5) (by omega) e5) g5
  | 1, _ => exact to (o := 1) (by omega) (hz 1 (by omega) (by omega) (by omega) (by omega) (by omega))
  | 4, _ => exact to (o := 4) (by omega) (hz 4 (by omega) (by omega) (by omega) (by omega) (by omega))
  | 6, _ => exact to (o := 6) (by omega) (hz 6 (by omega) (by omega) (by omega) (by omega) (by omega))
  | 7, _ => exact to (o := 7) (by omega) (hz 7 (by omega) (by omega) (by omega) (by omega) (by omega))
  | 8, _ => exact to (o := 8) (by omega) (hz 8 (by omega) (by omega) (by omega) (by omega) (by omega))
  | 9, _ => exact to (o := 9) (by omega) (hz 9 (by omega) (by omega) (by omega) (by omega) (by omega))
  | 10, _ => exact to (o := 10) (by omega) (hz 10 (by omega) (by omega) (by omega) (by omega) (by omega))
  | 11, _ => exact to (o := 11) (by omega) (hz 11 (by omega) (by omega) (by omega) (by omega) (by omega))
  | 12, _ => exact to (o := 12) (by omega) (hz 12 (by omega) (by omega) (by omega) (by omega) (by omega))
  | 13, _ => exact to (o := 13) (by omega) (hz 13 (by omega) (by omega) (by omega) (by omega) (by omega))
  | 14, _ => exact to (o := 14) (by omega) (hz 14 (by omega) (by omega) (by omega) (by omega) (by omega))
  | k + 15, hk => exact absurd hk (by omega)
/-! the relation at the start -/
theorem os_k0 : ∀ m, os_k (fun _ => 0) m = 0
  | 0 => rfl
  | m + 1 => by
    unfold os_k
    rw [if_pos (by decide), os_k0 m]
theorem os_g0 : ∀ m, os_g (fun _ => 0) m = 0
  | 0 => rfl
  | m + 1 => by
    unfold os_g
    rw [if_pos (by decide), os_g0 m]
theorem os_s0 {A : Nat → Int32} {w : Int32} (hw : ¬ 0 = w) : ∀ m, os_s (fun _ => 0) A w m = 0
  | 0 => rfl
  | m + 1 => by
    unfold os_s
    rw [if_neg hw, os_s0 hw m]
theorem bl_at : ∀ k, k < 4 → ∀ j, j < 2 → ∀ w, w < 8 → cs_blank w = ctMw 8 (16 * k + 8 * j + w) := by decide +kernel
theorem re_start : re_all 0 s0 t0 := by
  have hz : ∀ v, re_z s0 v = 0 := fun v => by show (0 : Int32).toNatClampNeg = 0; decide
  refine ⟨⟨0, by omega, rfl, rfl⟩, rfl, fun j _ => rfl, fun _ _ _ _ => rfl, fun k hk j hj w hw => bl_at k hk j hj w hw, fun v hv => ⟨rfl, vp_in_nI (by omega) (by omega)⟩, fun v hv => ⟨rfl, Or.inl rfl⟩, fun v hv => ⟨rfl, vp_in_nI (n := 0) (by omega) (by omega)⟩, fun _ _ _ _ _ _ => rfl, fun v hv => ⟨0, by omega, rfl, fun c hc => ?_⟩, ⟨0, by omega, rfl, fun c hc => ?_⟩, fun v hv => rfl, fun k hk j hj => ⟨Or.inl rfl, vp_in_nI (n := 0) (by omega) (by omega), 0, 0, by omega, by omega, rfl⟩, fun k hk j _ _ => Or.inl ⟨rfl, rfl⟩, fun k hk j _ _ => rfl, fun k hk => ?_, fun v hv i hi => ?_, fun v hv i hi => ?_⟩
  · unfold bt; rw [Nat.zero_testBit]; rfl
  · unfold bt; rw [Nat.zero_testBit]; rfl
  · rw [os_known, os_greatest, os_sum, os_sum]
    exact ⟨(os_k0 520).symm, by show (0 : Int32) = nI (os_g (fun _ => 0) 520); rw [os_g0]; rfl, (os_s0 (by decide) 520).symm, (os_s0 (by decide) 520).symm⟩
  · rw [hz] at hi; omega
  · rw [hz] at hi; omega

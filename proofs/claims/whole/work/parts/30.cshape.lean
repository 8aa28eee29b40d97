def cni : Nat → Nat := fun k => match k with
  | 0 => 1
  | 1 => 1
  | 2 => 1
  | 3 => 1
  | 4 => 1
  | 5 => 1
  | 6 => 1
  | 7 => 1
  | 8 => 6
  | 10 => 4
  | 11 => 4
  | 12 => 4
  | 13 => 4
  | 14 => 4
  | 15 => 4
  | 16 => 4
  | 17 => 4
  | 18 => 4
  | 19 => 4
  | 20 => 4
  | _ => 0
def cnj : Nat → Nat := fun k => match k with
  | 0 => 1
  | 1 => 1
  | 2 => 1
  | 3 => 1
  | 4 => 1
  | 5 => 1
  | 6 => 1
  | 7 => 1
  | 8 => 1
  | 10 => 1
  | 11 => 1
  | 12 => 1
  | 13 => 1
  | 14 => 1
  | 15 => 1
  | 16 => 1
  | 17 => 1
  | 18 => 1
  | 19 => 2
  | 20 => 8
  | _ => 0
def cshk (k i : Nat) : fw_H := match k with
  | 0 => .inr (.inr (0, [.inl (1, 0, 0), .inl (2, 0, 0), .inl (3, 0, 0), .inl (4, 0, 0), .inl (5, 0, 0), .inr 5, .inr 6, .inr 7]))
  | 1 => .inr (.inr (1, [.inl (6, 0, 0), .inl (7, 0, 0)]))
  | 2 => .inr (.inl (2, 4, fun n => (10, n, 0)))
  | 3 => .inr (.inl (3, 4, fun n => (11, n, 0)))
  | 4 => .inr (.inl (4, 4, fun n => (12, n, 0)))
  | 5 => .inl (0, 4)
  | 6 => .inr (.inl (1, 6, fun n => (8, n, 0)))
  | 7 => .inl (0, 5)
  | 8 => .inl (0, 6)
  | 10 => .inr (.inr (2, [.inl (13, i, 0), .inl (14, i, 0)]))
  | 11 => .inr (.inr (3, [.inl (15, i, 0), .inl (16, i, 0), .inl (17, i, 0), .inr 3, .inr 4, .inr 5, .inr 6]))
  | 12 => .inr (.inr (4, [.inl (18, i, 0), .inr 1, .inr 2, .inr 3, .inr 4]))
  | 13 => .inr (.inl (1, 2, fun n => (19, i, n)))
  | 14 => .inl (0, 8)
  | 15 => .inl (5, 513)
  | 16 => .inl (0, 513)
  | 17 => .inl (0, 513)
  | 18 => .inr (.inl (1, 8, fun n => (20, i, n)))
  | 19 => .inl (0, 8)
  | 20 => .inl (0, 4)
  | _ => .inl (0, 0)
def csh (t : fw_T) : fw_H := cshk t.1 t.2.1
def cV (t : fw_T) : Prop := t.2.1 < cni t.1 ∧ t.2.2 < cnj t.1
theorem cv0 : cV (0, 0, 0) := ⟨Nat.zero_lt_one, Nat.zero_lt_one⟩
theorem cv1 : cV (1, 0, 0) := ⟨Nat.zero_lt_one, Nat.zero_lt_one⟩
theorem cv2 : cV (2, 0, 0) := ⟨Nat.zero_lt_one, Nat.zero_lt_one⟩
theorem cv3 : cV (3, 0, 0) := ⟨Nat.zero_lt_one, Nat.zero_lt_one⟩
theorem cv4 : cV (4, 0, 0) := ⟨Nat.zero_lt_one, Nat.zero_lt_one⟩
theorem cv5 : cV (5, 0, 0) := ⟨Nat.zero_lt_one, Nat.zero_lt_one⟩
theorem cv6 : cV (6, 0, 0) := ⟨Nat.zero_lt_one, Nat.zero_lt_one⟩
theorem cv7 : cV (7, 0, 0) := ⟨Nat.zero_lt_one, Nat.zero_lt_one⟩
theorem cve8 {i : Nat} (h : i < 6) : cV (8, i, 0) := ⟨h, Nat.zero_lt_one⟩
theorem cvs8 {k i j : Nat} (h : cV (k, i, j)) (hk : cni k = 6 := by rfl) : cV (8, i, 0) := ⟨Nat.lt_of_lt_of_eq h.1 hk, Nat.zero_lt_one⟩
theorem cve10 {i : Nat} (h : i < 4) : cV (10, i, 0) := ⟨h, Nat.zero_lt_one⟩
theorem cvs10 {k i j : Nat} (h : cV (k, i, j)) (hk : cni k = 4 := by rfl) : cV (10, i, 0) := ⟨Nat.lt_of_lt_of_eq h.1 hk, Nat.zero_lt_one⟩
theorem cve11 {i : Nat} (h : i < 4) : cV (11, i, 0) := ⟨h, Nat.zero_lt_one⟩
theorem cvs11 {k i j : Nat} (h : cV (k, i, j)) (hk : cni k = 4 := by rfl) : cV (11, i, 0) := ⟨Nat.lt_of_lt_of_eq h.1 hk, Nat.zero_lt_one⟩
theorem cve12 {i : Nat} (h : i < 4) : cV (12, i, 0) := ⟨h, Nat.zero_lt_one⟩
theorem cvs12 {k i j : Nat} (h : cV (k, i, j)) (hk : cni k = 4 := by rfl) : cV (12, i, 0) := ⟨Nat.lt_of_lt_of_eq h.1 hk, Nat.zero_lt_one⟩
theorem cve13 {i : Nat} (h : i < 4) : cV (13, i, 0) := ⟨h, Nat.zero_lt_one⟩
theorem cvs13 {k i j : Nat} (h : cV (k, i, j)) (hk : cni k = 4 := by rfl) : cV (13, i, 0) := ⟨Nat.lt_of_lt_of_eq h.1 hk, Nat.zero_lt_one⟩
theorem cve14 {i : Nat} (h : i < 4) : cV (14, i, 0) := ⟨h, Nat.zero_lt_one⟩
theorem cvs14 {k i j : Nat} (h : cV (k, i, j)) (hk : cni k = 4 := by rfl) : cV (14, i, 0) := ⟨Nat.lt_of_lt_of_eq h.1 hk, Nat.zero_lt_one⟩
theorem cve15 {i : Nat} (h : i < 4) : cV (15, i, 0) := ⟨h, Nat.zero_lt_one⟩
theorem cvs15 {k i j : Nat} (h : cV (k, i, j)) (hk : cni k = 4 := by rfl) : cV (15, i, 0) := ⟨Nat.lt_of_lt_of_eq h.1 hk, Nat.zero_lt_one⟩
theorem cve16 {i : Nat} (h : i < 4) : cV (16, i, 0) := ⟨h, Nat.zero_lt_one⟩
theorem cvs16 {k i j : Nat} (h : cV (k, i, j)) (hk : cni k = 4 := by rfl) : cV (16, i, 0) := ⟨Nat.lt_of_lt_of_eq h.1 hk, Nat.zero_lt_one⟩
theorem cve17 {i : Nat} (h : i < 4) : cV (17, i, 0) := ⟨h, Nat.zero_lt_one⟩
theorem cvs17 {k i j : Nat} (h : cV (k, i, j)) (hk : cni k = 4 := by rfl) : cV (17, i, 0) := ⟨Nat.lt_of_lt_of_eq h.1 hk, Nat.zero_lt_one⟩
theorem cve18 {i : Nat} (h : i < 4) : cV (18, i, 0) := ⟨h, Nat.zero_lt_one⟩
theorem cvs18 {k i j : Nat} (h : cV (k, i, j)) (hk : cni k = 4 := by rfl) : cV (18, i, 0) := ⟨Nat.lt_of_lt_of_eq h.1 hk, Nat.zero_lt_one⟩
theorem cvj19 {k i j n : Nat} (h : cV (k, i, j)) (hn : n < 2) (hk : cni k = 4 := by rfl) : cV (19, i, n) := ⟨Nat.lt_of_lt_of_eq h.1 hk, hn⟩
theorem cvj20 {k i j n : Nat} (h : cV (k, i, j)) (hn : n < 8) (hk : cni k = 4 := by rfl) : cV (20, i, n) := ⟨Nat.lt_of_lt_of_eq h.1 hk, hn⟩

/-! what the calls answer and what they leave, in numbers -/
theorem i_le_lt {x y : Int32} : ¬ x ≤ y ↔ y < x := by
  rw [Int32.le_iff_toInt_le, Int32.lt_iff_toInt_lt]
  omega
theorem i_lt_le {x y : Int32} : ¬ x < y ↔ y ≤ x := by
  rw [Int32.le_iff_toInt_le, Int32.lt_iff_toInt_lt]
  omega
def st_I (n a : Nat) (T H : Nat → Nat) (b : Nat) (R : Nat → Nat) : Prop := 1 ≤ n ∧ n ≤ 7 ∧ a ≤ 14 ∧ (∀ i, T i < 7 ∧ H i < 7) ∧ (∀ i, i < a → T i < n ∧ H i < n) ∧ b ≤ 3 ∧ (∀ k, k < b → R k ≠ 0 ∧ R k < 2 ^ n) ∧ ∀ k, R k < 128
def rho0 (T H : Nat → Nat) (a X : Nat) : Nat := ed_rho T H a (fun _ => false) X
def is_in (x : Int32) (n : Nat) : Prop := 0 ≤ x ∧ x < nI n
theorem is_in_of {x : Int32} {n : Nat} (h : is_in x n) (hn : n < 2 ^ 31) : ∃ j, j < n ∧ x = nI j := by
  obtain ⟨h1, h2⟩ := h
  obtain ⟨j, hj, rfl⟩ := nI_of (x := x) (i_lt_le.mpr h1)
  exact ⟨j, (nI_ltI hj hn).mp h2, rfl⟩
theorem is_in_nI {j n : Nat} (hj : j < n) (hn : n < 2 ^ 31) : is_in (nI j) n := ⟨nI_pos' (by omega), nI_lt hj hn⟩
def is_set (x : Int32) (n : Nat) : Prop := 0 ≤ x ∧ x ≤ nI (2 ^ n - 1)
theorem is_set_in {x : Int32} {n : Nat} (hn : n ≤ 7) : is_set x n ↔ is_in x (2 ^ n) := by
  have h7 := bi_p7 hn
  have h1 : 0 < 2 ^ n := Nat.two_pow_pos n
  rw [is_set, is_in]
  constructor
  · intro h
    refine ⟨h.1, ?_⟩
    obtain ⟨j, hj, rfl⟩ := nI_of (x := x) (i_lt_le.mpr h.1)
    have := (nI_leI hj (by omega)).mp h.2
    exact nI_lt (by omega) (by omega)
  · intro h
    refine ⟨h.1, ?_⟩
    obtain ⟨j, hj, rfl⟩ := is_in_of h (by omega)
    exact nI_le (by omega) (by omega)
def bgF (x : Int32) (n a b : Nat) : Int32 × Nat × Nat × Nat := if 1 ≤ x ∧ x ≤ 7 then (1, x.toNatClampNeg, 0, 0) else (0, n, a, b)
def arF (n a : Nat) (T H : Nat → Nat) (x y : Int32) : Int32 × Nat × (Nat → Nat) × (Nat → Nat) := if a < 14 ∧ (0 ≤ x ∧ x < nI n) ∧ (0 ≤ y ∧ y < nI n) ∧ ¬ x = y then (nI a, a + 1, up T a x.toNatClampNeg, up H a y.toNatClampNeg) else (-1, a, T, H)
def drF (a : Nat) (T H : Nat → Nat) (x : Int32) : Int32 × Nat × (Nat → Nat) × (Nat → Nat) := if 0 ≤ x ∧ x < nI a then (1, a - 1, rm_f T x.toNatClampNeg (a - 1), rm_f H x.toNatClampNeg (a - 1)) else (0, a, T, H)
def plF (n b : Nat) (R : Nat → Nat) (x : Int32) : Int32 × Nat × (Nat → Nat) := if b < 3 ∧ ¬ x = 0 ∧ (0 ≤ x ∧ x ≤ nI (2 ^ n - 1)) then (nI b, b + 1, up R b x.toNatClampNeg) else (-1, b, R)
def feF (b : Nat) : Int32 × Nat := if b = 0 then (-1, b) else (nI (b - 1), b - 1)
def coF (n a b : Nat) (x : Int32) : Int32 := if x = 0 then nI n else if x = 1 then nI a else if x = 2 then nI b else -1
def enF (a : Nat) (T H : Nat → Nat) (x y : Int32) : Int32 := if (0 ≤ x ∧ x < nI a) ∧ (y = 0 ∨ y = 1) then (if y = 0 then nI (T x.toNatClampNeg) else nI (H x.toNatClampNeg)) else -1
def etF (n a : Nat) (T H : Nat → Nat) (x : Int32) : Int32 := if 0 ≤ x ∧ x ≤ nI (2 ^ n - 1) then nI (rho0 T H a x.toNatClampNeg) else -1
def miF (n b : Nat) (R : Nat → Nat) (x : Int32) : Int32 := if 0 ≤ x ∧ x ≤ nI (2 ^ n - 1) then nI (ed_mis R b x.toNatClampNeg) else -1
def stp (T H : Nat → Nat) (a : Nat) (R : Nat → Nat) (b X : Nat) : Bool := decide (rho0 T H a X < ed_mis R b X)
def spF (n a : Nat) (T H : Nat → Nat) (b : Nat) (R : Nat → Nat) : Nat := fs_at (stp T H a R b) (2 ^ n - 1)
def paF (n a : Nat) (T H : Nat → Nat) (b : Nat) (R : Nat → Nat) : Bool := decide (spF n a T H b R = 0)
def owF (n a b : Nat) (T H R : Nat → Nat) (x : Int32) : Int32 := if 0 ≤ x ∧ x < nI a then pg_all n a b T H R x.toNatClampNeg else -1
def wyF (n a b : Nat) (T H R : Nat → Nat) (x y : Int32) : Int32 := if (0 ≤ x ∧ x < nI b) ∧ (0 ≤ y ∧ y < nI n) then (if ed_fd (fun e => decide (pg_all n a b T H R e = x) && decide (nI (H e) = y)) a < a then nI (ed_fd (fun e => decide (pg_all n a b T H R e = x) && decide (nI (H e) = y)) a) else -1) else -1
def stpL (T H : Nat → Nat) (a : Nat) (R : Nat → Nat) (b j X : Nat) : Bool := decide (rho0 T H a X - ed_b (ed_en T H X j) < ed_mis R b X)
def srF (n a : Nat) (T H : Nat → Nat) (b : Nat) (R : Nat → Nat) (x : Int32) : Bool := if 0 ≤ x ∧ x < nI a then decide (fs_at (stpL T H a R b x.toNatClampNeg) (2 ^ n - 1) = 0) else false
def mo_at (T H : Nat → Nat) (a Y : Nat) : Nat → Nat
  | 0 => 99
  | m + 1 => if (m + 1) &&& Y = 0 then min (mo_at T H a Y m) (rho0 T H a (m + 1)) else mo_at T H a Y m
def moF (n a : Nat) (T H : Nat → Nat) (x : Int32) : Int32 := if ¬ x = 0 ∧ (0 ≤ x ∧ x ≤ nI (2 ^ n - 1)) then nI (mo_at T H a x.toNatClampNeg (2 ^ n - 1)) else -1
theorem st_0 : st_I 1 0 (fun _ => 0) (fun _ => 0) 0 (fun _ => 0) := ⟨by omega, by omega, by omega, fun _ => ⟨(by show 0 < 7; omega), (by show 0 < 7; omega)⟩, fun i h => by omega, by omega, fun k h => by omega, fun _ => (by show 0 < 128; omega)⟩
theorem up_lt {T : Nat → Nat} {k v N : Nat} (h : ∀ i, T i < N) (hv : v < N) (i : Nat) : up T k v i < N := by
  rw [up]
  split
  · exact hv
  · exact h i
theorem st_bg {x : Int32} {n a b : Nat} {T H R : Nat → Nat} (h : st_I n a T H b R) : st_I (bgF x n a b).2.1 (bgF x n a b).2.2.1 T H (bgF x n a b).2.2.2 R := by
  rw [bgF]
  split
  · rename_i hx
    obtain ⟨j, hj, rfl⟩ := nI_of2 (x := x) (M := 7) (n := 7) (by decide) (i_lt_le.mpr (Int32.le_trans (by decide) hx.1)) hx.2
    have h1 := (nI_leI (a := 1) (by omega) (by omega)).mp hx.1
    show st_I (nI j).toNatClampNeg 0 T H 0 R
    rw [nI_clamp (by omega)]
    exact ⟨h1, hj, by omega, h.2.2.2.1, fun i hi => by omega, by omega, fun k hk => by omega, h.2.2.2.2.2.2.2⟩
  · exact h
theorem st_ar {x y : Int32} {n a b : Nat} {T H R : Nat → Nat} (h : st_I n a T H b R) : st_I n (arF n a T H x y).2.1 (arF n a T H x y).2.2.1 (arF n a T H x y).2.2.2 b R := by
  rw [arF]
  split
  · rename_i hx
    obtain ⟨ha, h1, h2, -⟩ := hx
    obtain ⟨i1, i2, i3, i4, i5, i6⟩ := h
    obtain ⟨j, hj, rfl⟩ := is_in_of h1 (by omega)
    obtain ⟨k, hk, rfl⟩ := is_in_of h2 (by omega)
    show st_I n (a + 1) (up T a (nI j).toNatClampNeg) (up H a (nI k).toNatClampNeg) b R
    rw [nI_clamp (by omega), nI_clamp (by omega)]
    refine ⟨i1, i2, by omega, fun i => ⟨up_lt (fun i => (i4 i).1) (by omega) i, up_lt (fun i => (i4 i).2) (by omega) i⟩, fun i hi => ?_, i6⟩
    rw [up, up]
    by_cases hia : i = a
    · rw [if_pos hia, if_pos hia]
      exact ⟨hj, hk⟩
    · rw [if_neg hia, if_neg hia]
      exact i5 i (by omega)
  · exact h
theorem rm_all {T : Nat → Nat} {e m N : Nat} (h : ∀ i, T i < N) (i : Nat) : rm_f T e m i < N := by
  rw [rm_f]
  split
  · exact h _
  · exact h _
theorem st_rm {j n a b : Nat} {T H R : Nat → Nat} (ha : 0 < a) (h : st_I n a T H b R) : st_I n (a - 1) (rm_f T j (a - 1)) (rm_f H j (a - 1)) b R := by
  obtain ⟨i1, i2, i3, i4, i5, i6⟩ := h
  refine ⟨i1, i2, by omega, fun i => ⟨rm_all (fun i => (i4 i).1) i, rm_all (fun i => (i4 i).2) i⟩, fun i hi => ⟨rm_lt (fun i hi => (i5 i (by omega)).1) i hi, rm_lt (fun i hi => (i5 i (by omega)).2) i hi⟩, i6⟩
theorem st_dr {x : Int32} {n a b : Nat} {T H R : Nat → Nat} (h : st_I n a T H b R) : st_I n (drF a T H x).2.1 (drF a T H x).2.2.1 (drF a T H x).2.2.2 b R := by
  rw [drF]
  split
  · rename_i hx
    obtain ⟨j, hj, rfl⟩ := is_in_of hx (by have := h.2.2.1; omega)
    exact st_rm (by omega) h
  · exact h
theorem st_pl {x : Int32} {n a b : Nat} {T H R : Nat → Nat} (h : st_I n a T H b R) : st_I n a T H (plF n b R x).2.1 (plF n b R x).2.2 := by
  rw [plF]
  split
  · rename_i hx
    obtain ⟨hb, h0, h1⟩ := hx
    obtain ⟨i1, i2, i3, i4, i5, i6, i7, i8⟩ := h
    have h7 := bi_p7 i2
    obtain ⟨j, hj, rfl⟩ := is_in_of ((is_set_in i2).mp h1) (by omega)
    have hj0 : j ≠ 0 := fun z => h0 (by rw [z]; exact nI_0)
    show st_I n a T H (b + 1) (up R b (nI j).toNatClampNeg)
    rw [nI_clamp (by omega)]
    refine ⟨i1, i2, i3, i4, i5, by omega, fun k hk => ?_, fun k => up_lt i8 (by omega) k⟩
    rw [up]
    by_cases hkb : k = b
    · rw [if_pos hkb]
      exact ⟨hj0, hj⟩
    · rw [if_neg hkb]
      exact i7 k (by omega)
  · exact h
theorem st_fe {n a b : Nat} {T H R : Nat → Nat} (h : st_I n a T H b R) : st_I n a T H (feF b).2 R := by
  rw [feF]
  obtain ⟨i1, i2, i3, i4, i5, i6, i7, i8⟩ := h
  split
  · exact ⟨i1, i2, i3, i4, i5, i6, i7, i8⟩
  · exact ⟨i1, i2, i3, i4, i5, by show b - 1 ≤ 3; omega, fun k hk => i7 k (by have : k < b - 1 := hk; omega), i8⟩
/-- the two answers: no set stops them, or the branchings can go on -/
theorem pa_ok {n a b : Nat} {T H R : Nat → Nat} (hb : 0 < b) : paF n a T H b R = ru_ok n a b T H R 0 (R 0) (fun _ => false) := by
  have h : paF n a T H b R = true ↔ ru_ok n a b T H R 0 (R 0) (fun _ => false) = true := by
    rw [paF, decide_eq_true_eq, spF, fs_0, ru_ok_iff]
    have h1 : 0 < 2 ^ n := Nat.two_pow_pos n
    constructor
    · intro h X h0 hX
      have h2 := h X h0 (by omega)
      rw [stp, decide_eq_false_iff_not, rho0] at h2
      rw [ed_mis_p hb]
      omega
    · intro h X h0 hX
      have h2 := h X h0 (by omega)
      rw [ed_mis_p hb] at h2
      rw [stp, decide_eq_false_iff_not, rho0]
      omega
  cases h1 : paF n a T H b R <;> cases h2 : ru_ok n a b T H R 0 (R 0) (fun _ => false) <;> simp_all
theorem pa_0 {n a : Nat} {T H R : Nat → Nat} : paF n a T H 0 R = true := by
  rw [paF, decide_eq_true_eq, spF, fs_0]
  intro X _ _
  rw [stp, decide_eq_false_iff_not]
  show ¬ rho0 T H a X < 0
  omega
/-- an arc left out, in the packer's way and in the reference's -/
theorem sr_rm {n a b j : Nat} {T H R : Nat → Nat} (hj : j < a) : decide (fs_at (stpL T H a R b j) (2 ^ n - 1) = 0) = paF n (a - 1) (rm_f T j (a - 1)) (rm_f H j (a - 1)) b R := by
  rw [paF, spF]
  congr 2
  apply fs_congr
  intro X _ _
  rw [stpL, stp]
  congr 1
  have h := rm_rho (T := T) (H := H) (e := j) (m := a - 1) (X := X) (by omega)
  rw [show a - 1 + 1 = a by omega] at h
  rw [rho0, rho0]
  rw [← h, Nat.add_sub_cancel]

/-! the reference's search: whether the branchings can go on -/
def go (n a b : Nat) (T H R : Nat → Nat) (k had U : Nat) : Bool := decide (k = b) || ru_ok n a b T H R k had (Nat.testBit U)
theorem go_lt {n a b k had U : Nat} {T H R : Nat → Nat} (h : k < b) : go n a b T H R k had U = ru_ok n a b T H R k had (Nat.testBit U) := by rw [go, decide_eq_false (by omega), Bool.false_or]
theorem go_b {n a b had U : Nat} {T H R : Nat → Nat} : go n a b T H R b had U = true := by rw [go, decide_eq_true rfl, Bool.true_or]
theorem bool_ext {x y : Bool} (h : x = true ↔ y = true) : x = y := by
  cases x <;> cases y
  · rfl
  · exact (h.mpr rfl).symm ▸ rfl
  · exact (h.mp rfl).symm ▸ rfl
  · rfl
theorem go_next {n a b k U : Nat} {T H R : Nat → Nat} (h : k < b) : go n a b T H R k (2 ^ n - 1) U = go n a b T H R (k + 1) (if k + 1 < b then R (k + 1) else 0) U := by
  rw [go_lt h]
  apply bool_ext
  rw [ru_ok_iff, ed_next h]
  by_cases hb : k + 1 = b
  · rw [hb, go_b]
    exact ⟨fun _ => rfl, fun _ => Or.inl rfl⟩
  · rw [if_pos (by omega), go_lt (by omega), ru_ok_iff]
    exact ⟨fun z => z.resolve_left hb, Or.inr⟩
theorem ub_use (U e : Nat) : Nat.testBit (U ||| 2 ^ e) = ru_use (Nat.testBit U) e := by
  funext i
  rw [Nat.testBit_or, Nat.testBit_two_pow, ru_use]
  by_cases h : i = e
  · rw [decide_eq_true h, decide_eq_true h.symm, Bool.true_or, Bool.or_true]
  · rw [decide_eq_false h, decide_eq_false (fun z => h z.symm), Bool.false_or, Bool.or_false]
theorem go_good {n a b k had U e : Nat} {T H R : Nat → Nat} (hk : k < b) : ru_good n a b T H R k had (Nat.testBit U) e = (ru_gr T H had (Nat.testBit U) e && go n a b T H R k (had ||| 2 ^ H e) (U ||| 2 ^ e)) := by
  rw [ru_good, go_lt hk, ub_use]
def df_C (n a b : Nat) (T H R : Nat → Nat) (tr hd us nx : Nat → Int32) (s t h V e0 : Nat) : Prop := tr s = nI t ∧ hd s = nI h ∧ us s = nI V ∧ nx s = nI e0 ∧ t < b ∧ h < 2 ^ n ∧ h ≠ 2 ^ n - 1 ∧ ru_ok n a b T H R t h (Nat.testBit V) = true ∧ (∀ j, j < e0 → ru_good n a b T H R t h (Nat.testBit V) j = false) ∧ s + ru_left a V ≤ 14 ∧ V < 2 ^ 14 ∧ e0 ≤ a
def df_I (n a b : Nat) (T H R : Nat → Nat) (G : Bool) (tr hd us nx : Nat → Int32) (dn step : Int32) (mu : Nat) : Prop :=
  (dn = 1 ∧ G = true) ∨ (dn = 0 ∧ step = -1 ∧ G = false) ∨ (mu = 1 ∧ dn = 0 ∧ step = nI 0 ∧ nx 0 = nI a ∧ G = false) ∨
  (∃ s t h V e0, mu = ru_left a V * 64 + 2 * (a - e0) + 2 ∧ dn = 0 ∧ step = nI s ∧ df_C n a b T H R tr hd us nx s t h V e0 ∧ G = true) ∨
  (∃ s t h V e0, mu = ru_left a V * 64 + 2 * (a - e0) + 3 ∧ dn = 0 ∧ step = nI (s + 1) ∧ nx (s + 1) = nI a ∧ df_C n a b T H R tr hd us nx s t h V e0 ∧ s + 1 ≤ 14 ∧ G = true)
/-- at a state that isn't stopped an arc is left to try -/
theorem df_more {n a b : Nat} {T H R : Nat → Nat} {tr hd us nx : Nat → Int32} {s t h V e0 : Nat} (hT : ∀ e, e < a → T e < n) (hC : df_C n a b T H R tr hd us nx s t h V e0) : e0 < a := by
  obtain ⟨-, -, -, -, c1, c2, c3, c4, c5, -⟩ := hC
  obtain ⟨j, h1, h2⟩ := ru_pick_ex (ru_ok_iff.mp c4) hT c2 c3
  rcases Nat.lt_or_ge j e0 with h3 | h3
  · rw [c5 j h3] at h2
    cases h2
  · omega
theorem df_left {a U e : Nat} (he : e < a) (hu : U.testBit e = false) : ru_left a (U ||| 2 ^ e) + 1 = ru_left a U := ru_left_st he hu
theorem df_used {U e : Nat} (hU : U < 2 ^ 14) (he : e < 14) : U ||| 2 ^ e < 2 ^ 14 := Nat.or_lt_two_pow hU (bi_pw he)

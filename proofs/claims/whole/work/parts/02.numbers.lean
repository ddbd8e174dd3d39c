/-! Java's numbers: bits (the first two families turned from the kit's rows to paste), find, the run of the packing -/
theorem bi_sl : ∀ n, n < 32 → ((nI n &&& 31).toBitVec.smod 32).toNat = n := by decide +kernel
theorem bi_sh : ∀ v, v < 31 → (1 : Int32) <<< (nI v &&& 31) = nI (2 ^ v) := by decide +kernel
theorem bi_and (a b : Nat) : nI a &&& nI b = nI (a &&& b) := by
  apply Int32.toBitVec_inj.1
  show BitVec.ofNat 32 a &&& BitVec.ofNat 32 b = BitVec.ofNat 32 (a &&& b)
  apply BitVec.eq_of_getLsbD_eq
  intro i hi
  simp [hi]
theorem bi_or (a b : Nat) : nI a ||| nI b = nI (a ||| b) := by
  apply Int32.toBitVec_inj.1
  show BitVec.ofNat 32 a ||| BitVec.ofNat 32 b = BitVec.ofNat 32 (a ||| b)
  apply BitVec.eq_of_getLsbD_eq
  intro i hi
  simp [hi]
theorem bi_xor (a b : Nat) : nI a ^^^ nI b = nI (a ^^^ b) := by
  apply Int32.toBitVec_inj.1
  show BitVec.ofNat 32 a ^^^ BitVec.ofNat 32 b = BitVec.ofNat 32 (a ^^^ b)
  apply BitVec.eq_of_getLsbD_eq
  intro i hi
  simp [hi]
theorem bi_bit0 {X v : Nat} : X &&& 2 ^ v = 0 ↔ X.testBit v = false := by
  constructor
  · intro h
    have h1 := congrArg (fun z => Nat.testBit z v) h
    simp only [Nat.testBit_and, Nat.zero_testBit, Nat.testBit_two_pow_self, Bool.and_true] at h1
    exact h1
  · intro h
    apply Nat.eq_of_testBit_eq
    intro i
    rw [Nat.testBit_and, Nat.testBit_two_pow, Nat.zero_testBit]
    by_cases hi : v = i
    · subst hi
      rw [h, Bool.false_and]
    · rw [decide_eq_false hi, Bool.and_false]
theorem bi_z {X Y : Nat} (hX : X < 2 ^ 31) : nI X &&& nI Y = 0 ↔ X &&& Y = 0 := by
  rw [bi_and, ← nI_0, nI_eq (Nat.lt_of_le_of_lt Nat.and_le_left hX) (by decide)]
theorem bi_tb {X v : Nat} (hX : X < 2 ^ 31) (hv : v < 31) : nI X &&& (1 : Int32) <<< (nI v &&& 31) = 0 ↔ X.testBit v = false := by
  rw [bi_sh v hv, bi_z hX, bi_bit0]
theorem bi_tn {X v : Nat} (hX : X < 2 ^ 31) (hv : v < 31) : ¬ nI X &&& (1 : Int32) <<< (nI v &&& 31) = 0 ↔ X.testBit v = true := by
  rw [bi_tb hX hv]
  cases X.testBit v <;> decide
theorem bi_sr {X k : Nat} (hX : X < 2 ^ 31) (hk : k < 32) : nI X >>> (nI k &&& 31) &&& 1 = nI (ed_b (X.testBit k)) := by
  rw [pk_shrN hX (nI k &&& 31) k (bi_sl k hk)]
  show nI (X / 2 ^ k) &&& nI 1 = _
  rw [bi_and, Nat.and_one_is_mod, Nat.testBit_eq_decide_div_mod_eq]
  rcases Nat.mod_two_eq_zero_or_one (X / 2 ^ k) with h | h <;> rw [h] <;> rfl
theorem bi_sr1 {X k : Nat} (hX : X < 2 ^ 31) (hk : k < 32) : nI X >>> (nI k &&& 31) &&& 1 = 1 ↔ X.testBit k = true := by
  rw [bi_sr hX hk]
  cases X.testBit k <;> decide
theorem bi_pw {v n : Nat} (h : v < n) : 2 ^ v < 2 ^ n := Nat.pow_lt_pow_right (by decide) h
theorem bi_p7 {n : Nat} (h : n ≤ 7) : 2 ^ n ≤ 128 := Nat.pow_le_pow_right (n := 2) (by decide) h
theorem bi_all {n : Nat} (h : n ≤ 7) : (1 : Int32) <<< (nI n &&& 31) - 1 = nI (2 ^ n - 1) := by
  rw [bi_sh n (by omega)]
  exact pk_sub (b := 1) (Nat.two_pow_pos n)
/-! the first place -/
def ed_fi (P : Nat → Bool) : Nat → Nat → Nat
  | 0, i => i
  | m + 1, i => if P i = true then i else ed_fi P m (i + 1)
def ed_fd (P : Nat → Bool) (a : Nat) : Nat := ed_fi P a 0
theorem ed_fi_eq (P : Nat → Bool) {e : Nat} (h : P e = true) : ∀ (m i : Nat), i ≤ e → e < i + m → (∀ j, i ≤ j → j < e → P j = false) → ed_fi P m i = e := by
  intro m
  induction m with
  | zero => intro i h1 h2; omega
  | succ m ih =>
    intro i h1 h2 hn
    show (if P i = true then i else ed_fi P m (i + 1)) = e
    by_cases hi : i = e
    · subst hi
      rw [if_pos h]
    · rw [if_neg (by rw [hn i (Nat.le_refl i) (by omega)]; decide)]
      exact ih (i + 1) (by omega) (by omega) (fun j h3 h4 => hn j (by omega) h4)
theorem ed_fi_no (P : Nat → Bool) : ∀ (m i : Nat), (∀ j, i ≤ j → j < i + m → P j = false) → ed_fi P m i = i + m := by
  intro m
  induction m with
  | zero => intro i _; rfl
  | succ m ih =>
    intro i hn
    show (if P i = true then i else ed_fi P m (i + 1)) = i + (m + 1)
    rw [if_neg (by rw [hn i (Nat.le_refl i) (by omega)]; decide), ih (i + 1) (fun j h3 h4 => hn j (by omega) (by omega))]
    omega
theorem ed_fd_eq {P : Nat → Bool} {a e : Nat} (he : e < a) (h : P e = true) (hn : ∀ j, j < e → P j = false) : ed_fd P a = e := ed_fi_eq P h a 0 (by omega) (by omega) (fun j _ h2 => hn j h2)
theorem ed_fd_no {P : Nat → Bool} {a : Nat} (hn : ∀ j, j < a → P j = false) : ed_fd P a = a := by
  rw [ed_fd, ed_fi_no P a 0 (fun j _ h2 => hn j (by omega))]
  omega
theorem ed_fd_ex {P : Nat → Bool} {a : Nat} (h : ∃ e, e < a ∧ P e = true) : ed_fd P a < a ∧ P (ed_fd P a) = true ∧ ∀ j, j < ed_fd P a → P j = false := by
  obtain ⟨e, ⟨h1, h2⟩, hm⟩ := pk_least (fun e => e < a ∧ P e = true) h
  have hn : ∀ j, j < e → P j = false := by
    intro j hj
    cases hp : P j with
    | false => rfl
    | true => exact absurd ⟨by omega, hp⟩ (hm j hj)
  rw [ed_fd_eq h1 h2 hn]
  exact ⟨h1, h2, hn⟩
theorem ed_fd_congr {P Q : Nat → Bool} {a : Nat} (h : ∀ j, j < a → P j = Q j) : ed_fd P a = ed_fd Q a := by
  by_cases he : ∃ e, e < a ∧ P e = true
  · obtain ⟨h1, h2, h3⟩ := ed_fd_ex he
    symm
    exact ed_fd_eq h1 (by rw [← h _ h1]; exact h2) (fun j hj => by rw [← h j (by omega)]; exact h3 j hj)
  · have hP : ∀ j, j < a → P j = false := by
      intro j hj
      cases hp : P j with
      | false => rfl
      | true => exact absurd ⟨j, hj, hp⟩ he
    rw [ed_fd_no hP, ed_fd_no (fun j hj => by rw [← h j hj]; exact hP j hj)]
/-! ORDER -/
def or_pop (X : Nat) : Nat := ed_ct X.testBit 7
def or_dif (X Y : Nat) : Nat := ed_fd (fun v => X.testBit v != Y.testBit v) 7
def or_bf (X Y : Nat) : Bool := if or_pop X = or_pop Y then decide (or_dif X Y < 7) && X.testBit (or_dif X Y) else decide (or_pop X < or_pop Y)
theorem or_low : ∀ D, D < 128 → nI D &&& -(nI D) = nI (if ed_fd (Nat.testBit D) 7 < 7 then 2 ^ ed_fd (Nat.testBit D) 7 else 0) := by decide +kernel
theorem or_dx (X Y : Nat) : or_dif X Y = ed_fd (Nat.testBit (X ^^^ Y)) 7 := by
  apply ed_fd_congr
  intro j _
  rw [Nat.testBit_xor]
theorem or_same {X Y : Nat} (hX : X < 128) (hY : Y < 128) : (nI X &&& ((nI X ^^^ nI Y) &&& -(nI X ^^^ nI Y)) = 0) ↔ (decide (or_dif X Y < 7) && X.testBit (or_dif X Y)) = false := by
  rw [bi_xor, or_low _ (Nat.xor_lt_two_pow (n := 7) hX hY), ← or_dx, bi_z (by omega)]
  by_cases h : or_dif X Y < 7
  · rw [if_pos h, decide_eq_true h, Bool.true_and, bi_bit0]
  · rw [if_neg h, decide_eq_false h, Bool.false_and, Nat.and_zero]
    exact ⟨fun _ => rfl, fun _ => rfl⟩
/-! the first set that stops -/
def fs_at (stp : Nat → Bool) : Nat → Nat
  | 0 => 0
  | m + 1 => if ((fs_at stp m == 0 || or_bf (m + 1) (fs_at stp m)) && stp (m + 1)) = true then m + 1 else fs_at stp m
theorem fs_le (stp : Nat → Bool) (m : Nat) : fs_at stp m ≤ m := by
  induction m with
  | zero => exact Nat.le_refl _
  | succ m ih =>
    show (if ((fs_at stp m == 0 || or_bf (m + 1) (fs_at stp m)) && stp (m + 1)) = true then m + 1 else fs_at stp m) ≤ m + 1
    split <;> omega
theorem fs_s (stp : Nat → Bool) (m : Nat) : fs_at stp (m + 1) = if ((fs_at stp m == 0 || or_bf (m + 1) (fs_at stp m)) && stp (m + 1)) = true then m + 1 else fs_at stp m := rfl
theorem fs_congr {f g : Nat → Bool} {m : Nat} (h : ∀ X, 0 < X → X ≤ m → f X = g X) : fs_at f m = fs_at g m := by
  induction m with
  | zero => rfl
  | succ m ih => rw [fs_s, fs_s, ih (fun X h0 h1 => h X h0 (by omega)), h (m + 1) (by omega) (by omega)]
theorem fs_0 (stp : Nat → Bool) (m : Nat) : fs_at stp m = 0 ↔ ∀ X, 0 < X → X ≤ m → stp X = false := by
  induction m with
  | zero => exact ⟨fun _ X h0 h1 => by omega, fun _ => rfl⟩
  | succ m ih =>
    rw [fs_s]
    by_cases h : fs_at stp m = 0
    · rw [h]
      have h1 := ih.mp h
      cases hs : stp (m + 1) with
      | true =>
        constructor
        · intro h2
          rw [show ((0 : Nat) == 0) = true from rfl, Bool.true_or, Bool.true_and, if_pos rfl] at h2
          omega
        · intro h2
          have h3 := h2 (m + 1) (by omega) (by omega)
          rw [hs] at h3
          cases h3
      | false =>
        constructor
        · intro _ X h0 hm
          by_cases hx : X = m + 1
          · rw [hx]
            exact hs
          · exact h1 X h0 (by omega)
        · intro _
          rw [Bool.and_false, if_neg (by decide)]
    · constructor
      · intro h2
        exfalso
        revert h2
        split
        · omega
        · exact h
      · intro h2
        exact absurd (ih.mpr (fun X h0 hm => h2 X h0 (by omega))) h
/-! truth as a number; arrays of naturals -/
theorem zb_0 {B : Bool} : nI (ed_b B) = 0 ↔ B = false := by cases B <;> decide
theorem zb_1 {B : Bool} : nI (ed_b B) = 1 ↔ B = true := by cases B <;> decide
theorem zb_n0 {B : Bool} : ¬ nI (ed_b B) = 0 ↔ B = true := by cases B <;> decide
theorem zb_n (B : Bool) : narrow .boolean (.int (nI (ed_b B))) = .int (nI (ed_b B)) := by cases B <;> rfl
def ar (T : Nat → Nat) : Nat → Int32 := fun i => nI (T i)
def up (T : Nat → Nat) (k v : Nat) : Nat → Nat := fun j => if j = k then v else T j
theorem ar_up (T : Nat → Nat) (k v : Nat) : upd (ar T) k (nI v) = ar (up T k v) := by
  funext j
  rw [ar, up, upd]
  split <;> rfl
theorem ar_at (T : Nat → Nat) {k : Nat} (h : k < 2 ^ 31) : ar T (nI k).toNatClampNeg = nI (T k) := by rw [nI_clamp h, ar]
theorem zb_t {P : Prop} [Decidable P] (h : P) : (1 : Int32) = nI (ed_b (decide P)) := by
  rw [decide_eq_true h]
  rfl
theorem zb_f {P : Prop} [Decidable P] (h : ¬ P) : (0 : Int32) = nI (ed_b (decide P)) := by
  rw [decide_eq_false h]
  rfl
theorem zb_T {B : Bool} (h : B = true) : (1 : Int32) = nI (ed_b B) := by
  rw [h]
  rfl
theorem zb_F {B : Bool} (h : B = false) : (0 : Int32) = nI (ed_b B) := by
  rw [h]
  rfl
theorem ii_1 (e : Nat) : nI e + Int32.ofInt 1 = nI (e + 1) := nI_1 e
theorem ii_m1 {e : Nat} (h : 0 < e) : nI e + Int32.ofInt (-1) = nI (e - 1) := by
  obtain ⟨k, rfl⟩ : ∃ k, e = k + 1 := ⟨e - 1, by omega⟩
  exact pk_m1 k
